abbrev b_Table_init : ByteArray := prog_6_method_1_code
abbrev y_Table_init : MethodName := { cls := "HazardTables$Table", name := "<init>", desc := "()V" }
abbrev w_Table_init : List Cond := .code y_Table_init b_Table_init 1 none :: WA
theorem d_Table_init_0 : decode b_Table_init 0 = .ok (.aload_n 0, 1) := by decide +kernel
theorem d_Table_init_1 : decode b_Table_init 1 = .ok (.invokespecial 5, 3) := by decide +kernel
theorem d_Table_init_4 : decode b_Table_init 4 = .ok (.aload_n 0, 1) := by decide +kernel
theorem d_Table_init_5 : decode b_Table_init 5 = .ok (.bipush 13, 2) := by decide +kernel
theorem d_Table_init_7 : decode b_Table_init 7 = .ok (.newarray .int, 2) := by decide +kernel
theorem d_Table_init_9 : decode b_Table_init 9 = .ok (.putfield 11, 3) := by decide +kernel
theorem d_Table_init_12 : decode b_Table_init 12 = .ok (.aload_n 0, 1) := by decide +kernel
theorem d_Table_init_13 : decode b_Table_init 13 = .ok (.bipush 117, 2) := by decide +kernel
theorem d_Table_init_15 : decode b_Table_init 15 = .ok (.newarray .int, 2) := by decide +kernel
theorem d_Table_init_17 : decode b_Table_init 17 = .ok (.putfield 15, 3) := by decide +kernel
theorem d_Table_init_20 : decode b_Table_init 20 = .ok (.aload_n 0, 1) := by decide +kernel
theorem d_Table_init_21 : decode b_Table_init 21 = .ok (.bipush 39, 2) := by decide +kernel
theorem d_Table_init_23 : decode b_Table_init 23 = .ok (.newarray .int, 2) := by decide +kernel
theorem d_Table_init_25 : decode b_Table_init 25 = .ok (.putfield 18, 3) := by decide +kernel
theorem d_Table_init_28 : decode b_Table_init 28 = .ok (.aload_n 0, 1) := by decide +kernel
theorem d_Table_init_29 : decode b_Table_init 29 = .ok (.sipush 390, 3) := by decide +kernel
theorem d_Table_init_32 : decode b_Table_init 32 = .ok (.newarray .byte, 2) := by decide +kernel
theorem d_Table_init_34 : decode b_Table_init 34 = .ok (.putfield 21, 3) := by decide +kernel
theorem d_Table_init_37 : decode b_Table_init 37 = .ok (.return_, 1) := by decide +kernel
abbrev b_Table_removeAll : ByteArray := prog_6_method_2_code
abbrev y_Table_removeAll : MethodName := { cls := "HazardTables$Table", name := "removeAll", desc := "()V" }
abbrev w_Table_removeAll : List Cond := .code y_Table_removeAll b_Table_removeAll 2 none :: WA
theorem d_Table_removeAll_0 : decode b_Table_removeAll 0 = .ok (.aload_n 0, 1) := by decide +kernel
theorem d_Table_removeAll_1 : decode b_Table_removeAll 1 = .ok (.iconst 0, 1) := by decide +kernel
theorem d_Table_removeAll_2 : decode b_Table_removeAll 2 = .ok (.putfield 25, 3) := by decide +kernel
theorem d_Table_removeAll_5 : decode b_Table_removeAll 5 = .ok (.aload_n 0, 1) := by decide +kernel
theorem d_Table_removeAll_6 : decode b_Table_removeAll 6 = .ok (.iconst 0, 1) := by decide +kernel
theorem d_Table_removeAll_7 : decode b_Table_removeAll 7 = .ok (.putfield 29, 3) := by decide +kernel
theorem d_Table_removeAll_10 : decode b_Table_removeAll 10 = .ok (.iconst 0, 1) := by decide +kernel
theorem d_Table_removeAll_11 : decode b_Table_removeAll 11 = .ok (.istore_n 1, 1) := by decide +kernel
theorem d_Table_removeAll_12 : decode b_Table_removeAll 12 = .ok (.iload_n 1, 1) := by decide +kernel
theorem d_Table_removeAll_13 : decode b_Table_removeAll 13 = .ok (.aload_n 0, 1) := by decide +kernel
theorem d_Table_removeAll_14 : decode b_Table_removeAll 14 = .ok (.getfield 15, 3) := by decide +kernel
theorem d_Table_removeAll_17 : decode b_Table_removeAll 17 = .ok (.arraylength, 1) := by decide +kernel
theorem d_Table_removeAll_18 : decode b_Table_removeAll 18 = .ok (.if_icmp .ge 16, 3) := by decide +kernel
theorem d_Table_removeAll_21 : decode b_Table_removeAll 21 = .ok (.aload_n 0, 1) := by decide +kernel
theorem d_Table_removeAll_22 : decode b_Table_removeAll 22 = .ok (.getfield 15, 3) := by decide +kernel
theorem d_Table_removeAll_25 : decode b_Table_removeAll 25 = .ok (.iload_n 1, 1) := by decide +kernel
theorem d_Table_removeAll_26 : decode b_Table_removeAll 26 = .ok (.iconst 0, 1) := by decide +kernel
theorem d_Table_removeAll_27 : decode b_Table_removeAll 27 = .ok (.iastore, 1) := by decide +kernel
theorem d_Table_removeAll_28 : decode b_Table_removeAll 28 = .ok (.iinc 1 1, 3) := by decide +kernel
theorem d_Table_removeAll_31 : decode b_Table_removeAll 31 = .ok (.goto (-19), 3) := by decide +kernel
theorem d_Table_removeAll_34 : decode b_Table_removeAll 34 = .ok (.return_, 1) := by decide +kernel
abbrev b_Table_isFull : ByteArray := prog_6_method_3_code
abbrev y_Table_isFull : MethodName := { cls := "HazardTables$Table", name := "isFull", desc := "()Z" }
abbrev w_Table_isFull : List Cond := .code y_Table_isFull b_Table_isFull 1 (some .boolean) :: WA
theorem d_Table_isFull_0 : decode b_Table_isFull 0 = .ok (.aload_n 0, 1) := by decide +kernel
theorem d_Table_isFull_1 : decode b_Table_isFull 1 = .ok (.getfield 25, 3) := by decide +kernel
theorem d_Table_isFull_4 : decode b_Table_isFull 4 = .ok (.bipush 12, 2) := by decide +kernel
theorem d_Table_isFull_6 : decode b_Table_isFull 6 = .ok (.if_icmp .lt 7, 3) := by decide +kernel
theorem d_Table_isFull_9 : decode b_Table_isFull 9 = .ok (.iconst 1, 1) := by decide +kernel
theorem d_Table_isFull_10 : decode b_Table_isFull 10 = .ok (.goto 4, 3) := by decide +kernel
theorem d_Table_isFull_13 : decode b_Table_isFull 13 = .ok (.iconst 0, 1) := by decide +kernel
theorem d_Table_isFull_14 : decode b_Table_isFull 14 = .ok (.ireturn, 1) := by decide +kernel
abbrev b_Table_append : ByteArray := prog_6_method_4_code
abbrev y_Table_append : MethodName := { cls := "HazardTables$Table", name := "append", desc := "(I)V" }
abbrev w_Table_append : List Cond := .code y_Table_append b_Table_append 2 none :: WA
theorem d_Table_append_0 : decode b_Table_append 0 = .ok (.aload_n 0, 1) := by decide +kernel
theorem d_Table_append_1 : decode b_Table_append 1 = .ok (.invokevirtual 33, 3) := by decide +kernel
theorem d_Table_append_4 : decode b_Table_append 4 = .ok (.ifCond .ne 23, 3) := by decide +kernel
theorem d_Table_append_7 : decode b_Table_append 7 = .ok (.aload_n 0, 1) := by decide +kernel
theorem d_Table_append_8 : decode b_Table_append 8 = .ok (.dup, 1) := by decide +kernel
theorem d_Table_append_9 : decode b_Table_append 9 = .ok (.getfield 25, 3) := by decide +kernel
theorem d_Table_append_12 : decode b_Table_append 12 = .ok (.iconst 1, 1) := by decide +kernel
theorem d_Table_append_13 : decode b_Table_append 13 = .ok (.iadd, 1) := by decide +kernel
theorem d_Table_append_14 : decode b_Table_append 14 = .ok (.putfield 25, 3) := by decide +kernel
theorem d_Table_append_17 : decode b_Table_append 17 = .ok (.aload_n 0, 1) := by decide +kernel
theorem d_Table_append_18 : decode b_Table_append 18 = .ok (.getfield 11, 3) := by decide +kernel
theorem d_Table_append_21 : decode b_Table_append 21 = .ok (.aload_n 0, 1) := by decide +kernel
theorem d_Table_append_22 : decode b_Table_append 22 = .ok (.getfield 25, 3) := by decide +kernel
theorem d_Table_append_25 : decode b_Table_append 25 = .ok (.iload_n 1, 1) := by decide +kernel
theorem d_Table_append_26 : decode b_Table_append 26 = .ok (.iastore, 1) := by decide +kernel
theorem d_Table_append_27 : decode b_Table_append 27 = .ok (.return_, 1) := by decide +kernel
abbrev b_Table_rowOf : ByteArray := prog_6_method_5_code
abbrev y_Table_rowOf : MethodName := { cls := "HazardTables$Table", name := "rowOf", desc := "(I)I" }
abbrev w_Table_rowOf : List Cond := .code y_Table_rowOf b_Table_rowOf 3 (some .int) :: WA
theorem d_Table_rowOf_0 : decode b_Table_rowOf 0 = .ok (.iconst 1, 1) := by decide +kernel
theorem d_Table_rowOf_1 : decode b_Table_rowOf 1 = .ok (.istore_n 2, 1) := by decide +kernel
theorem d_Table_rowOf_2 : decode b_Table_rowOf 2 = .ok (.iload_n 2, 1) := by decide +kernel
theorem d_Table_rowOf_3 : decode b_Table_rowOf 3 = .ok (.aload_n 0, 1) := by decide +kernel
theorem d_Table_rowOf_4 : decode b_Table_rowOf 4 = .ok (.getfield 25, 3) := by decide +kernel
theorem d_Table_rowOf_7 : decode b_Table_rowOf 7 = .ok (.if_icmp .gt 27, 3) := by decide +kernel
theorem d_Table_rowOf_10 : decode b_Table_rowOf 10 = .ok (.iload_n 2, 1) := by decide +kernel
theorem d_Table_rowOf_11 : decode b_Table_rowOf 11 = .ok (.bipush 13, 2) := by decide +kernel
theorem d_Table_rowOf_13 : decode b_Table_rowOf 13 = .ok (.if_icmp .ge 21, 3) := by decide +kernel
theorem d_Table_rowOf_16 : decode b_Table_rowOf 16 = .ok (.aload_n 0, 1) := by decide +kernel
theorem d_Table_rowOf_17 : decode b_Table_rowOf 17 = .ok (.getfield 11, 3) := by decide +kernel
theorem d_Table_rowOf_20 : decode b_Table_rowOf 20 = .ok (.iload_n 2, 1) := by decide +kernel
theorem d_Table_rowOf_21 : decode b_Table_rowOf 21 = .ok (.iaload, 1) := by decide +kernel
theorem d_Table_rowOf_22 : decode b_Table_rowOf 22 = .ok (.iload_n 1, 1) := by decide +kernel
theorem d_Table_rowOf_23 : decode b_Table_rowOf 23 = .ok (.if_icmp .ne 5, 3) := by decide +kernel
theorem d_Table_rowOf_26 : decode b_Table_rowOf 26 = .ok (.iload_n 2, 1) := by decide +kernel
theorem d_Table_rowOf_27 : decode b_Table_rowOf 27 = .ok (.ireturn, 1) := by decide +kernel
theorem d_Table_rowOf_28 : decode b_Table_rowOf 28 = .ok (.iinc 2 1, 3) := by decide +kernel
theorem d_Table_rowOf_31 : decode b_Table_rowOf 31 = .ok (.goto (-29), 3) := by decide +kernel
theorem d_Table_rowOf_34 : decode b_Table_rowOf 34 = .ok (.iconst (-1), 1) := by decide +kernel
theorem d_Table_rowOf_35 : decode b_Table_rowOf 35 = .ok (.ireturn, 1) := by decide +kernel
abbrev b_Table_rowOfOthers : ByteArray := prog_6_method_6_code
abbrev y_Table_rowOfOthers : MethodName := { cls := "HazardTables$Table", name := "rowOfOthers", desc := "()I" }
abbrev w_Table_rowOfOthers : List Cond := .code y_Table_rowOfOthers b_Table_rowOfOthers 1 (some .int) :: WA
theorem d_Table_rowOfOthers_0 : decode b_Table_rowOfOthers 0 = .ok (.aload_n 0, 1) := by decide +kernel
theorem d_Table_rowOfOthers_1 : decode b_Table_rowOfOthers 1 = .ok (.getfield 29, 3) := by decide +kernel
theorem d_Table_rowOfOthers_4 : decode b_Table_rowOfOthers 4 = .ok (.ifCond .eq 7, 3) := by decide +kernel
theorem d_Table_rowOfOthers_7 : decode b_Table_rowOfOthers 7 = .ok (.iconst 0, 1) := by decide +kernel
theorem d_Table_rowOfOthers_8 : decode b_Table_rowOfOthers 8 = .ok (.goto 4, 3) := by decide +kernel
theorem d_Table_rowOfOthers_11 : decode b_Table_rowOfOthers 11 = .ok (.iconst (-1), 1) := by decide +kernel
theorem d_Table_rowOfOthers_12 : decode b_Table_rowOfOthers 12 = .ok (.ireturn, 1) := by decide +kernel
abbrev b_Table_cell : ByteArray := prog_6_method_7_code
abbrev y_Table_cell : MethodName := { cls := "HazardTables$Table", name := "cell", desc := "(II)I" }
abbrev w_Table_cell : List Cond := .code y_Table_cell b_Table_cell 4 (some .int) :: WA
theorem d_Table_cell_0 : decode b_Table_cell 0 = .ok (.iload_n 1, 1) := by decide +kernel
theorem d_Table_cell_1 : decode b_Table_cell 1 = .ok (.bipush 9, 2) := by decide +kernel
theorem d_Table_cell_3 : decode b_Table_cell 3 = .ok (.imul, 1) := by decide +kernel
theorem d_Table_cell_4 : decode b_Table_cell 4 = .ok (.iload_n 2, 1) := by decide +kernel
theorem d_Table_cell_5 : decode b_Table_cell 5 = .ok (.iadd, 1) := by decide +kernel
theorem d_Table_cell_6 : decode b_Table_cell 6 = .ok (.istore_n 3, 1) := by decide +kernel
theorem d_Table_cell_7 : decode b_Table_cell 7 = .ok (.iload_n 3, 1) := by decide +kernel
theorem d_Table_cell_8 : decode b_Table_cell 8 = .ok (.ifCond .lt 21, 3) := by decide +kernel
theorem d_Table_cell_11 : decode b_Table_cell 11 = .ok (.iload_n 3, 1) := by decide +kernel
theorem d_Table_cell_12 : decode b_Table_cell 12 = .ok (.aload_n 0, 1) := by decide +kernel
theorem d_Table_cell_13 : decode b_Table_cell 13 = .ok (.getfield 15, 3) := by decide +kernel
theorem d_Table_cell_16 : decode b_Table_cell 16 = .ok (.arraylength, 1) := by decide +kernel
theorem d_Table_cell_17 : decode b_Table_cell 17 = .ok (.if_icmp .ge 12, 3) := by decide +kernel
theorem d_Table_cell_20 : decode b_Table_cell 20 = .ok (.aload_n 0, 1) := by decide +kernel
theorem d_Table_cell_21 : decode b_Table_cell 21 = .ok (.getfield 15, 3) := by decide +kernel
theorem d_Table_cell_24 : decode b_Table_cell 24 = .ok (.iload_n 3, 1) := by decide +kernel
theorem d_Table_cell_25 : decode b_Table_cell 25 = .ok (.iaload, 1) := by decide +kernel
theorem d_Table_cell_26 : decode b_Table_cell 26 = .ok (.goto 4, 3) := by decide +kernel
theorem d_Table_cell_29 : decode b_Table_cell 29 = .ok (.iconst 0, 1) := by decide +kernel
theorem d_Table_cell_30 : decode b_Table_cell 30 = .ok (.ireturn, 1) := by decide +kernel
abbrev b_Table_setCell : ByteArray := prog_6_method_8_code
abbrev y_Table_setCell : MethodName := { cls := "HazardTables$Table", name := "setCell", desc := "(III)V" }
abbrev w_Table_setCell : List Cond := .code y_Table_setCell b_Table_setCell 5 none :: WA
theorem d_Table_setCell_0 : decode b_Table_setCell 0 = .ok (.iload_n 1, 1) := by decide +kernel
theorem d_Table_setCell_1 : decode b_Table_setCell 1 = .ok (.bipush 9, 2) := by decide +kernel
theorem d_Table_setCell_3 : decode b_Table_setCell 3 = .ok (.imul, 1) := by decide +kernel
theorem d_Table_setCell_4 : decode b_Table_setCell 4 = .ok (.iload_n 2, 1) := by decide +kernel
theorem d_Table_setCell_5 : decode b_Table_setCell 5 = .ok (.iadd, 1) := by decide +kernel
theorem d_Table_setCell_6 : decode b_Table_setCell 6 = .ok (.istore 4, 2) := by decide +kernel
theorem d_Table_setCell_8 : decode b_Table_setCell 8 = .ok (.iload 4, 2) := by decide +kernel
theorem d_Table_setCell_10 : decode b_Table_setCell 10 = .ok (.ifCond .lt 21, 3) := by decide +kernel
theorem d_Table_setCell_13 : decode b_Table_setCell 13 = .ok (.iload 4, 2) := by decide +kernel
theorem d_Table_setCell_15 : decode b_Table_setCell 15 = .ok (.aload_n 0, 1) := by decide +kernel
theorem d_Table_setCell_16 : decode b_Table_setCell 16 = .ok (.getfield 15, 3) := by decide +kernel
theorem d_Table_setCell_19 : decode b_Table_setCell 19 = .ok (.arraylength, 1) := by decide +kernel
theorem d_Table_setCell_20 : decode b_Table_setCell 20 = .ok (.if_icmp .ge 11, 3) := by decide +kernel
theorem d_Table_setCell_23 : decode b_Table_setCell 23 = .ok (.aload_n 0, 1) := by decide +kernel
theorem d_Table_setCell_24 : decode b_Table_setCell 24 = .ok (.getfield 15, 3) := by decide +kernel
theorem d_Table_setCell_27 : decode b_Table_setCell 27 = .ok (.iload 4, 2) := by decide +kernel
theorem d_Table_setCell_29 : decode b_Table_setCell 29 = .ok (.iload_n 3, 1) := by decide +kernel
theorem d_Table_setCell_30 : decode b_Table_setCell 30 = .ok (.iastore, 1) := by decide +kernel
theorem d_Table_setCell_31 : decode b_Table_setCell 31 = .ok (.return_, 1) := by decide +kernel
abbrev b_Table_nameLength : ByteArray := prog_6_method_9_code
abbrev y_Table_nameLength : MethodName := { cls := "HazardTables$Table", name := "nameLength", desc := "(II)I" }
abbrev w_Table_nameLength : List Cond := .code y_Table_nameLength b_Table_nameLength 4 (some .int) :: WA
theorem d_Table_nameLength_0 : decode b_Table_nameLength 0 = .ok (.iload_n 1, 1) := by decide +kernel
theorem d_Table_nameLength_1 : decode b_Table_nameLength 1 = .ok (.iconst 3, 1) := by decide +kernel
theorem d_Table_nameLength_2 : decode b_Table_nameLength 2 = .ok (.imul, 1) := by decide +kernel
theorem d_Table_nameLength_3 : decode b_Table_nameLength 3 = .ok (.iload_n 2, 1) := by decide +kernel
theorem d_Table_nameLength_4 : decode b_Table_nameLength 4 = .ok (.iadd, 1) := by decide +kernel
theorem d_Table_nameLength_5 : decode b_Table_nameLength 5 = .ok (.istore_n 3, 1) := by decide +kernel
theorem d_Table_nameLength_6 : decode b_Table_nameLength 6 = .ok (.iload_n 3, 1) := by decide +kernel
theorem d_Table_nameLength_7 : decode b_Table_nameLength 7 = .ok (.ifCond .lt 21, 3) := by decide +kernel
theorem d_Table_nameLength_10 : decode b_Table_nameLength 10 = .ok (.iload_n 3, 1) := by decide +kernel
theorem d_Table_nameLength_11 : decode b_Table_nameLength 11 = .ok (.aload_n 0, 1) := by decide +kernel
theorem d_Table_nameLength_12 : decode b_Table_nameLength 12 = .ok (.getfield 18, 3) := by decide +kernel
theorem d_Table_nameLength_15 : decode b_Table_nameLength 15 = .ok (.arraylength, 1) := by decide +kernel
theorem d_Table_nameLength_16 : decode b_Table_nameLength 16 = .ok (.if_icmp .ge 12, 3) := by decide +kernel
theorem d_Table_nameLength_19 : decode b_Table_nameLength 19 = .ok (.aload_n 0, 1) := by decide +kernel
theorem d_Table_nameLength_20 : decode b_Table_nameLength 20 = .ok (.getfield 18, 3) := by decide +kernel
theorem d_Table_nameLength_23 : decode b_Table_nameLength 23 = .ok (.iload_n 3, 1) := by decide +kernel
theorem d_Table_nameLength_24 : decode b_Table_nameLength 24 = .ok (.iaload, 1) := by decide +kernel
theorem d_Table_nameLength_25 : decode b_Table_nameLength 25 = .ok (.goto 4, 3) := by decide +kernel
theorem d_Table_nameLength_28 : decode b_Table_nameLength 28 = .ok (.iconst 0, 1) := by decide +kernel
theorem d_Table_nameLength_29 : decode b_Table_nameLength 29 = .ok (.ireturn, 1) := by decide +kernel
abbrev b_Table_nameLetter : ByteArray := prog_6_method_10_code
abbrev y_Table_nameLetter : MethodName := { cls := "HazardTables$Table", name := "nameLetter", desc := "(III)I" }
abbrev w_Table_nameLetter : List Cond := .code y_Table_nameLetter b_Table_nameLetter 5 (some .int) :: WA
theorem d_Table_nameLetter_0 : decode b_Table_nameLetter 0 = .ok (.iload_n 1, 1) := by decide +kernel
theorem d_Table_nameLetter_1 : decode b_Table_nameLetter 1 = .ok (.iconst 3, 1) := by decide +kernel
theorem d_Table_nameLetter_2 : decode b_Table_nameLetter 2 = .ok (.imul, 1) := by decide +kernel
theorem d_Table_nameLetter_3 : decode b_Table_nameLetter 3 = .ok (.iload_n 2, 1) := by decide +kernel
theorem d_Table_nameLetter_4 : decode b_Table_nameLetter 4 = .ok (.iadd, 1) := by decide +kernel
theorem d_Table_nameLetter_5 : decode b_Table_nameLetter 5 = .ok (.bipush 10, 2) := by decide +kernel
theorem d_Table_nameLetter_7 : decode b_Table_nameLetter 7 = .ok (.imul, 1) := by decide +kernel
theorem d_Table_nameLetter_8 : decode b_Table_nameLetter 8 = .ok (.iload_n 3, 1) := by decide +kernel
theorem d_Table_nameLetter_9 : decode b_Table_nameLetter 9 = .ok (.iadd, 1) := by decide +kernel
theorem d_Table_nameLetter_10 : decode b_Table_nameLetter 10 = .ok (.istore 4, 2) := by decide +kernel
theorem d_Table_nameLetter_12 : decode b_Table_nameLetter 12 = .ok (.iload 4, 2) := by decide +kernel
theorem d_Table_nameLetter_14 : decode b_Table_nameLetter 14 = .ok (.ifCond .lt 23, 3) := by decide +kernel
theorem d_Table_nameLetter_17 : decode b_Table_nameLetter 17 = .ok (.iload 4, 2) := by decide +kernel
theorem d_Table_nameLetter_19 : decode b_Table_nameLetter 19 = .ok (.aload_n 0, 1) := by decide +kernel
theorem d_Table_nameLetter_20 : decode b_Table_nameLetter 20 = .ok (.getfield 21, 3) := by decide +kernel
theorem d_Table_nameLetter_23 : decode b_Table_nameLetter 23 = .ok (.arraylength, 1) := by decide +kernel
theorem d_Table_nameLetter_24 : decode b_Table_nameLetter 24 = .ok (.if_icmp .ge 13, 3) := by decide +kernel
theorem d_Table_nameLetter_27 : decode b_Table_nameLetter 27 = .ok (.aload_n 0, 1) := by decide +kernel
theorem d_Table_nameLetter_28 : decode b_Table_nameLetter 28 = .ok (.getfield 21, 3) := by decide +kernel
theorem d_Table_nameLetter_31 : decode b_Table_nameLetter 31 = .ok (.iload 4, 2) := by decide +kernel
theorem d_Table_nameLetter_33 : decode b_Table_nameLetter 33 = .ok (.baload, 1) := by decide +kernel
theorem d_Table_nameLetter_34 : decode b_Table_nameLetter 34 = .ok (.goto 4, 3) := by decide +kernel
theorem d_Table_nameLetter_37 : decode b_Table_nameLetter 37 = .ok (.iconst 0, 1) := by decide +kernel
theorem d_Table_nameLetter_38 : decode b_Table_nameLetter 38 = .ok (.ireturn, 1) := by decide +kernel
abbrev b_Table_setNameLetter : ByteArray := prog_6_method_11_code
abbrev y_Table_setNameLetter : MethodName := { cls := "HazardTables$Table", name := "setNameLetter", desc := "(IIII)V" }
abbrev w_Table_setNameLetter : List Cond := .code y_Table_setNameLetter b_Table_setNameLetter 6 none :: WA
theorem d_Table_setNameLetter_0 : decode b_Table_setNameLetter 0 = .ok (.iload_n 1, 1) := by decide +kernel
theorem d_Table_setNameLetter_1 : decode b_Table_setNameLetter 1 = .ok (.iconst 3, 1) := by decide +kernel
theorem d_Table_setNameLetter_2 : decode b_Table_setNameLetter 2 = .ok (.imul, 1) := by decide +kernel
theorem d_Table_setNameLetter_3 : decode b_Table_setNameLetter 3 = .ok (.iload_n 2, 1) := by decide +kernel
theorem d_Table_setNameLetter_4 : decode b_Table_setNameLetter 4 = .ok (.iadd, 1) := by decide +kernel
theorem d_Table_setNameLetter_5 : decode b_Table_setNameLetter 5 = .ok (.bipush 10, 2) := by decide +kernel
theorem d_Table_setNameLetter_7 : decode b_Table_setNameLetter 7 = .ok (.imul, 1) := by decide +kernel
theorem d_Table_setNameLetter_8 : decode b_Table_setNameLetter 8 = .ok (.iload_n 3, 1) := by decide +kernel
theorem d_Table_setNameLetter_9 : decode b_Table_setNameLetter 9 = .ok (.iadd, 1) := by decide +kernel
theorem d_Table_setNameLetter_10 : decode b_Table_setNameLetter 10 = .ok (.istore 5, 2) := by decide +kernel
theorem d_Table_setNameLetter_12 : decode b_Table_setNameLetter 12 = .ok (.iload 5, 2) := by decide +kernel
theorem d_Table_setNameLetter_14 : decode b_Table_setNameLetter 14 = .ok (.ifCond .lt 23, 3) := by decide +kernel
theorem d_Table_setNameLetter_17 : decode b_Table_setNameLetter 17 = .ok (.iload 5, 2) := by decide +kernel
theorem d_Table_setNameLetter_19 : decode b_Table_setNameLetter 19 = .ok (.aload_n 0, 1) := by decide +kernel
theorem d_Table_setNameLetter_20 : decode b_Table_setNameLetter 20 = .ok (.getfield 21, 3) := by decide +kernel
theorem d_Table_setNameLetter_23 : decode b_Table_setNameLetter 23 = .ok (.arraylength, 1) := by decide +kernel
theorem d_Table_setNameLetter_24 : decode b_Table_setNameLetter 24 = .ok (.if_icmp .ge 13, 3) := by decide +kernel
theorem d_Table_setNameLetter_27 : decode b_Table_setNameLetter 27 = .ok (.aload_n 0, 1) := by decide +kernel
theorem d_Table_setNameLetter_28 : decode b_Table_setNameLetter 28 = .ok (.getfield 21, 3) := by decide +kernel
theorem d_Table_setNameLetter_31 : decode b_Table_setNameLetter 31 = .ok (.iload 5, 2) := by decide +kernel
theorem d_Table_setNameLetter_33 : decode b_Table_setNameLetter 33 = .ok (.iload 4, 2) := by decide +kernel
theorem d_Table_setNameLetter_35 : decode b_Table_setNameLetter 35 = .ok (.i2b, 1) := by decide +kernel
theorem d_Table_setNameLetter_36 : decode b_Table_setNameLetter 36 = .ok (.bastore, 1) := by decide +kernel
theorem d_Table_setNameLetter_37 : decode b_Table_setNameLetter 37 = .ok (.return_, 1) := by decide +kernel
abbrev b_Table_endName : ByteArray := prog_6_method_12_code
abbrev y_Table_endName : MethodName := { cls := "HazardTables$Table", name := "endName", desc := "(III)V" }
abbrev w_Table_endName : List Cond := .code y_Table_endName b_Table_endName 5 none :: WA
theorem d_Table_endName_0 : decode b_Table_endName 0 = .ok (.iload_n 1, 1) := by decide +kernel
theorem d_Table_endName_1 : decode b_Table_endName 1 = .ok (.iconst 3, 1) := by decide +kernel
theorem d_Table_endName_2 : decode b_Table_endName 2 = .ok (.imul, 1) := by decide +kernel
theorem d_Table_endName_3 : decode b_Table_endName 3 = .ok (.iload_n 2, 1) := by decide +kernel
theorem d_Table_endName_4 : decode b_Table_endName 4 = .ok (.iadd, 1) := by decide +kernel
theorem d_Table_endName_5 : decode b_Table_endName 5 = .ok (.istore 4, 2) := by decide +kernel
theorem d_Table_endName_7 : decode b_Table_endName 7 = .ok (.iload 4, 2) := by decide +kernel
theorem d_Table_endName_9 : decode b_Table_endName 9 = .ok (.ifCond .lt 21, 3) := by decide +kernel
theorem d_Table_endName_12 : decode b_Table_endName 12 = .ok (.iload 4, 2) := by decide +kernel
theorem d_Table_endName_14 : decode b_Table_endName 14 = .ok (.aload_n 0, 1) := by decide +kernel
theorem d_Table_endName_15 : decode b_Table_endName 15 = .ok (.getfield 18, 3) := by decide +kernel
theorem d_Table_endName_18 : decode b_Table_endName 18 = .ok (.arraylength, 1) := by decide +kernel
theorem d_Table_endName_19 : decode b_Table_endName 19 = .ok (.if_icmp .ge 11, 3) := by decide +kernel
theorem d_Table_endName_22 : decode b_Table_endName 22 = .ok (.aload_n 0, 1) := by decide +kernel
theorem d_Table_endName_23 : decode b_Table_endName 23 = .ok (.getfield 18, 3) := by decide +kernel
theorem d_Table_endName_26 : decode b_Table_endName 26 = .ok (.iload 4, 2) := by decide +kernel
theorem d_Table_endName_28 : decode b_Table_endName 28 = .ok (.iload_n 3, 1) := by decide +kernel
theorem d_Table_endName_29 : decode b_Table_endName 29 = .ok (.iastore, 1) := by decide +kernel
theorem d_Table_endName_30 : decode b_Table_endName 30 = .ok (.aload_n 0, 1) := by decide +kernel
theorem d_Table_endName_31 : decode b_Table_endName 31 = .ok (.iload_n 1, 1) := by decide +kernel
theorem d_Table_endName_32 : decode b_Table_endName 32 = .ok (.bipush 8, 2) := by decide +kernel
theorem d_Table_endName_34 : decode b_Table_endName 34 = .ok (.iload_n 2, 1) := by decide +kernel
theorem d_Table_endName_35 : decode b_Table_endName 35 = .ok (.iconst 1, 1) := by decide +kernel
theorem d_Table_endName_36 : decode b_Table_endName 36 = .ok (.iadd, 1) := by decide +kernel
theorem d_Table_endName_37 : decode b_Table_endName 37 = .ok (.invokevirtual 37, 3) := by decide +kernel
theorem d_Table_endName_40 : decode b_Table_endName 40 = .ok (.return_, 1) := by decide +kernel
abbrev b_Table_contradict : ByteArray := prog_6_method_13_code
abbrev y_Table_contradict : MethodName := { cls := "HazardTables$Table", name := "contradict", desc := "(II)Z" }
abbrev w_Table_contradict : List Cond := .code y_Table_contradict b_Table_contradict 3 (some .boolean) :: WA
theorem d_Table_contradict_0 : decode b_Table_contradict 0 = .ok (.aload_n 0, 1) := by decide +kernel
theorem d_Table_contradict_1 : decode b_Table_contradict 1 = .ok (.iload_n 1, 1) := by decide +kernel
theorem d_Table_contradict_2 : decode b_Table_contradict 2 = .ok (.bipush 7, 2) := by decide +kernel
theorem d_Table_contradict_4 : decode b_Table_contradict 4 = .ok (.invokevirtual 41, 3) := by decide +kernel
theorem d_Table_contradict_7 : decode b_Table_contradict 7 = .ok (.aload_n 0, 1) := by decide +kernel
theorem d_Table_contradict_8 : decode b_Table_contradict 8 = .ok (.iload_n 2, 1) := by decide +kernel
theorem d_Table_contradict_9 : decode b_Table_contradict 9 = .ok (.iconst 0, 1) := by decide +kernel
theorem d_Table_contradict_10 : decode b_Table_contradict 10 = .ok (.invokevirtual 41, 3) := by decide +kernel
theorem d_Table_contradict_13 : decode b_Table_contradict 13 = .ok (.invokestatic 45, 3) := by decide +kernel
theorem d_Table_contradict_16 : decode b_Table_contradict 16 = .ok (.ifCond .ne 22, 3) := by decide +kernel
theorem d_Table_contradict_19 : decode b_Table_contradict 19 = .ok (.aload_n 0, 1) := by decide +kernel
theorem d_Table_contradict_20 : decode b_Table_contradict 20 = .ok (.iload_n 2, 1) := by decide +kernel
theorem d_Table_contradict_21 : decode b_Table_contradict 21 = .ok (.bipush 7, 2) := by decide +kernel
theorem d_Table_contradict_23 : decode b_Table_contradict 23 = .ok (.invokevirtual 41, 3) := by decide +kernel
theorem d_Table_contradict_26 : decode b_Table_contradict 26 = .ok (.aload_n 0, 1) := by decide +kernel
theorem d_Table_contradict_27 : decode b_Table_contradict 27 = .ok (.iload_n 1, 1) := by decide +kernel
theorem d_Table_contradict_28 : decode b_Table_contradict 28 = .ok (.iconst 0, 1) := by decide +kernel
theorem d_Table_contradict_29 : decode b_Table_contradict 29 = .ok (.invokevirtual 41, 3) := by decide +kernel
theorem d_Table_contradict_32 : decode b_Table_contradict 32 = .ok (.invokestatic 45, 3) := by decide +kernel
theorem d_Table_contradict_35 : decode b_Table_contradict 35 = .ok (.ifCond .eq 7, 3) := by decide +kernel
theorem d_Table_contradict_38 : decode b_Table_contradict 38 = .ok (.iconst 1, 1) := by decide +kernel
theorem d_Table_contradict_39 : decode b_Table_contradict 39 = .ok (.goto 4, 3) := by decide +kernel
theorem d_Table_contradict_42 : decode b_Table_contradict 42 = .ok (.iconst 0, 1) := by decide +kernel
theorem d_Table_contradict_43 : decode b_Table_contradict 43 = .ok (.ireturn, 1) := by decide +kernel
abbrev b_Table_hasInBits : ByteArray := prog_6_method_14_code
abbrev y_Table_hasInBits : MethodName := { cls := "HazardTables$Table", name := "hasInBits", desc := "(II)Z" }
abbrev w_Table_hasInBits : List Cond := .code y_Table_hasInBits b_Table_hasInBits 2 (some .boolean) :: WA
theorem d_Table_hasInBits_0 : decode b_Table_hasInBits 0 = .ok (.iload_n 0, 1) := by decide +kernel
theorem d_Table_hasInBits_1 : decode b_Table_hasInBits 1 = .ok (.iload_n 1, 1) := by decide +kernel
theorem d_Table_hasInBits_2 : decode b_Table_hasInBits 2 = .ok (.ishr, 1) := by decide +kernel
theorem d_Table_hasInBits_3 : decode b_Table_hasInBits 3 = .ok (.iconst 1, 1) := by decide +kernel
theorem d_Table_hasInBits_4 : decode b_Table_hasInBits 4 = .ok (.iand, 1) := by decide +kernel
theorem d_Table_hasInBits_5 : decode b_Table_hasInBits 5 = .ok (.iconst 1, 1) := by decide +kernel
theorem d_Table_hasInBits_6 : decode b_Table_hasInBits 6 = .ok (.if_icmp .ne 7, 3) := by decide +kernel
theorem d_Table_hasInBits_9 : decode b_Table_hasInBits 9 = .ok (.iconst 1, 1) := by decide +kernel
theorem d_Table_hasInBits_10 : decode b_Table_hasInBits 10 = .ok (.goto 4, 3) := by decide +kernel
theorem d_Table_hasInBits_13 : decode b_Table_hasInBits 13 = .ok (.iconst 0, 1) := by decide +kernel
theorem d_Table_hasInBits_14 : decode b_Table_hasInBits 14 = .ok (.ireturn, 1) := by decide +kernel
noncomputable def init_Table : STable := ((fun _ => 0), (fun _ => 0), (fun _ => 0), (fun _ => 0), 0, false)
set_option maxHeartbeats 4000000 in
set_option maxRecDepth 100000 in
theorem k_Table_init (l : Launch) (dC : Nat → ClassId) (dI : Nat → Nat → Nat) (h0 sz : Nat) : Met l y_Table_init w_Table_init ({ frames := 1, cells := 4, slots := 559, locals := 12 }) (cPc (dC, dI) [(h0, .inr (4, [.null, .null, .null, .null, .int 0, .int 0]))] [] sz [.ref h0]) (va_Qv (fun (u : STable) => u = init_Table) (fun (u : STable) (t : State) => ∃ (ad : Nat → Nat) (cA : Nat → ClassId), ad 0 = h0 ∧ va_P (dC, dI) vwCl (uw_Table ad cA u) t.heap ∧ va_K (dC, dI) vwCl [(cA 1, .int), (cA 2, .int), (cA 3, .int), (cA 4, .byte)] t ∧ va_D (va_A [(h0, .inr (4, [.null, .null, .null, .null, .int 0, .int 0]))] sz) (uw_Table ad cA u)) (va_A [(h0, .inr (4, [.null, .null, .null, .null, .int 0, .int 0]))] sz)) 4 559 (va_A [(h0, .inr (4, [.null, .null, .null, .null, .int 0, .int 0]))] sz) := by
  refine Met.ofW (cc := b_Table_init) (maxL := 1) (ret := none) (by decide) rfl ?_
  intro p e s m args below meth c s₁ B hml hv
  obtain ⟨rfl, hsz, hP, hK, hD0, hN⟩ := hv
  have hx := B.exec
  have hb := B.bytes
  have hr := B.returns
  have hts := atoms_spec (ws := w_Table_init) B.pre
  have hown : s.vm.findClass "HazardTables$Table" = some m.cls := findClass_of_methodNamed B.named
  have hlocks := B.notSynchronized
  have hin : meth.name = "<init>" := (name_of_methodNamed B.named B.method).1
  subst hsz
  have hD := hD0.self (sz := s.heap.size)
  generalize hAe : va_A [(h0, .inr (4, [.null, .null, .null, .null, .int 0, .int 0]))] s.heap.size = A at hD ⊢
  have hA : ∀ q : Nat, s.heap.size ≤ q → A q := fun q h => by rw [← hAe]; exact Or.inr h
  have hS : va_S A s.heap s.heap [] := va_S.rf
  have hP : va_P (dC, dI) vwCl [(h0, .inr (4, [.null, .null, .null, .null, .int 0, .int 0]))] s.heap := hP
  have hin_Table : ∀ w ∈ u_ws "HazardTables$Table" F_Table 6, w ∈ w_Table_init := fun w h => List.mem_cons_of_mem _ (hinA_Table w h)
  have fl_11 := (hts _ (List.mem_cons_of_mem _ wd_179))
  have fl_15 := (hts _ (List.mem_cons_of_mem _ wd_181))
  have fl_18 := (hts _ (List.mem_cons_of_mem _ wd_182))
  have fl_21 := (hts _ (List.mem_cons_of_mem _ wd_183))
  have hl := lv_entry ([.ref h0]) (n := 1) (Nat.le_of_ble_eq_true rfl)
  rw [lg_entry_eq]
  generalize (lg_sl ([.ref h0]) ++ List.replicate (1 - (lg_sl ([.ref h0])).length) Slot.unset).toArray = ls at hl ⊢
  have hl : lv_has ls 1 [(0, .ref h0)] := hl
  refine lv_aload_n hx hb d_Table_init_0 rfl (lv_at hl 0 rfl) ?_
  refine W.objInit hx hb hown (hts _ (List.mem_cons_of_mem _ wd_178)) (hts _ (List.mem_cons_of_mem _ wd_64)) (hts _ (List.mem_cons_of_mem _ wd_65)) rfl (by rw [hml]; exact hl.1) rfl d_Table_init_1 (Nat.le_of_ble_eq_true rfl) (Nat.le_of_ble_eq_true rfl) ?_
  refine W.eq (g2 := F0 m 4 ls []) rfl ?_
  refine lv_aload_n hx hb d_Table_init_4 rfl (lv_at hl 0 rfl) ?_
  refine lv_bipush (v := 13) hx hb d_Table_init_5 (by decide) ?_
  refine va_newa (atype := .int) (ty := .int) (n := 13) (N' := 13) (a0 := (13, .inl (fun _ => 0))) hx hb (hts _ (List.mem_cons_of_mem _ wd_89)) rfl hK hP hD hS hA (fun _ => rfl) (by decide) (by decide) (by decide) (Nat.le_of_ble_eq_true rfl) (Nat.le_of_ble_eq_true rfl) d_Table_init_7 (fun q1 c1 H hK hP hD hS => ?_)
  have hP : va_P (dC, dI) vwCl [(h0, .inr (4, [.null, .null, .null, .null, .int 0, .int 0])), (q1, .inl (c1, 13, .inl (fun _ => 0)))] H := hP
  have hD : va_D A [(h0, .inr (4, [.null, .null, .null, .null, .int 0, .int 0])), (q1, .inl (c1, 13, .inl (fun _ => 0)))] := hD
  have hK : va_K (dC, dI) vwCl [(c1, .int)] s := hK
  refine W.widen (k := 1) (n := 13) (Nat.le_refl _) (Nat.le_refl _) ?_
  refine va_putF (D := (dC, dI)) (ci := 4) (v := .ref q1) (ty := .array .int) (C := "HazardTables$Table") (T := F_Table) (N := 6) hx hb hts hin_Table t_Table t_Table_ok n_Table hown hK hP hD hS 0 rfl rfl 0 (by decide) fl_11 (fun _ h9 => h9) rfl hin rfl (by decide +kernel) rfl rfl (Nat.le_of_ble_eq_true rfl) d_Table_init_9 (fun H locs hP hD hS => ?_)
  have hP : va_P (dC, dI) vwCl [(h0, .inr (4, [.ref q1, .null, .null, .null, .int 0, .int 0])), (q1, .inl (c1, 13, .inl (fun _ => 0)))] H := hP
  have hD : va_D A [(h0, .inr (4, [.ref q1, .null, .null, .null, .int 0, .int 0])), (q1, .inl (c1, 13, .inl (fun _ => 0)))] := hD
  refine lv_aload_n hx hb d_Table_init_12 rfl (lv_at hl 0 rfl) ?_
  refine lv_bipush (v := 117) hx hb d_Table_init_13 (by decide) ?_
  refine va_newa (atype := .int) (ty := .int) (n := 117) (N' := 117) (a0 := (117, .inl (fun _ => 0))) hx hb (hts _ (List.mem_cons_of_mem _ wd_89)) rfl hK hP hD hS hA (fun _ => rfl) (by decide) (by decide) (by decide) (Nat.le_of_ble_eq_true rfl) (Nat.le_of_ble_eq_true rfl) d_Table_init_15 (fun q2 c2 H hK hP hD hS => ?_)
  have hP : va_P (dC, dI) vwCl [(h0, .inr (4, [.ref q1, .null, .null, .null, .int 0, .int 0])), (q1, .inl (c1, 13, .inl (fun _ => 0))), (q2, .inl (c2, 117, .inl (fun _ => 0)))] H := hP
  have hD : va_D A [(h0, .inr (4, [.ref q1, .null, .null, .null, .int 0, .int 0])), (q1, .inl (c1, 13, .inl (fun _ => 0))), (q2, .inl (c2, 117, .inl (fun _ => 0)))] := hD
  have hK : va_K (dC, dI) vwCl [(c1, .int), (c2, .int)] s := hK
  refine W.widen (k := 2) (n := 130) (Nat.le_refl _) (Nat.le_refl _) ?_
  refine va_putF (D := (dC, dI)) (ci := 4) (v := .ref q2) (ty := .array .int) (C := "HazardTables$Table") (T := F_Table) (N := 6) hx hb hts hin_Table t_Table t_Table_ok n_Table hown hK hP hD hS 0 rfl rfl 1 (by decide) fl_15 (fun _ h9 => h9) rfl hin rfl (by decide +kernel) rfl rfl (Nat.le_of_ble_eq_true rfl) d_Table_init_17 (fun H locs hP hD hS => ?_)
  have hP : va_P (dC, dI) vwCl [(h0, .inr (4, [.ref q1, .ref q2, .null, .null, .int 0, .int 0])), (q1, .inl (c1, 13, .inl (fun _ => 0))), (q2, .inl (c2, 117, .inl (fun _ => 0)))] H := hP
  have hD : va_D A [(h0, .inr (4, [.ref q1, .ref q2, .null, .null, .int 0, .int 0])), (q1, .inl (c1, 13, .inl (fun _ => 0))), (q2, .inl (c2, 117, .inl (fun _ => 0)))] := hD
  refine lv_aload_n hx hb d_Table_init_20 rfl (lv_at hl 0 rfl) ?_
  refine lv_bipush (v := 39) hx hb d_Table_init_21 (by decide) ?_
  refine va_newa (atype := .int) (ty := .int) (n := 39) (N' := 39) (a0 := (39, .inl (fun _ => 0))) hx hb (hts _ (List.mem_cons_of_mem _ wd_89)) rfl hK hP hD hS hA (fun _ => rfl) (by decide) (by decide) (by decide) (Nat.le_of_ble_eq_true rfl) (Nat.le_of_ble_eq_true rfl) d_Table_init_23 (fun q3 c3 H hK hP hD hS => ?_)
  have hP : va_P (dC, dI) vwCl [(h0, .inr (4, [.ref q1, .ref q2, .null, .null, .int 0, .int 0])), (q1, .inl (c1, 13, .inl (fun _ => 0))), (q2, .inl (c2, 117, .inl (fun _ => 0))), (q3, .inl (c3, 39, .inl (fun _ => 0)))] H := hP
  have hD : va_D A [(h0, .inr (4, [.ref q1, .ref q2, .null, .null, .int 0, .int 0])), (q1, .inl (c1, 13, .inl (fun _ => 0))), (q2, .inl (c2, 117, .inl (fun _ => 0))), (q3, .inl (c3, 39, .inl (fun _ => 0)))] := hD
  have hK : va_K (dC, dI) vwCl [(c1, .int), (c2, .int), (c3, .int)] s := hK
  refine W.widen (k := 3) (n := 169) (Nat.le_refl _) (Nat.le_refl _) ?_
  refine va_putF (D := (dC, dI)) (ci := 4) (v := .ref q3) (ty := .array .int) (C := "HazardTables$Table") (T := F_Table) (N := 6) hx hb hts hin_Table t_Table t_Table_ok n_Table hown hK hP hD hS 0 rfl rfl 2 (by decide) fl_18 (fun _ h9 => h9) rfl hin rfl (by decide +kernel) rfl rfl (Nat.le_of_ble_eq_true rfl) d_Table_init_25 (fun H locs hP hD hS => ?_)
  have hP : va_P (dC, dI) vwCl [(h0, .inr (4, [.ref q1, .ref q2, .ref q3, .null, .int 0, .int 0])), (q1, .inl (c1, 13, .inl (fun _ => 0))), (q2, .inl (c2, 117, .inl (fun _ => 0))), (q3, .inl (c3, 39, .inl (fun _ => 0)))] H := hP
  have hD : va_D A [(h0, .inr (4, [.ref q1, .ref q2, .ref q3, .null, .int 0, .int 0])), (q1, .inl (c1, 13, .inl (fun _ => 0))), (q2, .inl (c2, 117, .inl (fun _ => 0))), (q3, .inl (c3, 39, .inl (fun _ => 0)))] := hD
  refine lv_aload_n hx hb d_Table_init_28 rfl (lv_at hl 0 rfl) ?_
  refine lv_sipush (v := 390) hx hb d_Table_init_29 (by decide) ?_
  refine va_newa (atype := .byte) (ty := .byte) (n := 390) (N' := 390) (a0 := (390, .inl (fun _ => 0))) hx hb (hts _ (List.mem_cons_of_mem _ wd_203)) rfl hK hP hD hS hA (fun _ => rfl) (by decide) (by decide) (by decide) (Nat.le_of_ble_eq_true rfl) (Nat.le_of_ble_eq_true rfl) d_Table_init_32 (fun q4 c4 H hK hP hD hS => ?_)
  have hP : va_P (dC, dI) vwCl [(h0, .inr (4, [.ref q1, .ref q2, .ref q3, .null, .int 0, .int 0])), (q1, .inl (c1, 13, .inl (fun _ => 0))), (q2, .inl (c2, 117, .inl (fun _ => 0))), (q3, .inl (c3, 39, .inl (fun _ => 0))), (q4, .inl (c4, 390, .inl (fun _ => 0)))] H := hP
  have hD : va_D A [(h0, .inr (4, [.ref q1, .ref q2, .ref q3, .null, .int 0, .int 0])), (q1, .inl (c1, 13, .inl (fun _ => 0))), (q2, .inl (c2, 117, .inl (fun _ => 0))), (q3, .inl (c3, 39, .inl (fun _ => 0))), (q4, .inl (c4, 390, .inl (fun _ => 0)))] := hD
  have hK : va_K (dC, dI) vwCl [(c1, .int), (c2, .int), (c3, .int), (c4, .byte)] s := hK
  refine W.widen (k := 4) (n := 559) (Nat.le_refl _) (Nat.le_refl _) ?_
  refine va_putF (D := (dC, dI)) (ci := 4) (v := .ref q4) (ty := .array .byte) (C := "HazardTables$Table") (T := F_Table) (N := 6) hx hb hts hin_Table t_Table t_Table_ok n_Table hown hK hP hD hS 0 rfl rfl 3 (by decide) fl_21 (fun _ h9 => h9) rfl hin rfl (by decide +kernel) rfl rfl (Nat.le_of_ble_eq_true rfl) d_Table_init_34 (fun H locs hP hD hS => ?_)
  have hP : va_P (dC, dI) vwCl [(h0, .inr (4, [.ref q1, .ref q2, .ref q3, .ref q4, .int 0, .int 0])), (q1, .inl (c1, 13, .inl (fun _ => 0))), (q2, .inl (c2, 117, .inl (fun _ => 0))), (q3, .inl (c3, 39, .inl (fun _ => 0))), (q4, .inl (c4, 390, .inl (fun _ => 0)))] H := hP
  have hD : va_D A [(h0, .inr (4, [.ref q1, .ref q2, .ref q3, .ref q4, .int 0, .int 0])), (q1, .inl (c1, 13, .inl (fun _ => 0))), (q2, .inl (c2, 117, .inl (fun _ => 0))), (q3, .inl (c3, 39, .inl (fun _ => 0))), (q4, .inl (c4, 390, .inl (fun _ => 0)))] := hD
  exact W.vret hx hb hr (fun t ht hW => ⟨⟨init_Table, rfl, rfl, (fun k => match k with | 0 => h0 | 1 => q1 | 2 => q2 | 3 => q3 | _ => q4), (fun k => match k with | 1 => c1 | 2 => c2 | 3 => c3 | _ => c4), rfl, by rw [ht]; exact hP, va_K.moved hW.alike hK, hD⟩, hS.F ht⟩) hS.2.2 d_Table_init_37
noncomputable def f_Table_removeAll_12  : Nat → STable → Int32 → Option (STable)
  | 0, _, _ => none
  | n + 1, tb, y1 =>
    (if (117 : Int32) ≤ y1 then
      (some tb)
     else
      (if inb y1 117 then
        (f_Table_removeAll_12 n (tb.1, upd tb.2.1 y1.toNatClampNeg (0 : Int32), tb.2.2.1, tb.2.2.2.1, tb.2.2.2.2.1, tb.2.2.2.2.2) (y1 + (1 : Int32)))
       else none)
     )
noncomputable def f_Table_removeAll (tb : STable) : Option (STable) :=
  (f_Table_removeAll_12 4096 (tb.1, tb.2.1, tb.2.2.1, tb.2.2.2.1, (0 : Int32), false) (0 : Int32))
set_option maxHeartbeats 4000000 in
set_option maxRecDepth 100000 in
theorem k_Table_removeAll (l : Launch) (dC : Nat → ClassId) (dI : Nat → Nat → Nat) (ad_tb : Nat → Nat) (cA_tb : Nat → ClassId) (sz : Nat) (tb : STable) (res : STable) (hf : f_Table_removeAll tb = some res) : Met l y_Table_removeAll w_Table_removeAll ({ frames := 0, cells := 0, slots := 0, locals := 0 }) (cPc (dC, dI) (uw_Table ad_tb cA_tb tb) [(cA_tb 1, .int), (cA_tb 2, .int), (cA_tb 3, .int), (cA_tb 4, .byte)] sz [.ref (ad_tb 0)]) (va_Qv (fun (u : STable) => u = res) (fun (u : STable) (t : State) => va_P (dC, dI) vwCl (uw_Table ad_tb cA_tb u) t.heap ∧ va_K (dC, dI) vwCl [(cA_tb 1, .int), (cA_tb 2, .int), (cA_tb 3, .int), (cA_tb 4, .byte)] t ∧ va_D (va_A (uw_Table ad_tb cA_tb tb) sz) (uw_Table ad_tb cA_tb u)) (va_A (uw_Table ad_tb cA_tb tb) sz)) 0 0 (va_A (uw_Table ad_tb cA_tb tb) sz) := by
  refine Met.ofW (cc := b_Table_removeAll) (maxL := 2) (ret := none) (by decide) rfl ?_
  intro p e s m args below meth c s₁ B hml hv
  obtain ⟨rfl, hsz, hP, hK, hD0, hN⟩ := hv
  have hx := B.exec
  have hb := B.bytes
  have hr := B.returns
  have hts := atoms_spec (ws := w_Table_removeAll) B.pre
  have hown : s.vm.findClass "HazardTables$Table" = some m.cls := findClass_of_methodNamed B.named
  have hlocks := B.notSynchronized
  subst hsz
  have hD := hD0.self (sz := s.heap.size)
  generalize hAe : va_A (uw_Table ad_tb cA_tb tb) s.heap.size = A at hD ⊢
  have hA : ∀ q : Nat, s.heap.size ≤ q → A q := fun q h => by rw [← hAe]; exact Or.inr h
  have hS : va_S A s.heap s.heap [] := va_S.rf
  have hP : va_P (dC, dI) vwCl (uw_Table ad_tb cA_tb tb) s.heap := hP
  have fl_15 := (hts _ (List.mem_cons_of_mem _ wd_181))
  have fl_25 := (hts _ (List.mem_cons_of_mem _ wd_184))
  have fl_29 := (hts _ (List.mem_cons_of_mem _ wd_188))
  have hin_Table : ∀ w ∈ u_ws "HazardTables$Table" F_Table 6, w ∈ w_Table_removeAll := fun w h => List.mem_cons_of_mem _ (hinA_Table w h)
  have ret : ∀ (u : STable) (H : Heap) (locs : List Loc) (ls : Array Slot) (pc : Nat), decode b_Table_removeAll pc = .ok (.return_, 1) → u = res → va_P (dC, dI) vwCl (uw_Table ad_tb cA_tb u) H → va_D A (uw_Table ad_tb cA_tb u) → va_S A s.heap H locs → W p l e (headSpec w_Table_removeAll ({ frames := 0, cells := 0, slots := 0, locals := 0 })).room s m ([.ref (ad_tb 0)] : List Value).toArray below meth c H locs 0 0 (MQ below (va_Qv (fun (u : STable) => u = res) (fun (u : STable) (t : State) => va_P (dC, dI) vwCl (uw_Table ad_tb cA_tb u) t.heap ∧ va_K (dC, dI) vwCl [(cA_tb 1, .int), (cA_tb 2, .int), (cA_tb 3, .int), (cA_tb 4, .byte)] t ∧ va_D A (uw_Table ad_tb cA_tb u)) A) ([.ref (ad_tb 0)] : List Value).toArray s 0 0 A) (F0 m pc ls []) := fun u H locs ls pc hd hp hP hD hS => W.vret hx hb hr (fun t ht hW => ⟨⟨u, rfl, hp, by rw [ht]; exact hP, va_K.moved hW.alike hK, hD⟩, hS.F ht⟩) hS.2.2 hd
  generalize (MQ below (va_Qv (fun (u : STable) => u = res) (fun (u : STable) (t : State) => va_P (dC, dI) vwCl (uw_Table ad_tb cA_tb u) t.heap ∧ va_K (dC, dI) vwCl [(cA_tb 1, .int), (cA_tb 2, .int), (cA_tb 3, .int), (cA_tb 4, .byte)] t ∧ va_D A (uw_Table ad_tb cA_tb u)) A) ([.ref (ad_tb 0)] : List Value).toArray s 0 0 A) = Q at ret ⊢
  have w_12 : ∀ (n : Nat) (tb : STable) (y1 : Int32) (H : Heap) (locs : List Loc) (ls : Array Slot), f_Table_removeAll_12 n tb y1 = some res → va_P (dC, dI) vwCl (uw_Table ad_tb cA_tb tb) H → va_D A (uw_Table ad_tb cA_tb tb) → va_S A s.heap H locs → lv_has ls 2 [(0, .ref (ad_tb 0)), (1, .int y1)] → W p l e (headSpec w_Table_removeAll ({ frames := 0, cells := 0, slots := 0, locals := 0 })).room s m ([.ref (ad_tb 0)] : List Value).toArray below meth c H locs 0 0 Q (F0 m 12 ls []) := by
    intro n
    induction n with
    | zero =>
      intro tb y1 H locs ls hf hP hD hS hl
      rw [f_Table_removeAll_12] at hf; cases hf
    | succ n ih =>
      intro tb y1 H locs ls hf hP hD hS hl
      rw [f_Table_removeAll_12] at hf
      refine lv_iload_n hx hb d_Table_removeAll_12 rfl (lv_at hl 1 rfl) ?_
      refine lv_aload_n hx hb d_Table_removeAll_13 rfl (lv_at hl 0 rfl) ?_
      refine va_get (D := (dC, dI)) (ci := 4) (v := .ref (ad_tb 2)) (C := "HazardTables$Table") (T := F_Table) (N := 6) hx hb hts hin_Table hown hK hP 0 rfl rfl 1 (by decide) fl_15 (fun _ h9 => h9) rfl d_Table_removeAll_14 ?_
      refine va_alen (v := 117) hx hb hK hP 2 1 rfl (ty := .int) rfl rfl d_Table_removeAll_17 ?_
      refine lv_icmp_ge (tgt := 34) hx hb d_Table_removeAll_18 (by decide) (fun hc1 => ?_) (fun hc1 => ?_)
      · have hf := hf_t hf hc1
        exact ret  tb H locs ls 34 d_Table_removeAll_34 (Option.some.inj hf) hP hD hS
      · have hf := hf_f hf hc1
        refine lv_aload_n hx hb d_Table_removeAll_21 rfl (lv_at hl 0 rfl) ?_
        refine va_get (D := (dC, dI)) (ci := 4) (v := .ref (ad_tb 2)) (C := "HazardTables$Table") (T := F_Table) (N := 6) hx hb hts hin_Table hown hK hP 0 rfl rfl 1 (by decide) fl_15 (fun _ h9 => h9) rfl d_Table_removeAll_22 ?_
        refine lv_iload_n hx hb d_Table_removeAll_25 rfl (lv_at hl 1 rfl) ?_
        refine lv_iconst (v := (0 : Int32)) hx hb d_Table_removeAll_26 (by decide) ?_
        obtain ⟨hi2, hf⟩ := hf_g hf
        refine va_iast hx hb hK hP hD hS 2 1 rfl rfl hi2 d_Table_removeAll_27 (fun H locs hP hD hS => ?_)
        have hP : va_P (dC, dI) vwCl (uw_Table ad_tb cA_tb (tb.1, upd tb.2.1 y1.toNatClampNeg (0 : Int32), tb.2.2.1, tb.2.2.2.1, tb.2.2.2.2.1, tb.2.2.2.2.2)) H := hP
        have hD : va_D A (uw_Table ad_tb cA_tb (tb.1, upd tb.2.1 y1.toNatClampNeg (0 : Int32), tb.2.2.1, tb.2.2.2.1, tb.2.2.2.2.1, tb.2.2.2.2.2)) := hD
        refine lv_iinc (v := y1 + (1 : Int32)) (lv' := [(1, .int (y1 + (1 : Int32))), (0, .ref (ad_tb 0))]) hx hb d_Table_removeAll_28 hl (k := 1) rfl rfl (by decide) rfl (fun ls hl => ?_)
        refine lv_goto (tgt := 12) hx hb d_Table_removeAll_31 (by decide) ?_
        exact ih (tb.1, upd tb.2.1 y1.toNatClampNeg (0 : Int32), tb.2.2.1, tb.2.2.2.1, tb.2.2.2.2.1, tb.2.2.2.2.2) (y1 + (1 : Int32)) H locs ls hf hP hD hS (lv_sub hl [1, 0] rfl)
  have hl := lv_entry ([.ref (ad_tb 0)]) (n := 2) (Nat.le_of_ble_eq_true rfl)
  rw [lg_entry_eq]
  generalize (lg_sl ([.ref (ad_tb 0)]) ++ List.replicate (2 - (lg_sl ([.ref (ad_tb 0)])).length) Slot.unset).toArray = ls at hl ⊢
  have hl : lv_has ls 2 [(0, .ref (ad_tb 0))] := hl
  have hf := hf
  rw [f_Table_removeAll] at hf
  obtain ⟨H, hH⟩ : ∃ H : Heap, H = s.heap := ⟨_, rfl⟩
  obtain ⟨locs, hlocs⟩ : ∃ L : List Loc, L = [] := ⟨_, rfl⟩
  have hP : va_P (dC, dI) vwCl (uw_Table ad_tb cA_tb tb) H := by rw [hH]; exact hP
  have hS : va_S A s.heap H locs := by rw [hH, hlocs]; exact hS
  show W p l e (headSpec w_Table_removeAll ({ frames := 0, cells := 0, slots := 0, locals := 0 })).room s m ([.ref (ad_tb 0)] : List Value).toArray below meth c s.heap [] 0 0 Q (F0 m 0 ls [])
  suffices hgo : W p l e (headSpec w_Table_removeAll ({ frames := 0, cells := 0, slots := 0, locals := 0 })).room s m ([.ref (ad_tb 0)] : List Value).toArray below meth c H locs 0 0 Q (F0 m 0 ls []) by rw [hH, hlocs] at hgo; exact hgo
  clear hH hlocs
  refine lv_aload_n hx hb d_Table_removeAll_0 rfl (lv_at hl 0 rfl) ?_
  refine lv_iconst (v := (0 : Int32)) hx hb d_Table_removeAll_1 (by decide) ?_
  refine va_put (D := (dC, dI)) (ci := 4) (v := .int (0 : Int32)) (ty := .int) (C := "HazardTables$Table") (T := F_Table) (N := 6) hx hb hts hin_Table t_Table t_Table_ok n_Table hown hK hP hD hS 0 rfl rfl 4 (by decide) fl_25 (fun _ h9 => h9) rfl (by decide +kernel) rfl rfl (Nat.le_of_ble_eq_true rfl) d_Table_removeAll_2 (fun H locs hP hD hS => ?_)
  have hP : va_P (dC, dI) vwCl (uw_Table ad_tb cA_tb (tb.1, tb.2.1, tb.2.2.1, tb.2.2.2.1, (0 : Int32), tb.2.2.2.2.2)) H := hP
  have hD : va_D A (uw_Table ad_tb cA_tb (tb.1, tb.2.1, tb.2.2.1, tb.2.2.2.1, (0 : Int32), tb.2.2.2.2.2)) := hD
  refine lv_aload_n hx hb d_Table_removeAll_5 rfl (lv_at hl 0 rfl) ?_
  refine lv_iconst (v := (0 : Int32)) hx hb d_Table_removeAll_6 (by decide) ?_
  refine va_put (D := (dC, dI)) (ci := 4) (v := .int (0 : Int32)) (ty := .boolean) (C := "HazardTables$Table") (T := F_Table) (N := 6) hx hb hts hin_Table t_Table t_Table_ok n_Table hown hK hP hD hS 0 rfl rfl 5 (by decide) fl_29 (fun _ h9 => h9) rfl (by decide +kernel) (nar_bI false) (fit_bI false) (Nat.le_of_ble_eq_true rfl) d_Table_removeAll_7 (fun H locs hP hD hS => ?_)
  have hP : va_P (dC, dI) vwCl (uw_Table ad_tb cA_tb (tb.1, tb.2.1, tb.2.2.1, tb.2.2.2.1, (0 : Int32), false)) H := hP
  have hD : va_D A (uw_Table ad_tb cA_tb (tb.1, tb.2.1, tb.2.2.1, tb.2.2.2.1, (0 : Int32), false)) := hD
  refine lv_iconst (v := (0 : Int32)) hx hb d_Table_removeAll_10 (by decide) ?_
  refine lv_istore_n (lv' := [(1, .int (0 : Int32)), (0, .ref (ad_tb 0))]) hx hb d_Table_removeAll_11 rfl hl (by decide) rfl (fun ls hl => ?_)
  exact w_12 4096 (tb.1, tb.2.1, tb.2.2.1, tb.2.2.2.1, (0 : Int32), false) (0 : Int32) H locs ls hf hP hD hS (lv_sub hl [1, 0] rfl)
noncomputable def f_Table_isFull (tb : STable) : Option (Bool) :=
  (if tb.2.2.2.2.1 < (12 : Int32) then
    (some (false))
   else
    (some (true))
   )
set_option maxHeartbeats 4000000 in
set_option maxRecDepth 100000 in
theorem k_Table_isFull (l : Launch) (dC : Nat → ClassId) (dI : Nat → Nat → Nat) (ad_tb : Nat → Nat) (cA_tb : Nat → ClassId) (sz : Nat) (tb : STable) (res : Bool) (hf : f_Table_isFull tb = some res) : Met l y_Table_isFull w_Table_isFull ({ frames := 0, cells := 0, slots := 0, locals := 0 }) (cPc (dC, dI) (uw_Table ad_tb cA_tb tb) [(cA_tb 1, .int), (cA_tb 2, .int), (cA_tb 3, .int), (cA_tb 4, .byte)] sz [.ref (ad_tb 0)]) (va_Qi (fun (r : Int32) (u : Unit) => r = bI res) (fun (u : Unit) (t : State) => va_P (dC, dI) vwCl (uw_Table ad_tb cA_tb tb) t.heap ∧ va_K (dC, dI) vwCl [(cA_tb 1, .int), (cA_tb 2, .int), (cA_tb 3, .int), (cA_tb 4, .byte)] t ∧ va_D (va_A (uw_Table ad_tb cA_tb tb) sz) (uw_Table ad_tb cA_tb tb)) (va_A (uw_Table ad_tb cA_tb tb) sz)) 0 0 (va_A (uw_Table ad_tb cA_tb tb) sz) := by
  refine Met.ofW (cc := b_Table_isFull) (maxL := 1) (ret := (some .boolean)) (by decide) rfl ?_
  intro p e s m args below meth c s₁ B hml hv
  obtain ⟨rfl, hsz, hP, hK, hD0, hN⟩ := hv
  have hx := B.exec
  have hb := B.bytes
  have hr := B.returns
  have hts := atoms_spec (ws := w_Table_isFull) B.pre
  have hown : s.vm.findClass "HazardTables$Table" = some m.cls := findClass_of_methodNamed B.named
  have hlocks := B.notSynchronized
  subst hsz
  have hD := hD0.self (sz := s.heap.size)
  generalize hAe : va_A (uw_Table ad_tb cA_tb tb) s.heap.size = A at hD ⊢
  have hA : ∀ q : Nat, s.heap.size ≤ q → A q := fun q h => by rw [← hAe]; exact Or.inr h
  have hS : va_S A s.heap s.heap [] := va_S.rf
  have hP : va_P (dC, dI) vwCl (uw_Table ad_tb cA_tb tb) s.heap := hP
  have fl_25 := (hts _ (List.mem_cons_of_mem _ wd_184))
  have hin_Table : ∀ w ∈ u_ws "HazardTables$Table" F_Table 6, w ∈ w_Table_isFull := fun w h => List.mem_cons_of_mem _ (hinA_Table w h)
  have ret : ∀ (v : Bool) (u : Unit) (H : Heap) (locs : List Loc) (ls : Array Slot) (pc : Nat), decode b_Table_isFull pc = .ok (.ireturn, 1) → (v = res) → va_P (dC, dI) vwCl (uw_Table ad_tb cA_tb tb) H → va_D A (uw_Table ad_tb cA_tb tb) → va_S A s.heap H locs → W p l e (headSpec w_Table_isFull ({ frames := 0, cells := 0, slots := 0, locals := 0 })).room s m ([.ref (ad_tb 0)] : List Value).toArray below meth c H locs 0 0 (MQ below (va_Qi (fun (r : Int32) (u : Unit) => r = bI res) (fun (u : Unit) (t : State) => va_P (dC, dI) vwCl (uw_Table ad_tb cA_tb tb) t.heap ∧ va_K (dC, dI) vwCl [(cA_tb 1, .int), (cA_tb 2, .int), (cA_tb 3, .int), (cA_tb 4, .byte)] t ∧ va_D A (uw_Table ad_tb cA_tb tb)) A) ([.ref (ad_tb 0)] : List Value).toArray s 0 0 A) (F0 m pc ls [.int (bI v)]) := fun v u H locs ls pc hd hp hP hD hS => W.zret (v := bI v) (ty := .boolean) hx hb hr (nar_bI v) (fun t ht hW => ⟨⟨bI v, u, rfl, (by rw [hp]), by rw [ht]; exact hP, va_K.moved hW.alike hK, hD⟩, hS.F ht⟩) hS.2.2 hd
  generalize (MQ below (va_Qi (fun (r : Int32) (u : Unit) => r = bI res) (fun (u : Unit) (t : State) => va_P (dC, dI) vwCl (uw_Table ad_tb cA_tb tb) t.heap ∧ va_K (dC, dI) vwCl [(cA_tb 1, .int), (cA_tb 2, .int), (cA_tb 3, .int), (cA_tb 4, .byte)] t ∧ va_D A (uw_Table ad_tb cA_tb tb)) A) ([.ref (ad_tb 0)] : List Value).toArray s 0 0 A) = Q at ret ⊢
  have hl := lv_entry ([.ref (ad_tb 0)]) (n := 1) (Nat.le_of_ble_eq_true rfl)
  rw [lg_entry_eq]
  generalize (lg_sl ([.ref (ad_tb 0)]) ++ List.replicate (1 - (lg_sl ([.ref (ad_tb 0)])).length) Slot.unset).toArray = ls at hl ⊢
  have hl : lv_has ls 1 [(0, .ref (ad_tb 0))] := hl
  have hf := hf
  rw [f_Table_isFull] at hf
  obtain ⟨H, hH⟩ : ∃ H : Heap, H = s.heap := ⟨_, rfl⟩
  obtain ⟨locs, hlocs⟩ : ∃ L : List Loc, L = [] := ⟨_, rfl⟩
  have hP : va_P (dC, dI) vwCl (uw_Table ad_tb cA_tb tb) H := by rw [hH]; exact hP
  have hS : va_S A s.heap H locs := by rw [hH, hlocs]; exact hS
  show W p l e (headSpec w_Table_isFull ({ frames := 0, cells := 0, slots := 0, locals := 0 })).room s m ([.ref (ad_tb 0)] : List Value).toArray below meth c s.heap [] 0 0 Q (F0 m 0 ls [])
  suffices hgo : W p l e (headSpec w_Table_isFull ({ frames := 0, cells := 0, slots := 0, locals := 0 })).room s m ([.ref (ad_tb 0)] : List Value).toArray below meth c H locs 0 0 Q (F0 m 0 ls []) by rw [hH, hlocs] at hgo; exact hgo
  clear hH hlocs
  refine lv_aload_n hx hb d_Table_isFull_0 rfl (lv_at hl 0 rfl) ?_
  refine va_get (D := (dC, dI)) (ci := 4) (v := .int tb.2.2.2.2.1) (C := "HazardTables$Table") (T := F_Table) (N := 6) hx hb hts hin_Table hown hK hP 0 rfl rfl 4 (by decide) fl_25 (fun _ h9 => h9) rfl d_Table_isFull_1 ?_
  refine lv_bipush (v := (12 : Int32)) hx hb d_Table_isFull_4 (by decide) ?_
  refine lv_icmp_lt (tgt := 13) hx hb d_Table_isFull_6 (by decide) (fun hc1 => ?_) (fun hc1 => ?_)
  · have hf := hf_t hf hc1
    refine lv_iconst (v := (0 : Int32)) hx hb d_Table_isFull_13 (by decide) ?_
    exact ret false () H locs ls 14 d_Table_isFull_14 (Option.some.inj hf) hP hD hS
  · have hf := hf_f hf hc1
    refine lv_iconst (v := (1 : Int32)) hx hb d_Table_isFull_9 (by decide) ?_
    refine lv_goto (tgt := 14) hx hb d_Table_isFull_10 (by decide) ?_
    exact ret true () H locs ls 14 d_Table_isFull_14 (Option.some.inj hf) hP hD hS
noncomputable def f_Table_append (tb : STable) (x1 : Int32) : Option (STable) :=
  (Option.bind (f_Table_isFull tb) fun u1 =>
    (if (bI u1) = 0 then
      (if inb (tb.2.2.2.2.1 + (1 : Int32)) 13 then
        (some (upd tb.1 (tb.2.2.2.2.1 + (1 : Int32)).toNatClampNeg x1, tb.2.1, tb.2.2.1, tb.2.2.2.1, tb.2.2.2.2.1 + (1 : Int32), tb.2.2.2.2.2))
       else none)
     else
      (some tb)
     )
   )
set_option maxHeartbeats 4000000 in
set_option maxRecDepth 100000 in
theorem k_Table_append (l : Launch) (dC : Nat → ClassId) (dI : Nat → Nat → Nat) (ad_tb : Nat → Nat) (cA_tb : Nat → ClassId) (sz : Nat) (tb : STable) (x1 : Int32) (res : STable) (hf : f_Table_append tb x1 = some res) : Met l y_Table_append w_Table_append ({ frames := 1, cells := 0, slots := 0, locals := 20 }) (cPc (dC, dI) (uw_Table ad_tb cA_tb tb) [(cA_tb 1, .int), (cA_tb 2, .int), (cA_tb 3, .int), (cA_tb 4, .byte)] sz [.ref (ad_tb 0), .int x1]) (va_Qv (fun (u : STable) => u = res) (fun (u : STable) (t : State) => va_P (dC, dI) vwCl (uw_Table ad_tb cA_tb u) t.heap ∧ va_K (dC, dI) vwCl [(cA_tb 1, .int), (cA_tb 2, .int), (cA_tb 3, .int), (cA_tb 4, .byte)] t ∧ va_D (va_A (uw_Table ad_tb cA_tb tb) sz) (uw_Table ad_tb cA_tb u)) (va_A (uw_Table ad_tb cA_tb tb) sz)) 0 0 (va_A (uw_Table ad_tb cA_tb tb) sz) := by
  refine Met.ofW (cc := b_Table_append) (maxL := 2) (ret := none) (by decide) rfl ?_
  intro p e s m args below meth c s₁ B hml hv
  obtain ⟨rfl, hsz, hP, hK, hD0, hN⟩ := hv
  have hx := B.exec
  have hb := B.bytes
  have hr := B.returns
  have hts := atoms_spec (ws := w_Table_append) B.pre
  have hown : s.vm.findClass "HazardTables$Table" = some m.cls := findClass_of_methodNamed B.named
  have hlocks := B.notSynchronized
  subst hsz
  have hD := hD0.self (sz := s.heap.size)
  generalize hAe : va_A (uw_Table ad_tb cA_tb tb) s.heap.size = A at hD ⊢
  have hA : ∀ q : Nat, s.heap.size ≤ q → A q := fun q h => by rw [← hAe]; exact Or.inr h
  have hS : va_S A s.heap s.heap [] := va_S.rf
  have hP : va_P (dC, dI) vwCl (uw_Table ad_tb cA_tb tb) s.heap := hP
  have fl_11 := (hts _ (List.mem_cons_of_mem _ wd_179))
  have fl_25 := (hts _ (List.mem_cons_of_mem _ wd_184))
  have hin_Table : ∀ w ∈ u_ws "HazardTables$Table" F_Table 6, w ∈ w_Table_append := fun w h => List.mem_cons_of_mem _ (hinA_Table w h)
  have ret : ∀ (u : STable) (H : Heap) (locs : List Loc) (ls : Array Slot) (pc : Nat), decode b_Table_append pc = .ok (.return_, 1) → u = res → va_P (dC, dI) vwCl (uw_Table ad_tb cA_tb u) H → va_D A (uw_Table ad_tb cA_tb u) → va_S A s.heap H locs → W p l e (headSpec w_Table_append ({ frames := 1, cells := 0, slots := 0, locals := 20 })).room s m ([.ref (ad_tb 0), .int x1] : List Value).toArray below meth c H locs 0 0 (MQ below (va_Qv (fun (u : STable) => u = res) (fun (u : STable) (t : State) => va_P (dC, dI) vwCl (uw_Table ad_tb cA_tb u) t.heap ∧ va_K (dC, dI) vwCl [(cA_tb 1, .int), (cA_tb 2, .int), (cA_tb 3, .int), (cA_tb 4, .byte)] t ∧ va_D A (uw_Table ad_tb cA_tb u)) A) ([.ref (ad_tb 0), .int x1] : List Value).toArray s 0 0 A) (F0 m pc ls []) := fun u H locs ls pc hd hp hP hD hS => W.vret hx hb hr (fun t ht hW => ⟨⟨u, rfl, hp, by rw [ht]; exact hP, va_K.moved hW.alike hK, hD⟩, hS.F ht⟩) hS.2.2 hd
  generalize (MQ below (va_Qv (fun (u : STable) => u = res) (fun (u : STable) (t : State) => va_P (dC, dI) vwCl (uw_Table ad_tb cA_tb u) t.heap ∧ va_K (dC, dI) vwCl [(cA_tb 1, .int), (cA_tb 2, .int), (cA_tb 3, .int), (cA_tb 4, .byte)] t ∧ va_D A (uw_Table ad_tb cA_tb u)) A) ([.ref (ad_tb 0), .int x1] : List Value).toArray s 0 0 A) = Q at ret ⊢
  have hl := lv_entry ([.ref (ad_tb 0), .int x1]) (n := 2) (Nat.le_of_ble_eq_true rfl)
  rw [lg_entry_eq]
  generalize (lg_sl ([.ref (ad_tb 0), .int x1]) ++ List.replicate (2 - (lg_sl ([.ref (ad_tb 0), .int x1])).length) Slot.unset).toArray = ls at hl ⊢
  have hl : lv_has ls 2 [(0, .ref (ad_tb 0)), (1, .int x1)] := hl
  have hf := hf
  rw [f_Table_append] at hf
  obtain ⟨H, hH⟩ : ∃ H : Heap, H = s.heap := ⟨_, rfl⟩
  obtain ⟨locs, hlocs⟩ : ∃ L : List Loc, L = [] := ⟨_, rfl⟩
  have hP : va_P (dC, dI) vwCl (uw_Table ad_tb cA_tb tb) H := by rw [hH]; exact hP
  have hS : va_S A s.heap H locs := by rw [hH, hlocs]; exact hS
  show W p l e (headSpec w_Table_append ({ frames := 1, cells := 0, slots := 0, locals := 20 })).room s m ([.ref (ad_tb 0), .int x1] : List Value).toArray below meth c s.heap [] 0 0 Q (F0 m 0 ls [])
  suffices hgo : W p l e (headSpec w_Table_append ({ frames := 1, cells := 0, slots := 0, locals := 20 })).room s m ([.ref (ad_tb 0), .int x1] : List Value).toArray below meth c H locs 0 0 Q (F0 m 0 ls []) by rw [hH, hlocs] at hgo; exact hgo
  clear hH hlocs
  refine lv_aload_n hx hb d_Table_append_0 rfl (lv_at hl 0 rfl) ?_
  obtain ⟨u1, hu1, hf⟩ := Option.bind_eq_some_iff.mp hf
  refine cl_i (wc := (uw_Table ad_tb cA_tb tb)) (wr := []) (tysC := [(cA_tb 1, .int), (cA_tb 2, .int), (cA_tb 3, .int), (cA_tb 4, .byte)]) (wu := fun (u : Unit) => (uw_Table ad_tb cA_tb tb)) (wn := fun (u : Unit) => (uw_Table ad_tb cA_tb tb)) [0, 1, 2, 3, 4] [] [0, 1, 2, 3, 4] [0, 1, 2, 3] hP hD hS hA hK rfl rfl (by decide +kernel) (by decide +kernel) (by decide +kernel) rfl (fun _ => rfl) (by decide +kernel) (fun hPc hKc hDc => (va_runV (As := []) (rest := []) ⟨hx, hb, hml, hown, hts⟩ (k_Table_isFull l dC dI ad_tb cA_tb H.size tb u1 hu1) (cwV 0 hts (gV wd_397 wd_371 wd_372 wd_48 wd_373) rfl rfl rfl (by decide +kernel) ⟨Nat.le_of_ble_eq_true rfl, Nat.le_of_ble_eq_true rfl⟩) (cl_preV hPc hKc hDc hN (ci := 4) 0 rfl rfl) rfl rfl hl.1 rfl (lv_room (Nat.le_of_ble_eq_true rfl)) d_Table_append_1 ⟨Nat.le_of_ble_eq_true rfl, Nat.le_of_ble_eq_true rfl⟩)) (fun r u H locs hw hP hD hS => ?_)
  have hw := hw.symm
  subst hw
  have hP : va_P (dC, dI) vwCl (uw_Table ad_tb cA_tb tb) H := hP
  have hD : va_D A (uw_Table ad_tb cA_tb tb) := hD
  refine lv_if_ne (tgt := 27) hx hb d_Table_append_4 (by decide) (fun hc2 => ?_) (fun hc2 => ?_)
  · have hf := hf_f hf hc2
    exact ret  tb H locs ls 27 d_Table_append_27 (Option.some.inj hf) hP hD hS
  · have hf := hf_t hf hc2
    refine lv_aload_n hx hb d_Table_append_7 rfl (lv_at hl 0 rfl) ?_
    refine lv_dup hx hb d_Table_append_8 rfl ?_
    refine va_get (D := (dC, dI)) (ci := 4) (v := .int tb.2.2.2.2.1) (C := "HazardTables$Table") (T := F_Table) (N := 6) hx hb hts hin_Table hown hK hP 0 rfl rfl 4 (by decide) fl_25 (fun _ h9 => h9) rfl d_Table_append_9 ?_
    refine lv_iconst (v := (1 : Int32)) hx hb d_Table_append_12 (by decide) ?_
    refine lv_iadd hx hb d_Table_append_13 ?_
    refine va_put (D := (dC, dI)) (ci := 4) (v := .int (tb.2.2.2.2.1 + (1 : Int32))) (ty := .int) (C := "HazardTables$Table") (T := F_Table) (N := 6) hx hb hts hin_Table t_Table t_Table_ok n_Table hown hK hP hD hS 0 rfl rfl 4 (by decide) fl_25 (fun _ h9 => h9) rfl (by decide +kernel) rfl rfl (Nat.le_of_ble_eq_true rfl) d_Table_append_14 (fun H locs hP hD hS => ?_)
    have hP : va_P (dC, dI) vwCl (uw_Table ad_tb cA_tb (tb.1, tb.2.1, tb.2.2.1, tb.2.2.2.1, tb.2.2.2.2.1 + (1 : Int32), tb.2.2.2.2.2)) H := hP
    have hD : va_D A (uw_Table ad_tb cA_tb (tb.1, tb.2.1, tb.2.2.1, tb.2.2.2.1, tb.2.2.2.2.1 + (1 : Int32), tb.2.2.2.2.2)) := hD
    refine lv_aload_n hx hb d_Table_append_17 rfl (lv_at hl 0 rfl) ?_
    refine va_get (D := (dC, dI)) (ci := 4) (v := .ref (ad_tb 1)) (C := "HazardTables$Table") (T := F_Table) (N := 6) hx hb hts hin_Table hown hK hP 0 rfl rfl 0 (by decide) fl_11 (fun _ h9 => h9) rfl d_Table_append_18 ?_
    refine lv_aload_n hx hb d_Table_append_21 rfl (lv_at hl 0 rfl) ?_
    refine va_get (D := (dC, dI)) (ci := 4) (v := .int (tb.2.2.2.2.1 + (1 : Int32))) (C := "HazardTables$Table") (T := F_Table) (N := 6) hx hb hts hin_Table hown hK hP 0 rfl rfl 4 (by decide) fl_25 (fun _ h9 => h9) rfl d_Table_append_22 ?_
    refine lv_iload_n hx hb d_Table_append_25 rfl (lv_at hl 1 rfl) ?_
    obtain ⟨hi3, hf⟩ := hf_g hf
    refine va_iast hx hb hK hP hD hS 1 0 rfl rfl hi3 d_Table_append_26 (fun H locs hP hD hS => ?_)
    have hP : va_P (dC, dI) vwCl (uw_Table ad_tb cA_tb (upd tb.1 (tb.2.2.2.2.1 + (1 : Int32)).toNatClampNeg x1, tb.2.1, tb.2.2.1, tb.2.2.2.1, tb.2.2.2.2.1 + (1 : Int32), tb.2.2.2.2.2)) H := hP
    have hD : va_D A (uw_Table ad_tb cA_tb (upd tb.1 (tb.2.2.2.2.1 + (1 : Int32)).toNatClampNeg x1, tb.2.1, tb.2.2.1, tb.2.2.2.1, tb.2.2.2.2.1 + (1 : Int32), tb.2.2.2.2.2)) := hD
    exact ret  (upd tb.1 (tb.2.2.2.2.1 + (1 : Int32)).toNatClampNeg x1, tb.2.1, tb.2.2.1, tb.2.2.2.1, tb.2.2.2.2.1 + (1 : Int32), tb.2.2.2.2.2) H locs ls 27 d_Table_append_27 (Option.some.inj hf) hP hD hS
noncomputable def f_Table_rowOf_2  : Nat → STable → Int32 → Int32 → Option (Int32)
  | 0, _, _, _ => none
  | n + 1, tb, y1, y2 =>
    (if tb.2.2.2.2.1 < y2 then
      (some ((-1 : Int32)))
     else
      (if (13 : Int32) ≤ y2 then
        (some ((-1 : Int32)))
       else
        (if inb y2 13 then
          (if (tb.1 y2.toNatClampNeg) = y1 then
            (some (y2))
           else
            (f_Table_rowOf_2 n tb y1 (y2 + (1 : Int32)))
           )
         else none)
       )
     )
noncomputable def f_Table_rowOf (tb : STable) (x1 : Int32) : Option (Int32) :=
  (f_Table_rowOf_2 4096 tb x1 (1 : Int32))
set_option maxHeartbeats 4000000 in
set_option maxRecDepth 100000 in
theorem k_Table_rowOf (l : Launch) (dC : Nat → ClassId) (dI : Nat → Nat → Nat) (ad_tb : Nat → Nat) (cA_tb : Nat → ClassId) (sz : Nat) (tb : STable) (x1 : Int32) (res : Int32) (hf : f_Table_rowOf tb x1 = some res) : Met l y_Table_rowOf w_Table_rowOf ({ frames := 0, cells := 0, slots := 0, locals := 0 }) (cPc (dC, dI) (uw_Table ad_tb cA_tb tb) [(cA_tb 1, .int), (cA_tb 2, .int), (cA_tb 3, .int), (cA_tb 4, .byte)] sz [.ref (ad_tb 0), .int x1]) (va_Qi (fun (r : Int32) (u : Unit) => r = res) (fun (u : Unit) (t : State) => va_P (dC, dI) vwCl (uw_Table ad_tb cA_tb tb) t.heap ∧ va_K (dC, dI) vwCl [(cA_tb 1, .int), (cA_tb 2, .int), (cA_tb 3, .int), (cA_tb 4, .byte)] t ∧ va_D (va_A (uw_Table ad_tb cA_tb tb) sz) (uw_Table ad_tb cA_tb tb)) (va_A (uw_Table ad_tb cA_tb tb) sz)) 0 0 (va_A (uw_Table ad_tb cA_tb tb) sz) := by
  refine Met.ofW (cc := b_Table_rowOf) (maxL := 3) (ret := (some .int)) (by decide) rfl ?_
  intro p e s m args below meth c s₁ B hml hv
  obtain ⟨rfl, hsz, hP, hK, hD0, hN⟩ := hv
  have hx := B.exec
  have hb := B.bytes
  have hr := B.returns
  have hts := atoms_spec (ws := w_Table_rowOf) B.pre
  have hown : s.vm.findClass "HazardTables$Table" = some m.cls := findClass_of_methodNamed B.named
  have hlocks := B.notSynchronized
  subst hsz
  have hD := hD0.self (sz := s.heap.size)
  generalize hAe : va_A (uw_Table ad_tb cA_tb tb) s.heap.size = A at hD ⊢
  have hA : ∀ q : Nat, s.heap.size ≤ q → A q := fun q h => by rw [← hAe]; exact Or.inr h
  have hS : va_S A s.heap s.heap [] := va_S.rf
  have hP : va_P (dC, dI) vwCl (uw_Table ad_tb cA_tb tb) s.heap := hP
  have fl_11 := (hts _ (List.mem_cons_of_mem _ wd_179))
  have fl_25 := (hts _ (List.mem_cons_of_mem _ wd_184))
  have hin_Table : ∀ w ∈ u_ws "HazardTables$Table" F_Table 6, w ∈ w_Table_rowOf := fun w h => List.mem_cons_of_mem _ (hinA_Table w h)
  have ret : ∀ (v : Int32) (u : Unit) (H : Heap) (locs : List Loc) (ls : Array Slot) (pc : Nat), decode b_Table_rowOf pc = .ok (.ireturn, 1) → (v = res) → va_P (dC, dI) vwCl (uw_Table ad_tb cA_tb tb) H → va_D A (uw_Table ad_tb cA_tb tb) → va_S A s.heap H locs → W p l e (headSpec w_Table_rowOf ({ frames := 0, cells := 0, slots := 0, locals := 0 })).room s m ([.ref (ad_tb 0), .int x1] : List Value).toArray below meth c H locs 0 0 (MQ below (va_Qi (fun (r : Int32) (u : Unit) => r = res) (fun (u : Unit) (t : State) => va_P (dC, dI) vwCl (uw_Table ad_tb cA_tb tb) t.heap ∧ va_K (dC, dI) vwCl [(cA_tb 1, .int), (cA_tb 2, .int), (cA_tb 3, .int), (cA_tb 4, .byte)] t ∧ va_D A (uw_Table ad_tb cA_tb tb)) A) ([.ref (ad_tb 0), .int x1] : List Value).toArray s 0 0 A) (F0 m pc ls [.int v]) := fun v u H locs ls pc hd hp hP hD hS => W.iret (v := v) hx hb hr (fun t ht hW => ⟨⟨v, u, rfl, hp, by rw [ht]; exact hP, va_K.moved hW.alike hK, hD⟩, hS.F ht⟩) hS.2.2 hd
  generalize (MQ below (va_Qi (fun (r : Int32) (u : Unit) => r = res) (fun (u : Unit) (t : State) => va_P (dC, dI) vwCl (uw_Table ad_tb cA_tb tb) t.heap ∧ va_K (dC, dI) vwCl [(cA_tb 1, .int), (cA_tb 2, .int), (cA_tb 3, .int), (cA_tb 4, .byte)] t ∧ va_D A (uw_Table ad_tb cA_tb tb)) A) ([.ref (ad_tb 0), .int x1] : List Value).toArray s 0 0 A) = Q at ret ⊢
  have w_2 : ∀ (n : Nat)  (y1 : Int32) (y2 : Int32) (H : Heap) (locs : List Loc) (ls : Array Slot), f_Table_rowOf_2 n tb y1 y2 = some res → va_P (dC, dI) vwCl (uw_Table ad_tb cA_tb tb) H → va_D A (uw_Table ad_tb cA_tb tb) → va_S A s.heap H locs → lv_has ls 3 [(0, .ref (ad_tb 0)), (1, .int y1), (2, .int y2)] → W p l e (headSpec w_Table_rowOf ({ frames := 0, cells := 0, slots := 0, locals := 0 })).room s m ([.ref (ad_tb 0), .int x1] : List Value).toArray below meth c H locs 0 0 Q (F0 m 2 ls []) := by
    intro n
    induction n with
    | zero =>
      intro y1 y2 H locs ls hf hP hD hS hl
      rw [f_Table_rowOf_2] at hf; cases hf
    | succ n ih =>
      intro y1 y2 H locs ls hf hP hD hS hl
      rw [f_Table_rowOf_2] at hf
      refine lv_iload_n hx hb d_Table_rowOf_2 rfl (lv_at hl 2 rfl) ?_
      refine lv_aload_n hx hb d_Table_rowOf_3 rfl (lv_at hl 0 rfl) ?_
      refine va_get (D := (dC, dI)) (ci := 4) (v := .int tb.2.2.2.2.1) (C := "HazardTables$Table") (T := F_Table) (N := 6) hx hb hts hin_Table hown hK hP 0 rfl rfl 4 (by decide) fl_25 (fun _ h9 => h9) rfl d_Table_rowOf_4 ?_
      refine lv_icmp_gt (tgt := 34) hx hb d_Table_rowOf_7 (by decide) (fun hc1 => ?_) (fun hc1 => ?_)
      · have hf := hf_t hf hc1
        refine lv_iconst (v := (-1 : Int32)) hx hb d_Table_rowOf_34 (by decide) ?_
        exact ret (-1 : Int32) () H locs ls 35 d_Table_rowOf_35 (Option.some.inj hf) hP hD hS
      · have hf := hf_f hf hc1
        refine lv_iload_n hx hb d_Table_rowOf_10 rfl (lv_at hl 2 rfl) ?_
        refine lv_bipush (v := (13 : Int32)) hx hb d_Table_rowOf_11 (by decide) ?_
        refine lv_icmp_ge (tgt := 34) hx hb d_Table_rowOf_13 (by decide) (fun hc2 => ?_) (fun hc2 => ?_)
        · have hf := hf_t hf hc2
          refine lv_iconst (v := (-1 : Int32)) hx hb d_Table_rowOf_34 (by decide) ?_
          exact ret (-1 : Int32) () H locs ls 35 d_Table_rowOf_35 (Option.some.inj hf) hP hD hS
        · have hf := hf_f hf hc2
          refine lv_aload_n hx hb d_Table_rowOf_16 rfl (lv_at hl 0 rfl) ?_
          refine va_get (D := (dC, dI)) (ci := 4) (v := .ref (ad_tb 1)) (C := "HazardTables$Table") (T := F_Table) (N := 6) hx hb hts hin_Table hown hK hP 0 rfl rfl 0 (by decide) fl_11 (fun _ h9 => h9) rfl d_Table_rowOf_17 ?_
          refine lv_iload_n hx hb d_Table_rowOf_20 rfl (lv_at hl 2 rfl) ?_
          obtain ⟨hi3, hf⟩ := hf_g hf
          refine va_iald hx hb hK hP 1 0 rfl rfl hi3 d_Table_rowOf_21 ?_
          refine lv_iload_n hx hb d_Table_rowOf_22 rfl (lv_at hl 1 rfl) ?_
          refine lv_icmp_ne (tgt := 28) hx hb d_Table_rowOf_23 (by decide) (fun hc4 => ?_) (fun hc4 => ?_)
          · have hf := hf_f hf hc4
            refine lv_iinc (v := y2 + (1 : Int32)) (lv' := [(2, .int (y2 + (1 : Int32))), (0, .ref (ad_tb 0)), (1, .int y1)]) hx hb d_Table_rowOf_28 hl (k := 2) rfl rfl (by decide) rfl (fun ls hl => ?_)
            refine lv_goto (tgt := 2) hx hb d_Table_rowOf_31 (by decide) ?_
            exact ih y1 (y2 + (1 : Int32)) H locs ls hf hP hD hS (lv_sub hl [1, 2, 0] rfl)
          · have hf := hf_t hf hc4
            refine lv_iload_n hx hb d_Table_rowOf_26 rfl (lv_at hl 2 rfl) ?_
            exact ret y2 () H locs ls 27 d_Table_rowOf_27 (Option.some.inj hf) hP hD hS
  have hl := lv_entry ([.ref (ad_tb 0), .int x1]) (n := 3) (Nat.le_of_ble_eq_true rfl)
  rw [lg_entry_eq]
  generalize (lg_sl ([.ref (ad_tb 0), .int x1]) ++ List.replicate (3 - (lg_sl ([.ref (ad_tb 0), .int x1])).length) Slot.unset).toArray = ls at hl ⊢
  have hl : lv_has ls 3 [(0, .ref (ad_tb 0)), (1, .int x1)] := hl
  have hf := hf
  rw [f_Table_rowOf] at hf
  obtain ⟨H, hH⟩ : ∃ H : Heap, H = s.heap := ⟨_, rfl⟩
  obtain ⟨locs, hlocs⟩ : ∃ L : List Loc, L = [] := ⟨_, rfl⟩
  have hP : va_P (dC, dI) vwCl (uw_Table ad_tb cA_tb tb) H := by rw [hH]; exact hP
  have hS : va_S A s.heap H locs := by rw [hH, hlocs]; exact hS
  show W p l e (headSpec w_Table_rowOf ({ frames := 0, cells := 0, slots := 0, locals := 0 })).room s m ([.ref (ad_tb 0), .int x1] : List Value).toArray below meth c s.heap [] 0 0 Q (F0 m 0 ls [])
  suffices hgo : W p l e (headSpec w_Table_rowOf ({ frames := 0, cells := 0, slots := 0, locals := 0 })).room s m ([.ref (ad_tb 0), .int x1] : List Value).toArray below meth c H locs 0 0 Q (F0 m 0 ls []) by rw [hH, hlocs] at hgo; exact hgo
  clear hH hlocs
  refine lv_iconst (v := (1 : Int32)) hx hb d_Table_rowOf_0 (by decide) ?_
  refine lv_istore_n (lv' := [(2, .int (1 : Int32)), (0, .ref (ad_tb 0)), (1, .int x1)]) hx hb d_Table_rowOf_1 rfl hl (by decide) rfl (fun ls hl => ?_)
  exact w_2 4096 x1 (1 : Int32) H locs ls hf hP hD hS (lv_sub hl [1, 2, 0] rfl)
noncomputable def f_Table_rowOfOthers (tb : STable) : Option (Int32) :=
  (if (bI tb.2.2.2.2.2) = 0 then
    (some ((-1 : Int32)))
   else
    (some ((0 : Int32)))
   )
set_option maxHeartbeats 4000000 in
set_option maxRecDepth 100000 in
theorem k_Table_rowOfOthers (l : Launch) (dC : Nat → ClassId) (dI : Nat → Nat → Nat) (ad_tb : Nat → Nat) (cA_tb : Nat → ClassId) (sz : Nat) (tb : STable) (res : Int32) (hf : f_Table_rowOfOthers tb = some res) : Met l y_Table_rowOfOthers w_Table_rowOfOthers ({ frames := 0, cells := 0, slots := 0, locals := 0 }) (cPc (dC, dI) (uw_Table ad_tb cA_tb tb) [(cA_tb 1, .int), (cA_tb 2, .int), (cA_tb 3, .int), (cA_tb 4, .byte)] sz [.ref (ad_tb 0)]) (va_Qi (fun (r : Int32) (u : Unit) => r = res) (fun (u : Unit) (t : State) => va_P (dC, dI) vwCl (uw_Table ad_tb cA_tb tb) t.heap ∧ va_K (dC, dI) vwCl [(cA_tb 1, .int), (cA_tb 2, .int), (cA_tb 3, .int), (cA_tb 4, .byte)] t ∧ va_D (va_A (uw_Table ad_tb cA_tb tb) sz) (uw_Table ad_tb cA_tb tb)) (va_A (uw_Table ad_tb cA_tb tb) sz)) 0 0 (va_A (uw_Table ad_tb cA_tb tb) sz) := by
  refine Met.ofW (cc := b_Table_rowOfOthers) (maxL := 1) (ret := (some .int)) (by decide) rfl ?_
  intro p e s m args below meth c s₁ B hml hv
  obtain ⟨rfl, hsz, hP, hK, hD0, hN⟩ := hv
  have hx := B.exec
  have hb := B.bytes
  have hr := B.returns
  have hts := atoms_spec (ws := w_Table_rowOfOthers) B.pre
  have hown : s.vm.findClass "HazardTables$Table" = some m.cls := findClass_of_methodNamed B.named
  have hlocks := B.notSynchronized
  subst hsz
  have hD := hD0.self (sz := s.heap.size)
  generalize hAe : va_A (uw_Table ad_tb cA_tb tb) s.heap.size = A at hD ⊢
  have hA : ∀ q : Nat, s.heap.size ≤ q → A q := fun q h => by rw [← hAe]; exact Or.inr h
  have hS : va_S A s.heap s.heap [] := va_S.rf
  have hP : va_P (dC, dI) vwCl (uw_Table ad_tb cA_tb tb) s.heap := hP
  have fl_29 := (hts _ (List.mem_cons_of_mem _ wd_188))
  have hin_Table : ∀ w ∈ u_ws "HazardTables$Table" F_Table 6, w ∈ w_Table_rowOfOthers := fun w h => List.mem_cons_of_mem _ (hinA_Table w h)
  have ret : ∀ (v : Int32) (u : Unit) (H : Heap) (locs : List Loc) (ls : Array Slot) (pc : Nat), decode b_Table_rowOfOthers pc = .ok (.ireturn, 1) → (v = res) → va_P (dC, dI) vwCl (uw_Table ad_tb cA_tb tb) H → va_D A (uw_Table ad_tb cA_tb tb) → va_S A s.heap H locs → W p l e (headSpec w_Table_rowOfOthers ({ frames := 0, cells := 0, slots := 0, locals := 0 })).room s m ([.ref (ad_tb 0)] : List Value).toArray below meth c H locs 0 0 (MQ below (va_Qi (fun (r : Int32) (u : Unit) => r = res) (fun (u : Unit) (t : State) => va_P (dC, dI) vwCl (uw_Table ad_tb cA_tb tb) t.heap ∧ va_K (dC, dI) vwCl [(cA_tb 1, .int), (cA_tb 2, .int), (cA_tb 3, .int), (cA_tb 4, .byte)] t ∧ va_D A (uw_Table ad_tb cA_tb tb)) A) ([.ref (ad_tb 0)] : List Value).toArray s 0 0 A) (F0 m pc ls [.int v]) := fun v u H locs ls pc hd hp hP hD hS => W.iret (v := v) hx hb hr (fun t ht hW => ⟨⟨v, u, rfl, hp, by rw [ht]; exact hP, va_K.moved hW.alike hK, hD⟩, hS.F ht⟩) hS.2.2 hd
  generalize (MQ below (va_Qi (fun (r : Int32) (u : Unit) => r = res) (fun (u : Unit) (t : State) => va_P (dC, dI) vwCl (uw_Table ad_tb cA_tb tb) t.heap ∧ va_K (dC, dI) vwCl [(cA_tb 1, .int), (cA_tb 2, .int), (cA_tb 3, .int), (cA_tb 4, .byte)] t ∧ va_D A (uw_Table ad_tb cA_tb tb)) A) ([.ref (ad_tb 0)] : List Value).toArray s 0 0 A) = Q at ret ⊢
  have hl := lv_entry ([.ref (ad_tb 0)]) (n := 1) (Nat.le_of_ble_eq_true rfl)
  rw [lg_entry_eq]
  generalize (lg_sl ([.ref (ad_tb 0)]) ++ List.replicate (1 - (lg_sl ([.ref (ad_tb 0)])).length) Slot.unset).toArray = ls at hl ⊢
  have hl : lv_has ls 1 [(0, .ref (ad_tb 0))] := hl
  have hf := hf
  rw [f_Table_rowOfOthers] at hf
  obtain ⟨H, hH⟩ : ∃ H : Heap, H = s.heap := ⟨_, rfl⟩
  obtain ⟨locs, hlocs⟩ : ∃ L : List Loc, L = [] := ⟨_, rfl⟩
  have hP : va_P (dC, dI) vwCl (uw_Table ad_tb cA_tb tb) H := by rw [hH]; exact hP
  have hS : va_S A s.heap H locs := by rw [hH, hlocs]; exact hS
  show W p l e (headSpec w_Table_rowOfOthers ({ frames := 0, cells := 0, slots := 0, locals := 0 })).room s m ([.ref (ad_tb 0)] : List Value).toArray below meth c s.heap [] 0 0 Q (F0 m 0 ls [])
  suffices hgo : W p l e (headSpec w_Table_rowOfOthers ({ frames := 0, cells := 0, slots := 0, locals := 0 })).room s m ([.ref (ad_tb 0)] : List Value).toArray below meth c H locs 0 0 Q (F0 m 0 ls []) by rw [hH, hlocs] at hgo; exact hgo
  clear hH hlocs
  refine lv_aload_n hx hb d_Table_rowOfOthers_0 rfl (lv_at hl 0 rfl) ?_
  refine va_get (D := (dC, dI)) (ci := 4) (v := .int (bI tb.2.2.2.2.2)) (C := "HazardTables$Table") (T := F_Table) (N := 6) hx hb hts hin_Table hown hK hP 0 rfl rfl 5 (by decide) fl_29 (fun _ h9 => h9) rfl d_Table_rowOfOthers_1 ?_
  refine lv_if_eq (tgt := 11) hx hb d_Table_rowOfOthers_4 (by decide) (fun hc1 => ?_) (fun hc1 => ?_)
  · have hf := hf_t hf hc1
    refine lv_iconst (v := (-1 : Int32)) hx hb d_Table_rowOfOthers_11 (by decide) ?_
    exact ret (-1 : Int32) () H locs ls 12 d_Table_rowOfOthers_12 (Option.some.inj hf) hP hD hS
  · have hf := hf_f hf hc1
    refine lv_iconst (v := (0 : Int32)) hx hb d_Table_rowOfOthers_7 (by decide) ?_
    refine lv_goto (tgt := 12) hx hb d_Table_rowOfOthers_8 (by decide) ?_
    exact ret (0 : Int32) () H locs ls 12 d_Table_rowOfOthers_12 (Option.some.inj hf) hP hD hS
noncomputable def f_Table_cell (tb : STable) (x1 : Int32) (x2 : Int32) : Option (Int32) :=
  (if ((x1 * (9 : Int32)) + x2) < 0 then
    (some ((0 : Int32)))
   else
    (if (117 : Int32) ≤ ((x1 * (9 : Int32)) + x2) then
      (some ((0 : Int32)))
     else
      (if inb ((x1 * (9 : Int32)) + x2) 117 then
        (some (tb.2.1 ((x1 * (9 : Int32)) + x2).toNatClampNeg))
       else none)
     )
   )
set_option maxHeartbeats 4000000 in
set_option maxRecDepth 100000 in
theorem k_Table_cell (l : Launch) (dC : Nat → ClassId) (dI : Nat → Nat → Nat) (ad_tb : Nat → Nat) (cA_tb : Nat → ClassId) (sz : Nat) (tb : STable) (x1 : Int32) (x2 : Int32) (res : Int32) (hf : f_Table_cell tb x1 x2 = some res) : Met l y_Table_cell w_Table_cell ({ frames := 0, cells := 0, slots := 0, locals := 0 }) (cPc (dC, dI) (uw_Table ad_tb cA_tb tb) [(cA_tb 1, .int), (cA_tb 2, .int), (cA_tb 3, .int), (cA_tb 4, .byte)] sz [.ref (ad_tb 0), .int x1, .int x2]) (va_Qi (fun (r : Int32) (u : Unit) => r = res) (fun (u : Unit) (t : State) => va_P (dC, dI) vwCl (uw_Table ad_tb cA_tb tb) t.heap ∧ va_K (dC, dI) vwCl [(cA_tb 1, .int), (cA_tb 2, .int), (cA_tb 3, .int), (cA_tb 4, .byte)] t ∧ va_D (va_A (uw_Table ad_tb cA_tb tb) sz) (uw_Table ad_tb cA_tb tb)) (va_A (uw_Table ad_tb cA_tb tb) sz)) 0 0 (va_A (uw_Table ad_tb cA_tb tb) sz) := by
  refine Met.ofW (cc := b_Table_cell) (maxL := 4) (ret := (some .int)) (by decide) rfl ?_
  intro p e s m args below meth c s₁ B hml hv
  obtain ⟨rfl, hsz, hP, hK, hD0, hN⟩ := hv
  have hx := B.exec
  have hb := B.bytes
  have hr := B.returns
  have hts := atoms_spec (ws := w_Table_cell) B.pre
  have hown : s.vm.findClass "HazardTables$Table" = some m.cls := findClass_of_methodNamed B.named
  have hlocks := B.notSynchronized
  subst hsz
  have hD := hD0.self (sz := s.heap.size)
  generalize hAe : va_A (uw_Table ad_tb cA_tb tb) s.heap.size = A at hD ⊢
  have hA : ∀ q : Nat, s.heap.size ≤ q → A q := fun q h => by rw [← hAe]; exact Or.inr h
  have hS : va_S A s.heap s.heap [] := va_S.rf
  have hP : va_P (dC, dI) vwCl (uw_Table ad_tb cA_tb tb) s.heap := hP
  have fl_15 := (hts _ (List.mem_cons_of_mem _ wd_181))
  have hin_Table : ∀ w ∈ u_ws "HazardTables$Table" F_Table 6, w ∈ w_Table_cell := fun w h => List.mem_cons_of_mem _ (hinA_Table w h)
  have ret : ∀ (v : Int32) (u : Unit) (H : Heap) (locs : List Loc) (ls : Array Slot) (pc : Nat), decode b_Table_cell pc = .ok (.ireturn, 1) → (v = res) → va_P (dC, dI) vwCl (uw_Table ad_tb cA_tb tb) H → va_D A (uw_Table ad_tb cA_tb tb) → va_S A s.heap H locs → W p l e (headSpec w_Table_cell ({ frames := 0, cells := 0, slots := 0, locals := 0 })).room s m ([.ref (ad_tb 0), .int x1, .int x2] : List Value).toArray below meth c H locs 0 0 (MQ below (va_Qi (fun (r : Int32) (u : Unit) => r = res) (fun (u : Unit) (t : State) => va_P (dC, dI) vwCl (uw_Table ad_tb cA_tb tb) t.heap ∧ va_K (dC, dI) vwCl [(cA_tb 1, .int), (cA_tb 2, .int), (cA_tb 3, .int), (cA_tb 4, .byte)] t ∧ va_D A (uw_Table ad_tb cA_tb tb)) A) ([.ref (ad_tb 0), .int x1, .int x2] : List Value).toArray s 0 0 A) (F0 m pc ls [.int v]) := fun v u H locs ls pc hd hp hP hD hS => W.iret (v := v) hx hb hr (fun t ht hW => ⟨⟨v, u, rfl, hp, by rw [ht]; exact hP, va_K.moved hW.alike hK, hD⟩, hS.F ht⟩) hS.2.2 hd
  generalize (MQ below (va_Qi (fun (r : Int32) (u : Unit) => r = res) (fun (u : Unit) (t : State) => va_P (dC, dI) vwCl (uw_Table ad_tb cA_tb tb) t.heap ∧ va_K (dC, dI) vwCl [(cA_tb 1, .int), (cA_tb 2, .int), (cA_tb 3, .int), (cA_tb 4, .byte)] t ∧ va_D A (uw_Table ad_tb cA_tb tb)) A) ([.ref (ad_tb 0), .int x1, .int x2] : List Value).toArray s 0 0 A) = Q at ret ⊢
  have hl := lv_entry ([.ref (ad_tb 0), .int x1, .int x2]) (n := 4) (Nat.le_of_ble_eq_true rfl)
  rw [lg_entry_eq]
  generalize (lg_sl ([.ref (ad_tb 0), .int x1, .int x2]) ++ List.replicate (4 - (lg_sl ([.ref (ad_tb 0), .int x1, .int x2])).length) Slot.unset).toArray = ls at hl ⊢
  have hl : lv_has ls 4 [(0, .ref (ad_tb 0)), (1, .int x1), (2, .int x2)] := hl
  have hf := hf
  rw [f_Table_cell] at hf
  obtain ⟨H, hH⟩ : ∃ H : Heap, H = s.heap := ⟨_, rfl⟩
  obtain ⟨locs, hlocs⟩ : ∃ L : List Loc, L = [] := ⟨_, rfl⟩
  have hP : va_P (dC, dI) vwCl (uw_Table ad_tb cA_tb tb) H := by rw [hH]; exact hP
  have hS : va_S A s.heap H locs := by rw [hH, hlocs]; exact hS
  show W p l e (headSpec w_Table_cell ({ frames := 0, cells := 0, slots := 0, locals := 0 })).room s m ([.ref (ad_tb 0), .int x1, .int x2] : List Value).toArray below meth c s.heap [] 0 0 Q (F0 m 0 ls [])
  suffices hgo : W p l e (headSpec w_Table_cell ({ frames := 0, cells := 0, slots := 0, locals := 0 })).room s m ([.ref (ad_tb 0), .int x1, .int x2] : List Value).toArray below meth c H locs 0 0 Q (F0 m 0 ls []) by rw [hH, hlocs] at hgo; exact hgo
  clear hH hlocs
  refine lv_iload_n hx hb d_Table_cell_0 rfl (lv_at hl 1 rfl) ?_
  refine lv_bipush (v := (9 : Int32)) hx hb d_Table_cell_1 (by decide) ?_
  refine lv_imul hx hb d_Table_cell_3 ?_
  refine lv_iload_n hx hb d_Table_cell_4 rfl (lv_at hl 2 rfl) ?_
  refine lv_iadd hx hb d_Table_cell_5 ?_
  refine lv_istore_n (lv' := [(3, .int ((x1 * (9 : Int32)) + x2)), (0, .ref (ad_tb 0)), (1, .int x1), (2, .int x2)]) hx hb d_Table_cell_6 rfl hl (by decide) rfl (fun ls hl => ?_)
  refine lv_iload_n hx hb d_Table_cell_7 rfl (lv_at hl 0 rfl) ?_
  refine lv_if_lt (tgt := 29) hx hb d_Table_cell_8 (by decide) (fun hc1 => ?_) (fun hc1 => ?_)
  · have hf := hf_t hf hc1
    refine lv_iconst (v := (0 : Int32)) hx hb d_Table_cell_29 (by decide) ?_
    exact ret (0 : Int32) () H locs ls 30 d_Table_cell_30 (Option.some.inj hf) hP hD hS
  · have hf := hf_f hf hc1
    refine lv_iload_n hx hb d_Table_cell_11 rfl (lv_at hl 0 rfl) ?_
    refine lv_aload_n hx hb d_Table_cell_12 rfl (lv_at hl 1 rfl) ?_
    refine va_get (D := (dC, dI)) (ci := 4) (v := .ref (ad_tb 2)) (C := "HazardTables$Table") (T := F_Table) (N := 6) hx hb hts hin_Table hown hK hP 0 rfl rfl 1 (by decide) fl_15 (fun _ h9 => h9) rfl d_Table_cell_13 ?_
    refine va_alen (v := 117) hx hb hK hP 2 1 rfl (ty := .int) rfl rfl d_Table_cell_16 ?_
    refine lv_icmp_ge (tgt := 29) hx hb d_Table_cell_17 (by decide) (fun hc2 => ?_) (fun hc2 => ?_)
    · have hf := hf_t hf hc2
      refine lv_iconst (v := (0 : Int32)) hx hb d_Table_cell_29 (by decide) ?_
      exact ret (0 : Int32) () H locs ls 30 d_Table_cell_30 (Option.some.inj hf) hP hD hS
    · have hf := hf_f hf hc2
      refine lv_aload_n hx hb d_Table_cell_20 rfl (lv_at hl 1 rfl) ?_
      refine va_get (D := (dC, dI)) (ci := 4) (v := .ref (ad_tb 2)) (C := "HazardTables$Table") (T := F_Table) (N := 6) hx hb hts hin_Table hown hK hP 0 rfl rfl 1 (by decide) fl_15 (fun _ h9 => h9) rfl d_Table_cell_21 ?_
      refine lv_iload_n hx hb d_Table_cell_24 rfl (lv_at hl 0 rfl) ?_
      obtain ⟨hi3, hf⟩ := hf_g hf
      refine va_iald hx hb hK hP 2 1 rfl rfl hi3 d_Table_cell_25 ?_
      refine lv_goto (tgt := 30) hx hb d_Table_cell_26 (by decide) ?_
      exact ret (tb.2.1 ((x1 * (9 : Int32)) + x2).toNatClampNeg) () H locs ls 30 d_Table_cell_30 (Option.some.inj hf) hP hD hS
noncomputable def f_Table_setCell (tb : STable) (x1 : Int32) (x2 : Int32) (x3 : Int32) : Option (STable) :=
  (if ((x1 * (9 : Int32)) + x2) < 0 then
    (some tb)
   else
    (if (117 : Int32) ≤ ((x1 * (9 : Int32)) + x2) then
      (some tb)
     else
      (if inb ((x1 * (9 : Int32)) + x2) 117 then
        (some (tb.1, upd tb.2.1 ((x1 * (9 : Int32)) + x2).toNatClampNeg x3, tb.2.2.1, tb.2.2.2.1, tb.2.2.2.2.1, tb.2.2.2.2.2))
       else none)
     )
   )
set_option maxHeartbeats 4000000 in
set_option maxRecDepth 100000 in
theorem k_Table_setCell (l : Launch) (dC : Nat → ClassId) (dI : Nat → Nat → Nat) (ad_tb : Nat → Nat) (cA_tb : Nat → ClassId) (sz : Nat) (tb : STable) (x1 : Int32) (x2 : Int32) (x3 : Int32) (res : STable) (hf : f_Table_setCell tb x1 x2 x3 = some res) : Met l y_Table_setCell w_Table_setCell ({ frames := 0, cells := 0, slots := 0, locals := 0 }) (cPc (dC, dI) (uw_Table ad_tb cA_tb tb) [(cA_tb 1, .int), (cA_tb 2, .int), (cA_tb 3, .int), (cA_tb 4, .byte)] sz [.ref (ad_tb 0), .int x1, .int x2, .int x3]) (va_Qv (fun (u : STable) => u = res) (fun (u : STable) (t : State) => va_P (dC, dI) vwCl (uw_Table ad_tb cA_tb u) t.heap ∧ va_K (dC, dI) vwCl [(cA_tb 1, .int), (cA_tb 2, .int), (cA_tb 3, .int), (cA_tb 4, .byte)] t ∧ va_D (va_A (uw_Table ad_tb cA_tb tb) sz) (uw_Table ad_tb cA_tb u)) (va_A (uw_Table ad_tb cA_tb tb) sz)) 0 0 (va_A (uw_Table ad_tb cA_tb tb) sz) := by
  refine Met.ofW (cc := b_Table_setCell) (maxL := 5) (ret := none) (by decide) rfl ?_
  intro p e s m args below meth c s₁ B hml hv
  obtain ⟨rfl, hsz, hP, hK, hD0, hN⟩ := hv
  have hx := B.exec
  have hb := B.bytes
  have hr := B.returns
  have hts := atoms_spec (ws := w_Table_setCell) B.pre
  have hown : s.vm.findClass "HazardTables$Table" = some m.cls := findClass_of_methodNamed B.named
  have hlocks := B.notSynchronized
  subst hsz
  have hD := hD0.self (sz := s.heap.size)
  generalize hAe : va_A (uw_Table ad_tb cA_tb tb) s.heap.size = A at hD ⊢
  have hA : ∀ q : Nat, s.heap.size ≤ q → A q := fun q h => by rw [← hAe]; exact Or.inr h
  have hS : va_S A s.heap s.heap [] := va_S.rf
  have hP : va_P (dC, dI) vwCl (uw_Table ad_tb cA_tb tb) s.heap := hP
  have fl_15 := (hts _ (List.mem_cons_of_mem _ wd_181))
  have hin_Table : ∀ w ∈ u_ws "HazardTables$Table" F_Table 6, w ∈ w_Table_setCell := fun w h => List.mem_cons_of_mem _ (hinA_Table w h)
  have ret : ∀ (u : STable) (H : Heap) (locs : List Loc) (ls : Array Slot) (pc : Nat), decode b_Table_setCell pc = .ok (.return_, 1) → u = res → va_P (dC, dI) vwCl (uw_Table ad_tb cA_tb u) H → va_D A (uw_Table ad_tb cA_tb u) → va_S A s.heap H locs → W p l e (headSpec w_Table_setCell ({ frames := 0, cells := 0, slots := 0, locals := 0 })).room s m ([.ref (ad_tb 0), .int x1, .int x2, .int x3] : List Value).toArray below meth c H locs 0 0 (MQ below (va_Qv (fun (u : STable) => u = res) (fun (u : STable) (t : State) => va_P (dC, dI) vwCl (uw_Table ad_tb cA_tb u) t.heap ∧ va_K (dC, dI) vwCl [(cA_tb 1, .int), (cA_tb 2, .int), (cA_tb 3, .int), (cA_tb 4, .byte)] t ∧ va_D A (uw_Table ad_tb cA_tb u)) A) ([.ref (ad_tb 0), .int x1, .int x2, .int x3] : List Value).toArray s 0 0 A) (F0 m pc ls []) := fun u H locs ls pc hd hp hP hD hS => W.vret hx hb hr (fun t ht hW => ⟨⟨u, rfl, hp, by rw [ht]; exact hP, va_K.moved hW.alike hK, hD⟩, hS.F ht⟩) hS.2.2 hd
  generalize (MQ below (va_Qv (fun (u : STable) => u = res) (fun (u : STable) (t : State) => va_P (dC, dI) vwCl (uw_Table ad_tb cA_tb u) t.heap ∧ va_K (dC, dI) vwCl [(cA_tb 1, .int), (cA_tb 2, .int), (cA_tb 3, .int), (cA_tb 4, .byte)] t ∧ va_D A (uw_Table ad_tb cA_tb u)) A) ([.ref (ad_tb 0), .int x1, .int x2, .int x3] : List Value).toArray s 0 0 A) = Q at ret ⊢
  have hl := lv_entry ([.ref (ad_tb 0), .int x1, .int x2, .int x3]) (n := 5) (Nat.le_of_ble_eq_true rfl)
  rw [lg_entry_eq]
  generalize (lg_sl ([.ref (ad_tb 0), .int x1, .int x2, .int x3]) ++ List.replicate (5 - (lg_sl ([.ref (ad_tb 0), .int x1, .int x2, .int x3])).length) Slot.unset).toArray = ls at hl ⊢
  have hl : lv_has ls 5 [(0, .ref (ad_tb 0)), (1, .int x1), (2, .int x2), (3, .int x3)] := hl
  have hf := hf
  rw [f_Table_setCell] at hf
  obtain ⟨H, hH⟩ : ∃ H : Heap, H = s.heap := ⟨_, rfl⟩
  obtain ⟨locs, hlocs⟩ : ∃ L : List Loc, L = [] := ⟨_, rfl⟩
  have hP : va_P (dC, dI) vwCl (uw_Table ad_tb cA_tb tb) H := by rw [hH]; exact hP
  have hS : va_S A s.heap H locs := by rw [hH, hlocs]; exact hS
  show W p l e (headSpec w_Table_setCell ({ frames := 0, cells := 0, slots := 0, locals := 0 })).room s m ([.ref (ad_tb 0), .int x1, .int x2, .int x3] : List Value).toArray below meth c s.heap [] 0 0 Q (F0 m 0 ls [])
  suffices hgo : W p l e (headSpec w_Table_setCell ({ frames := 0, cells := 0, slots := 0, locals := 0 })).room s m ([.ref (ad_tb 0), .int x1, .int x2, .int x3] : List Value).toArray below meth c H locs 0 0 Q (F0 m 0 ls []) by rw [hH, hlocs] at hgo; exact hgo
  clear hH hlocs
  refine lv_iload_n hx hb d_Table_setCell_0 rfl (lv_at hl 1 rfl) ?_
  refine lv_bipush (v := (9 : Int32)) hx hb d_Table_setCell_1 (by decide) ?_
  refine lv_imul hx hb d_Table_setCell_3 ?_
  refine lv_iload_n hx hb d_Table_setCell_4 rfl (lv_at hl 2 rfl) ?_
  refine lv_iadd hx hb d_Table_setCell_5 ?_
  refine lv_istore (lv' := [(4, .int ((x1 * (9 : Int32)) + x2)), (0, .ref (ad_tb 0)), (1, .int x1), (2, .int x2), (3, .int x3)]) hx hb d_Table_setCell_6 hl (by decide) rfl (fun ls hl => ?_)
  refine lv_iload hx hb d_Table_setCell_8 (lv_at hl 0 rfl) ?_
  refine lv_if_lt (tgt := 31) hx hb d_Table_setCell_10 (by decide) (fun hc1 => ?_) (fun hc1 => ?_)
  · have hf := hf_t hf hc1
    exact ret  tb H locs ls 31 d_Table_setCell_31 (Option.some.inj hf) hP hD hS
  · have hf := hf_f hf hc1
    refine lv_iload hx hb d_Table_setCell_13 (lv_at hl 0 rfl) ?_
    refine lv_aload_n hx hb d_Table_setCell_15 rfl (lv_at hl 1 rfl) ?_
    refine va_get (D := (dC, dI)) (ci := 4) (v := .ref (ad_tb 2)) (C := "HazardTables$Table") (T := F_Table) (N := 6) hx hb hts hin_Table hown hK hP 0 rfl rfl 1 (by decide) fl_15 (fun _ h9 => h9) rfl d_Table_setCell_16 ?_
    refine va_alen (v := 117) hx hb hK hP 2 1 rfl (ty := .int) rfl rfl d_Table_setCell_19 ?_
    refine lv_icmp_ge (tgt := 31) hx hb d_Table_setCell_20 (by decide) (fun hc2 => ?_) (fun hc2 => ?_)
    · have hf := hf_t hf hc2
      exact ret  tb H locs ls 31 d_Table_setCell_31 (Option.some.inj hf) hP hD hS
    · have hf := hf_f hf hc2
      refine lv_aload_n hx hb d_Table_setCell_23 rfl (lv_at hl 1 rfl) ?_
      refine va_get (D := (dC, dI)) (ci := 4) (v := .ref (ad_tb 2)) (C := "HazardTables$Table") (T := F_Table) (N := 6) hx hb hts hin_Table hown hK hP 0 rfl rfl 1 (by decide) fl_15 (fun _ h9 => h9) rfl d_Table_setCell_24 ?_
      refine lv_iload hx hb d_Table_setCell_27 (lv_at hl 0 rfl) ?_
      refine lv_iload_n hx hb d_Table_setCell_29 rfl (lv_at hl 4 rfl) ?_
      obtain ⟨hi3, hf⟩ := hf_g hf
      refine va_iast hx hb hK hP hD hS 2 1 rfl rfl hi3 d_Table_setCell_30 (fun H locs hP hD hS => ?_)
      have hP : va_P (dC, dI) vwCl (uw_Table ad_tb cA_tb (tb.1, upd tb.2.1 ((x1 * (9 : Int32)) + x2).toNatClampNeg x3, tb.2.2.1, tb.2.2.2.1, tb.2.2.2.2.1, tb.2.2.2.2.2)) H := hP
      have hD : va_D A (uw_Table ad_tb cA_tb (tb.1, upd tb.2.1 ((x1 * (9 : Int32)) + x2).toNatClampNeg x3, tb.2.2.1, tb.2.2.2.1, tb.2.2.2.2.1, tb.2.2.2.2.2)) := hD
      exact ret  (tb.1, upd tb.2.1 ((x1 * (9 : Int32)) + x2).toNatClampNeg x3, tb.2.2.1, tb.2.2.2.1, tb.2.2.2.2.1, tb.2.2.2.2.2) H locs ls 31 d_Table_setCell_31 (Option.some.inj hf) hP hD hS
noncomputable def f_Table_nameLength (tb : STable) (x1 : Int32) (x2 : Int32) : Option (Int32) :=
  (if ((x1 * (3 : Int32)) + x2) < 0 then
    (some ((0 : Int32)))
   else
    (if (39 : Int32) ≤ ((x1 * (3 : Int32)) + x2) then
      (some ((0 : Int32)))
     else
      (if inb ((x1 * (3 : Int32)) + x2) 39 then
        (some (tb.2.2.1 ((x1 * (3 : Int32)) + x2).toNatClampNeg))
       else none)
     )
   )
set_option maxHeartbeats 4000000 in
set_option maxRecDepth 100000 in
theorem k_Table_nameLength (l : Launch) (dC : Nat → ClassId) (dI : Nat → Nat → Nat) (ad_tb : Nat → Nat) (cA_tb : Nat → ClassId) (sz : Nat) (tb : STable) (x1 : Int32) (x2 : Int32) (res : Int32) (hf : f_Table_nameLength tb x1 x2 = some res) : Met l y_Table_nameLength w_Table_nameLength ({ frames := 0, cells := 0, slots := 0, locals := 0 }) (cPc (dC, dI) (uw_Table ad_tb cA_tb tb) [(cA_tb 1, .int), (cA_tb 2, .int), (cA_tb 3, .int), (cA_tb 4, .byte)] sz [.ref (ad_tb 0), .int x1, .int x2]) (va_Qi (fun (r : Int32) (u : Unit) => r = res) (fun (u : Unit) (t : State) => va_P (dC, dI) vwCl (uw_Table ad_tb cA_tb tb) t.heap ∧ va_K (dC, dI) vwCl [(cA_tb 1, .int), (cA_tb 2, .int), (cA_tb 3, .int), (cA_tb 4, .byte)] t ∧ va_D (va_A (uw_Table ad_tb cA_tb tb) sz) (uw_Table ad_tb cA_tb tb)) (va_A (uw_Table ad_tb cA_tb tb) sz)) 0 0 (va_A (uw_Table ad_tb cA_tb tb) sz) := by
  refine Met.ofW (cc := b_Table_nameLength) (maxL := 4) (ret := (some .int)) (by decide) rfl ?_
  intro p e s m args below meth c s₁ B hml hv
  obtain ⟨rfl, hsz, hP, hK, hD0, hN⟩ := hv
  have hx := B.exec
  have hb := B.bytes
  have hr := B.returns
  have hts := atoms_spec (ws := w_Table_nameLength) B.pre
  have hown : s.vm.findClass "HazardTables$Table" = some m.cls := findClass_of_methodNamed B.named
  have hlocks := B.notSynchronized
  subst hsz
  have hD := hD0.self (sz := s.heap.size)
  generalize hAe : va_A (uw_Table ad_tb cA_tb tb) s.heap.size = A at hD ⊢
  have hA : ∀ q : Nat, s.heap.size ≤ q → A q := fun q h => by rw [← hAe]; exact Or.inr h
  have hS : va_S A s.heap s.heap [] := va_S.rf
  have hP : va_P (dC, dI) vwCl (uw_Table ad_tb cA_tb tb) s.heap := hP
  have fl_18 := (hts _ (List.mem_cons_of_mem _ wd_182))
  have hin_Table : ∀ w ∈ u_ws "HazardTables$Table" F_Table 6, w ∈ w_Table_nameLength := fun w h => List.mem_cons_of_mem _ (hinA_Table w h)
  have ret : ∀ (v : Int32) (u : Unit) (H : Heap) (locs : List Loc) (ls : Array Slot) (pc : Nat), decode b_Table_nameLength pc = .ok (.ireturn, 1) → (v = res) → va_P (dC, dI) vwCl (uw_Table ad_tb cA_tb tb) H → va_D A (uw_Table ad_tb cA_tb tb) → va_S A s.heap H locs → W p l e (headSpec w_Table_nameLength ({ frames := 0, cells := 0, slots := 0, locals := 0 })).room s m ([.ref (ad_tb 0), .int x1, .int x2] : List Value).toArray below meth c H locs 0 0 (MQ below (va_Qi (fun (r : Int32) (u : Unit) => r = res) (fun (u : Unit) (t : State) => va_P (dC, dI) vwCl (uw_Table ad_tb cA_tb tb) t.heap ∧ va_K (dC, dI) vwCl [(cA_tb 1, .int), (cA_tb 2, .int), (cA_tb 3, .int), (cA_tb 4, .byte)] t ∧ va_D A (uw_Table ad_tb cA_tb tb)) A) ([.ref (ad_tb 0), .int x1, .int x2] : List Value).toArray s 0 0 A) (F0 m pc ls [.int v]) := fun v u H locs ls pc hd hp hP hD hS => W.iret (v := v) hx hb hr (fun t ht hW => ⟨⟨v, u, rfl, hp, by rw [ht]; exact hP, va_K.moved hW.alike hK, hD⟩, hS.F ht⟩) hS.2.2 hd
  generalize (MQ below (va_Qi (fun (r : Int32) (u : Unit) => r = res) (fun (u : Unit) (t : State) => va_P (dC, dI) vwCl (uw_Table ad_tb cA_tb tb) t.heap ∧ va_K (dC, dI) vwCl [(cA_tb 1, .int), (cA_tb 2, .int), (cA_tb 3, .int), (cA_tb 4, .byte)] t ∧ va_D A (uw_Table ad_tb cA_tb tb)) A) ([.ref (ad_tb 0), .int x1, .int x2] : List Value).toArray s 0 0 A) = Q at ret ⊢
  have hl := lv_entry ([.ref (ad_tb 0), .int x1, .int x2]) (n := 4) (Nat.le_of_ble_eq_true rfl)
  rw [lg_entry_eq]
  generalize (lg_sl ([.ref (ad_tb 0), .int x1, .int x2]) ++ List.replicate (4 - (lg_sl ([.ref (ad_tb 0), .int x1, .int x2])).length) Slot.unset).toArray = ls at hl ⊢
  have hl : lv_has ls 4 [(0, .ref (ad_tb 0)), (1, .int x1), (2, .int x2)] := hl
  have hf := hf
  rw [f_Table_nameLength] at hf
  obtain ⟨H, hH⟩ : ∃ H : Heap, H = s.heap := ⟨_, rfl⟩
  obtain ⟨locs, hlocs⟩ : ∃ L : List Loc, L = [] := ⟨_, rfl⟩
  have hP : va_P (dC, dI) vwCl (uw_Table ad_tb cA_tb tb) H := by rw [hH]; exact hP
  have hS : va_S A s.heap H locs := by rw [hH, hlocs]; exact hS
  show W p l e (headSpec w_Table_nameLength ({ frames := 0, cells := 0, slots := 0, locals := 0 })).room s m ([.ref (ad_tb 0), .int x1, .int x2] : List Value).toArray below meth c s.heap [] 0 0 Q (F0 m 0 ls [])
  suffices hgo : W p l e (headSpec w_Table_nameLength ({ frames := 0, cells := 0, slots := 0, locals := 0 })).room s m ([.ref (ad_tb 0), .int x1, .int x2] : List Value).toArray below meth c H locs 0 0 Q (F0 m 0 ls []) by rw [hH, hlocs] at hgo; exact hgo
  clear hH hlocs
  refine lv_iload_n hx hb d_Table_nameLength_0 rfl (lv_at hl 1 rfl) ?_
  refine lv_iconst (v := (3 : Int32)) hx hb d_Table_nameLength_1 (by decide) ?_
  refine lv_imul hx hb d_Table_nameLength_2 ?_
  refine lv_iload_n hx hb d_Table_nameLength_3 rfl (lv_at hl 2 rfl) ?_
  refine lv_iadd hx hb d_Table_nameLength_4 ?_
  refine lv_istore_n (lv' := [(3, .int ((x1 * (3 : Int32)) + x2)), (0, .ref (ad_tb 0)), (1, .int x1), (2, .int x2)]) hx hb d_Table_nameLength_5 rfl hl (by decide) rfl (fun ls hl => ?_)
  refine lv_iload_n hx hb d_Table_nameLength_6 rfl (lv_at hl 0 rfl) ?_
  refine lv_if_lt (tgt := 28) hx hb d_Table_nameLength_7 (by decide) (fun hc1 => ?_) (fun hc1 => ?_)
  · have hf := hf_t hf hc1
    refine lv_iconst (v := (0 : Int32)) hx hb d_Table_nameLength_28 (by decide) ?_
    exact ret (0 : Int32) () H locs ls 29 d_Table_nameLength_29 (Option.some.inj hf) hP hD hS
  · have hf := hf_f hf hc1
    refine lv_iload_n hx hb d_Table_nameLength_10 rfl (lv_at hl 0 rfl) ?_
    refine lv_aload_n hx hb d_Table_nameLength_11 rfl (lv_at hl 1 rfl) ?_
    refine va_get (D := (dC, dI)) (ci := 4) (v := .ref (ad_tb 3)) (C := "HazardTables$Table") (T := F_Table) (N := 6) hx hb hts hin_Table hown hK hP 0 rfl rfl 2 (by decide) fl_18 (fun _ h9 => h9) rfl d_Table_nameLength_12 ?_
    refine va_alen (v := 39) hx hb hK hP 3 2 rfl (ty := .int) rfl rfl d_Table_nameLength_15 ?_
    refine lv_icmp_ge (tgt := 28) hx hb d_Table_nameLength_16 (by decide) (fun hc2 => ?_) (fun hc2 => ?_)
    · have hf := hf_t hf hc2
      refine lv_iconst (v := (0 : Int32)) hx hb d_Table_nameLength_28 (by decide) ?_
      exact ret (0 : Int32) () H locs ls 29 d_Table_nameLength_29 (Option.some.inj hf) hP hD hS
    · have hf := hf_f hf hc2
      refine lv_aload_n hx hb d_Table_nameLength_19 rfl (lv_at hl 1 rfl) ?_
      refine va_get (D := (dC, dI)) (ci := 4) (v := .ref (ad_tb 3)) (C := "HazardTables$Table") (T := F_Table) (N := 6) hx hb hts hin_Table hown hK hP 0 rfl rfl 2 (by decide) fl_18 (fun _ h9 => h9) rfl d_Table_nameLength_20 ?_
      refine lv_iload_n hx hb d_Table_nameLength_23 rfl (lv_at hl 0 rfl) ?_
      obtain ⟨hi3, hf⟩ := hf_g hf
      refine va_iald hx hb hK hP 3 2 rfl rfl hi3 d_Table_nameLength_24 ?_
      refine lv_goto (tgt := 29) hx hb d_Table_nameLength_25 (by decide) ?_
      exact ret (tb.2.2.1 ((x1 * (3 : Int32)) + x2).toNatClampNeg) () H locs ls 29 d_Table_nameLength_29 (Option.some.inj hf) hP hD hS
noncomputable def f_Table_nameLetter (tb : STable) (x1 : Int32) (x2 : Int32) (x3 : Int32) : Option (Int32) :=
  (if ((((x1 * (3 : Int32)) + x2) * (10 : Int32)) + x3) < 0 then
    (some ((0 : Int32)))
   else
    (if (390 : Int32) ≤ ((((x1 * (3 : Int32)) + x2) * (10 : Int32)) + x3) then
      (some ((0 : Int32)))
     else
      (if inb ((((x1 * (3 : Int32)) + x2) * (10 : Int32)) + x3) 390 then
        (some (tb.2.2.2.1 ((((x1 * (3 : Int32)) + x2) * (10 : Int32)) + x3).toNatClampNeg))
       else none)
     )
   )
set_option maxHeartbeats 4000000 in
set_option maxRecDepth 100000 in
theorem k_Table_nameLetter (l : Launch) (dC : Nat → ClassId) (dI : Nat → Nat → Nat) (ad_tb : Nat → Nat) (cA_tb : Nat → ClassId) (sz : Nat) (tb : STable) (x1 : Int32) (x2 : Int32) (x3 : Int32) (res : Int32) (hf : f_Table_nameLetter tb x1 x2 x3 = some res) : Met l y_Table_nameLetter w_Table_nameLetter ({ frames := 0, cells := 0, slots := 0, locals := 0 }) (cPc (dC, dI) (uw_Table ad_tb cA_tb tb) [(cA_tb 1, .int), (cA_tb 2, .int), (cA_tb 3, .int), (cA_tb 4, .byte)] sz [.ref (ad_tb 0), .int x1, .int x2, .int x3]) (va_Qi (fun (r : Int32) (u : Unit) => r = res) (fun (u : Unit) (t : State) => va_P (dC, dI) vwCl (uw_Table ad_tb cA_tb tb) t.heap ∧ va_K (dC, dI) vwCl [(cA_tb 1, .int), (cA_tb 2, .int), (cA_tb 3, .int), (cA_tb 4, .byte)] t ∧ va_D (va_A (uw_Table ad_tb cA_tb tb) sz) (uw_Table ad_tb cA_tb tb)) (va_A (uw_Table ad_tb cA_tb tb) sz)) 0 0 (va_A (uw_Table ad_tb cA_tb tb) sz) := by
  refine Met.ofW (cc := b_Table_nameLetter) (maxL := 5) (ret := (some .int)) (by decide) rfl ?_
  intro p e s m args below meth c s₁ B hml hv
  obtain ⟨rfl, hsz, hP, hK, hD0, hN⟩ := hv
  have hx := B.exec
  have hb := B.bytes
  have hr := B.returns
  have hts := atoms_spec (ws := w_Table_nameLetter) B.pre
  have hown : s.vm.findClass "HazardTables$Table" = some m.cls := findClass_of_methodNamed B.named
  have hlocks := B.notSynchronized
  subst hsz
  have hD := hD0.self (sz := s.heap.size)
  generalize hAe : va_A (uw_Table ad_tb cA_tb tb) s.heap.size = A at hD ⊢
  have hA : ∀ q : Nat, s.heap.size ≤ q → A q := fun q h => by rw [← hAe]; exact Or.inr h
  have hS : va_S A s.heap s.heap [] := va_S.rf
  have hP : va_P (dC, dI) vwCl (uw_Table ad_tb cA_tb tb) s.heap := hP
  have fl_21 := (hts _ (List.mem_cons_of_mem _ wd_183))
  have hin_Table : ∀ w ∈ u_ws "HazardTables$Table" F_Table 6, w ∈ w_Table_nameLetter := fun w h => List.mem_cons_of_mem _ (hinA_Table w h)
  have ret : ∀ (v : Int32) (u : Unit) (H : Heap) (locs : List Loc) (ls : Array Slot) (pc : Nat), decode b_Table_nameLetter pc = .ok (.ireturn, 1) → (v = res) → va_P (dC, dI) vwCl (uw_Table ad_tb cA_tb tb) H → va_D A (uw_Table ad_tb cA_tb tb) → va_S A s.heap H locs → W p l e (headSpec w_Table_nameLetter ({ frames := 0, cells := 0, slots := 0, locals := 0 })).room s m ([.ref (ad_tb 0), .int x1, .int x2, .int x3] : List Value).toArray below meth c H locs 0 0 (MQ below (va_Qi (fun (r : Int32) (u : Unit) => r = res) (fun (u : Unit) (t : State) => va_P (dC, dI) vwCl (uw_Table ad_tb cA_tb tb) t.heap ∧ va_K (dC, dI) vwCl [(cA_tb 1, .int), (cA_tb 2, .int), (cA_tb 3, .int), (cA_tb 4, .byte)] t ∧ va_D A (uw_Table ad_tb cA_tb tb)) A) ([.ref (ad_tb 0), .int x1, .int x2, .int x3] : List Value).toArray s 0 0 A) (F0 m pc ls [.int v]) := fun v u H locs ls pc hd hp hP hD hS => W.iret (v := v) hx hb hr (fun t ht hW => ⟨⟨v, u, rfl, hp, by rw [ht]; exact hP, va_K.moved hW.alike hK, hD⟩, hS.F ht⟩) hS.2.2 hd
  generalize (MQ below (va_Qi (fun (r : Int32) (u : Unit) => r = res) (fun (u : Unit) (t : State) => va_P (dC, dI) vwCl (uw_Table ad_tb cA_tb tb) t.heap ∧ va_K (dC, dI) vwCl [(cA_tb 1, .int), (cA_tb 2, .int), (cA_tb 3, .int), (cA_tb 4, .byte)] t ∧ va_D A (uw_Table ad_tb cA_tb tb)) A) ([.ref (ad_tb 0), .int x1, .int x2, .int x3] : List Value).toArray s 0 0 A) = Q at ret ⊢
  have hl := lv_entry ([.ref (ad_tb 0), .int x1, .int x2, .int x3]) (n := 5) (Nat.le_of_ble_eq_true rfl)
  rw [lg_entry_eq]
  generalize (lg_sl ([.ref (ad_tb 0), .int x1, .int x2, .int x3]) ++ List.replicate (5 - (lg_sl ([.ref (ad_tb 0), .int x1, .int x2, .int x3])).length) Slot.unset).toArray = ls at hl ⊢
  have hl : lv_has ls 5 [(0, .ref (ad_tb 0)), (1, .int x1), (2, .int x2), (3, .int x3)] := hl
  have hf := hf
  rw [f_Table_nameLetter] at hf
  obtain ⟨H, hH⟩ : ∃ H : Heap, H = s.heap := ⟨_, rfl⟩
  obtain ⟨locs, hlocs⟩ : ∃ L : List Loc, L = [] := ⟨_, rfl⟩
  have hP : va_P (dC, dI) vwCl (uw_Table ad_tb cA_tb tb) H := by rw [hH]; exact hP
  have hS : va_S A s.heap H locs := by rw [hH, hlocs]; exact hS
  show W p l e (headSpec w_Table_nameLetter ({ frames := 0, cells := 0, slots := 0, locals := 0 })).room s m ([.ref (ad_tb 0), .int x1, .int x2, .int x3] : List Value).toArray below meth c s.heap [] 0 0 Q (F0 m 0 ls [])
  suffices hgo : W p l e (headSpec w_Table_nameLetter ({ frames := 0, cells := 0, slots := 0, locals := 0 })).room s m ([.ref (ad_tb 0), .int x1, .int x2, .int x3] : List Value).toArray below meth c H locs 0 0 Q (F0 m 0 ls []) by rw [hH, hlocs] at hgo; exact hgo
  clear hH hlocs
  refine lv_iload_n hx hb d_Table_nameLetter_0 rfl (lv_at hl 1 rfl) ?_
  refine lv_iconst (v := (3 : Int32)) hx hb d_Table_nameLetter_1 (by decide) ?_
  refine lv_imul hx hb d_Table_nameLetter_2 ?_
  refine lv_iload_n hx hb d_Table_nameLetter_3 rfl (lv_at hl 2 rfl) ?_
  refine lv_iadd hx hb d_Table_nameLetter_4 ?_
  refine lv_bipush (v := (10 : Int32)) hx hb d_Table_nameLetter_5 (by decide) ?_
  refine lv_imul hx hb d_Table_nameLetter_7 ?_
  refine lv_iload_n hx hb d_Table_nameLetter_8 rfl (lv_at hl 3 rfl) ?_
  refine lv_iadd hx hb d_Table_nameLetter_9 ?_
  refine lv_istore (lv' := [(4, .int ((((x1 * (3 : Int32)) + x2) * (10 : Int32)) + x3)), (0, .ref (ad_tb 0)), (1, .int x1), (2, .int x2), (3, .int x3)]) hx hb d_Table_nameLetter_10 hl (by decide) rfl (fun ls hl => ?_)
  refine lv_iload hx hb d_Table_nameLetter_12 (lv_at hl 0 rfl) ?_
  refine lv_if_lt (tgt := 37) hx hb d_Table_nameLetter_14 (by decide) (fun hc1 => ?_) (fun hc1 => ?_)
  · have hf := hf_t hf hc1
    refine lv_iconst (v := (0 : Int32)) hx hb d_Table_nameLetter_37 (by decide) ?_
    exact ret (0 : Int32) () H locs ls 38 d_Table_nameLetter_38 (Option.some.inj hf) hP hD hS
  · have hf := hf_f hf hc1
    refine lv_iload hx hb d_Table_nameLetter_17 (lv_at hl 0 rfl) ?_
    refine lv_aload_n hx hb d_Table_nameLetter_19 rfl (lv_at hl 1 rfl) ?_
    refine va_get (D := (dC, dI)) (ci := 4) (v := .ref (ad_tb 4)) (C := "HazardTables$Table") (T := F_Table) (N := 6) hx hb hts hin_Table hown hK hP 0 rfl rfl 3 (by decide) fl_21 (fun _ h9 => h9) rfl d_Table_nameLetter_20 ?_
    refine va_alen (v := 390) hx hb hK hP 4 3 rfl (ty := .byte) rfl rfl d_Table_nameLetter_23 ?_
    refine lv_icmp_ge (tgt := 37) hx hb d_Table_nameLetter_24 (by decide) (fun hc2 => ?_) (fun hc2 => ?_)
    · have hf := hf_t hf hc2
      refine lv_iconst (v := (0 : Int32)) hx hb d_Table_nameLetter_37 (by decide) ?_
      exact ret (0 : Int32) () H locs ls 38 d_Table_nameLetter_38 (Option.some.inj hf) hP hD hS
    · have hf := hf_f hf hc2
      refine lv_aload_n hx hb d_Table_nameLetter_27 rfl (lv_at hl 1 rfl) ?_
      refine va_get (D := (dC, dI)) (ci := 4) (v := .ref (ad_tb 4)) (C := "HazardTables$Table") (T := F_Table) (N := 6) hx hb hts hin_Table hown hK hP 0 rfl rfl 3 (by decide) fl_21 (fun _ h9 => h9) rfl d_Table_nameLetter_28 ?_
      refine lv_iload hx hb d_Table_nameLetter_31 (lv_at hl 0 rfl) ?_
      obtain ⟨hi3, hf⟩ := hf_g hf
      refine va_bald hx hb hK hP 4 3 rfl rfl hi3 d_Table_nameLetter_33 ?_
      refine lv_goto (tgt := 38) hx hb d_Table_nameLetter_34 (by decide) ?_
      exact ret (tb.2.2.2.1 ((((x1 * (3 : Int32)) + x2) * (10 : Int32)) + x3).toNatClampNeg) () H locs ls 38 d_Table_nameLetter_38 (Option.some.inj hf) hP hD hS
noncomputable def f_Table_setNameLetter (tb : STable) (x1 : Int32) (x2 : Int32) (x3 : Int32) (x4 : Int32) : Option (STable) :=
  (if ((((x1 * (3 : Int32)) + x2) * (10 : Int32)) + x3) < 0 then
    (some tb)
   else
    (if (390 : Int32) ≤ ((((x1 * (3 : Int32)) + x2) * (10 : Int32)) + x3) then
      (some tb)
     else
      (if inb ((((x1 * (3 : Int32)) + x2) * (10 : Int32)) + x3) 390 then
        (some (tb.1, tb.2.1, tb.2.2.1, upd tb.2.2.2.1 ((((x1 * (3 : Int32)) + x2) * (10 : Int32)) + x3).toNatClampNeg (vp_nar .byte x4.toInt8.toInt32), tb.2.2.2.2.1, tb.2.2.2.2.2))
       else none)
     )
   )
set_option maxHeartbeats 4000000 in
set_option maxRecDepth 100000 in
theorem k_Table_setNameLetter (l : Launch) (dC : Nat → ClassId) (dI : Nat → Nat → Nat) (ad_tb : Nat → Nat) (cA_tb : Nat → ClassId) (sz : Nat) (tb : STable) (x1 : Int32) (x2 : Int32) (x3 : Int32) (x4 : Int32) (res : STable) (hf : f_Table_setNameLetter tb x1 x2 x3 x4 = some res) : Met l y_Table_setNameLetter w_Table_setNameLetter ({ frames := 0, cells := 0, slots := 0, locals := 0 }) (cPc (dC, dI) (uw_Table ad_tb cA_tb tb) [(cA_tb 1, .int), (cA_tb 2, .int), (cA_tb 3, .int), (cA_tb 4, .byte)] sz [.ref (ad_tb 0), .int x1, .int x2, .int x3, .int x4]) (va_Qv (fun (u : STable) => u = res) (fun (u : STable) (t : State) => va_P (dC, dI) vwCl (uw_Table ad_tb cA_tb u) t.heap ∧ va_K (dC, dI) vwCl [(cA_tb 1, .int), (cA_tb 2, .int), (cA_tb 3, .int), (cA_tb 4, .byte)] t ∧ va_D (va_A (uw_Table ad_tb cA_tb tb) sz) (uw_Table ad_tb cA_tb u)) (va_A (uw_Table ad_tb cA_tb tb) sz)) 0 0 (va_A (uw_Table ad_tb cA_tb tb) sz) := by
  refine Met.ofW (cc := b_Table_setNameLetter) (maxL := 6) (ret := none) (by decide) rfl ?_
  intro p e s m args below meth c s₁ B hml hv
  obtain ⟨rfl, hsz, hP, hK, hD0, hN⟩ := hv
  have hx := B.exec
  have hb := B.bytes
  have hr := B.returns
  have hts := atoms_spec (ws := w_Table_setNameLetter) B.pre
  have hown : s.vm.findClass "HazardTables$Table" = some m.cls := findClass_of_methodNamed B.named
  have hlocks := B.notSynchronized
  subst hsz
  have hD := hD0.self (sz := s.heap.size)
  generalize hAe : va_A (uw_Table ad_tb cA_tb tb) s.heap.size = A at hD ⊢
  have hA : ∀ q : Nat, s.heap.size ≤ q → A q := fun q h => by rw [← hAe]; exact Or.inr h
  have hS : va_S A s.heap s.heap [] := va_S.rf
  have hP : va_P (dC, dI) vwCl (uw_Table ad_tb cA_tb tb) s.heap := hP
  have fl_21 := (hts _ (List.mem_cons_of_mem _ wd_183))
  have hin_Table : ∀ w ∈ u_ws "HazardTables$Table" F_Table 6, w ∈ w_Table_setNameLetter := fun w h => List.mem_cons_of_mem _ (hinA_Table w h)
  have ret : ∀ (u : STable) (H : Heap) (locs : List Loc) (ls : Array Slot) (pc : Nat), decode b_Table_setNameLetter pc = .ok (.return_, 1) → u = res → va_P (dC, dI) vwCl (uw_Table ad_tb cA_tb u) H → va_D A (uw_Table ad_tb cA_tb u) → va_S A s.heap H locs → W p l e (headSpec w_Table_setNameLetter ({ frames := 0, cells := 0, slots := 0, locals := 0 })).room s m ([.ref (ad_tb 0), .int x1, .int x2, .int x3, .int x4] : List Value).toArray below meth c H locs 0 0 (MQ below (va_Qv (fun (u : STable) => u = res) (fun (u : STable) (t : State) => va_P (dC, dI) vwCl (uw_Table ad_tb cA_tb u) t.heap ∧ va_K (dC, dI) vwCl [(cA_tb 1, .int), (cA_tb 2, .int), (cA_tb 3, .int), (cA_tb 4, .byte)] t ∧ va_D A (uw_Table ad_tb cA_tb u)) A) ([.ref (ad_tb 0), .int x1, .int x2, .int x3, .int x4] : List Value).toArray s 0 0 A) (F0 m pc ls []) := fun u H locs ls pc hd hp hP hD hS => W.vret hx hb hr (fun t ht hW => ⟨⟨u, rfl, hp, by rw [ht]; exact hP, va_K.moved hW.alike hK, hD⟩, hS.F ht⟩) hS.2.2 hd
  generalize (MQ below (va_Qv (fun (u : STable) => u = res) (fun (u : STable) (t : State) => va_P (dC, dI) vwCl (uw_Table ad_tb cA_tb u) t.heap ∧ va_K (dC, dI) vwCl [(cA_tb 1, .int), (cA_tb 2, .int), (cA_tb 3, .int), (cA_tb 4, .byte)] t ∧ va_D A (uw_Table ad_tb cA_tb u)) A) ([.ref (ad_tb 0), .int x1, .int x2, .int x3, .int x4] : List Value).toArray s 0 0 A) = Q at ret ⊢
  have hl := lv_entry ([.ref (ad_tb 0), .int x1, .int x2, .int x3, .int x4]) (n := 6) (Nat.le_of_ble_eq_true rfl)
  rw [lg_entry_eq]
  generalize (lg_sl ([.ref (ad_tb 0), .int x1, .int x2, .int x3, .int x4]) ++ List.replicate (6 - (lg_sl ([.ref (ad_tb 0), .int x1, .int x2, .int x3, .int x4])).length) Slot.unset).toArray = ls at hl ⊢
  have hl : lv_has ls 6 [(0, .ref (ad_tb 0)), (1, .int x1), (2, .int x2), (3, .int x3), (4, .int x4)] := hl
  have hf := hf
  rw [f_Table_setNameLetter] at hf
  obtain ⟨H, hH⟩ : ∃ H : Heap, H = s.heap := ⟨_, rfl⟩
  obtain ⟨locs, hlocs⟩ : ∃ L : List Loc, L = [] := ⟨_, rfl⟩
  have hP : va_P (dC, dI) vwCl (uw_Table ad_tb cA_tb tb) H := by rw [hH]; exact hP
  have hS : va_S A s.heap H locs := by rw [hH, hlocs]; exact hS
  show W p l e (headSpec w_Table_setNameLetter ({ frames := 0, cells := 0, slots := 0, locals := 0 })).room s m ([.ref (ad_tb 0), .int x1, .int x2, .int x3, .int x4] : List Value).toArray below meth c s.heap [] 0 0 Q (F0 m 0 ls [])
  suffices hgo : W p l e (headSpec w_Table_setNameLetter ({ frames := 0, cells := 0, slots := 0, locals := 0 })).room s m ([.ref (ad_tb 0), .int x1, .int x2, .int x3, .int x4] : List Value).toArray below meth c H locs 0 0 Q (F0 m 0 ls []) by rw [hH, hlocs] at hgo; exact hgo
  clear hH hlocs
  refine lv_iload_n hx hb d_Table_setNameLetter_0 rfl (lv_at hl 1 rfl) ?_
  refine lv_iconst (v := (3 : Int32)) hx hb d_Table_setNameLetter_1 (by decide) ?_
  refine lv_imul hx hb d_Table_setNameLetter_2 ?_
  refine lv_iload_n hx hb d_Table_setNameLetter_3 rfl (lv_at hl 2 rfl) ?_
  refine lv_iadd hx hb d_Table_setNameLetter_4 ?_
  refine lv_bipush (v := (10 : Int32)) hx hb d_Table_setNameLetter_5 (by decide) ?_
  refine lv_imul hx hb d_Table_setNameLetter_7 ?_
  refine lv_iload_n hx hb d_Table_setNameLetter_8 rfl (lv_at hl 3 rfl) ?_
  refine lv_iadd hx hb d_Table_setNameLetter_9 ?_
  refine lv_istore (lv' := [(5, .int ((((x1 * (3 : Int32)) + x2) * (10 : Int32)) + x3)), (0, .ref (ad_tb 0)), (1, .int x1), (2, .int x2), (3, .int x3), (4, .int x4)]) hx hb d_Table_setNameLetter_10 hl (by decide) rfl (fun ls hl => ?_)
  refine lv_iload hx hb d_Table_setNameLetter_12 (lv_at hl 0 rfl) ?_
  refine lv_if_lt (tgt := 37) hx hb d_Table_setNameLetter_14 (by decide) (fun hc1 => ?_) (fun hc1 => ?_)
  · have hf := hf_t hf hc1
    exact ret  tb H locs ls 37 d_Table_setNameLetter_37 (Option.some.inj hf) hP hD hS
  · have hf := hf_f hf hc1
    refine lv_iload hx hb d_Table_setNameLetter_17 (lv_at hl 0 rfl) ?_
    refine lv_aload_n hx hb d_Table_setNameLetter_19 rfl (lv_at hl 1 rfl) ?_
    refine va_get (D := (dC, dI)) (ci := 4) (v := .ref (ad_tb 4)) (C := "HazardTables$Table") (T := F_Table) (N := 6) hx hb hts hin_Table hown hK hP 0 rfl rfl 3 (by decide) fl_21 (fun _ h9 => h9) rfl d_Table_setNameLetter_20 ?_
    refine va_alen (v := 390) hx hb hK hP 4 3 rfl (ty := .byte) rfl rfl d_Table_setNameLetter_23 ?_
    refine lv_icmp_ge (tgt := 37) hx hb d_Table_setNameLetter_24 (by decide) (fun hc2 => ?_) (fun hc2 => ?_)
    · have hf := hf_t hf hc2
      exact ret  tb H locs ls 37 d_Table_setNameLetter_37 (Option.some.inj hf) hP hD hS
    · have hf := hf_f hf hc2
      refine lv_aload_n hx hb d_Table_setNameLetter_27 rfl (lv_at hl 1 rfl) ?_
      refine va_get (D := (dC, dI)) (ci := 4) (v := .ref (ad_tb 4)) (C := "HazardTables$Table") (T := F_Table) (N := 6) hx hb hts hin_Table hown hK hP 0 rfl rfl 3 (by decide) fl_21 (fun _ h9 => h9) rfl d_Table_setNameLetter_28 ?_
      refine lv_iload hx hb d_Table_setNameLetter_31 (lv_at hl 0 rfl) ?_
      refine lv_iload hx hb d_Table_setNameLetter_33 (lv_at hl 5 rfl) ?_
      refine lv_i2b (v := x4.toInt8.toInt32) hx hb d_Table_setNameLetter_35 rfl ?_
      obtain ⟨hi3, hf⟩ := hf_g hf
      refine va_bast hx hb hK hP hD hS 4 3 rfl rfl hi3 d_Table_setNameLetter_36 (fun H locs hP hD hS => ?_)
      have hP : va_P (dC, dI) vwCl (uw_Table ad_tb cA_tb (tb.1, tb.2.1, tb.2.2.1, upd tb.2.2.2.1 ((((x1 * (3 : Int32)) + x2) * (10 : Int32)) + x3).toNatClampNeg (vp_nar .byte x4.toInt8.toInt32), tb.2.2.2.2.1, tb.2.2.2.2.2)) H := hP
      have hD : va_D A (uw_Table ad_tb cA_tb (tb.1, tb.2.1, tb.2.2.1, upd tb.2.2.2.1 ((((x1 * (3 : Int32)) + x2) * (10 : Int32)) + x3).toNatClampNeg (vp_nar .byte x4.toInt8.toInt32), tb.2.2.2.2.1, tb.2.2.2.2.2)) := hD
      exact ret  (tb.1, tb.2.1, tb.2.2.1, upd tb.2.2.2.1 ((((x1 * (3 : Int32)) + x2) * (10 : Int32)) + x3).toNatClampNeg (vp_nar .byte x4.toInt8.toInt32), tb.2.2.2.2.1, tb.2.2.2.2.2) H locs ls 37 d_Table_setNameLetter_37 (Option.some.inj hf) hP hD hS
noncomputable def f_Table_endName (tb : STable) (x1 : Int32) (x2 : Int32) (x3 : Int32) : Option (STable) :=
  (if ((x1 * (3 : Int32)) + x2) < 0 then
    (Option.bind (f_Table_setCell tb x1 (8 : Int32) (x2 + (1 : Int32))) fun u2 =>
      (some u2)
     )
   else
    (if (39 : Int32) ≤ ((x1 * (3 : Int32)) + x2) then
      (Option.bind (f_Table_setCell tb x1 (8 : Int32) (x2 + (1 : Int32))) fun u4 =>
        (some u4)
       )
     else
      (if inb ((x1 * (3 : Int32)) + x2) 39 then
        (Option.bind (f_Table_setCell (tb.1, tb.2.1, upd tb.2.2.1 ((x1 * (3 : Int32)) + x2).toNatClampNeg x3, tb.2.2.2.1, tb.2.2.2.2.1, tb.2.2.2.2.2) x1 (8 : Int32) (x2 + (1 : Int32))) fun u6 =>
          (some u6)
         )
       else none)
     )
   )
set_option maxHeartbeats 4000000 in
set_option maxRecDepth 100000 in
theorem k_Table_endName (l : Launch) (dC : Nat → ClassId) (dI : Nat → Nat → Nat) (ad_tb : Nat → Nat) (cA_tb : Nat → ClassId) (sz : Nat) (tb : STable) (x1 : Int32) (x2 : Int32) (x3 : Int32) (res : STable) (hf : f_Table_endName tb x1 x2 x3 = some res) : Met l y_Table_endName w_Table_endName ({ frames := 1, cells := 0, slots := 0, locals := 24 }) (cPc (dC, dI) (uw_Table ad_tb cA_tb tb) [(cA_tb 1, .int), (cA_tb 2, .int), (cA_tb 3, .int), (cA_tb 4, .byte)] sz [.ref (ad_tb 0), .int x1, .int x2, .int x3]) (va_Qv (fun (u : STable) => u = res) (fun (u : STable) (t : State) => va_P (dC, dI) vwCl (uw_Table ad_tb cA_tb u) t.heap ∧ va_K (dC, dI) vwCl [(cA_tb 1, .int), (cA_tb 2, .int), (cA_tb 3, .int), (cA_tb 4, .byte)] t ∧ va_D (va_A (uw_Table ad_tb cA_tb tb) sz) (uw_Table ad_tb cA_tb u)) (va_A (uw_Table ad_tb cA_tb tb) sz)) 0 0 (va_A (uw_Table ad_tb cA_tb tb) sz) := by
  refine Met.ofW (cc := b_Table_endName) (maxL := 5) (ret := none) (by decide) rfl ?_
  intro p e s m args below meth c s₁ B hml hv
  obtain ⟨rfl, hsz, hP, hK, hD0, hN⟩ := hv
  have hx := B.exec
  have hb := B.bytes
  have hr := B.returns
  have hts := atoms_spec (ws := w_Table_endName) B.pre
  have hown : s.vm.findClass "HazardTables$Table" = some m.cls := findClass_of_methodNamed B.named
  have hlocks := B.notSynchronized
  subst hsz
  have hD := hD0.self (sz := s.heap.size)
  generalize hAe : va_A (uw_Table ad_tb cA_tb tb) s.heap.size = A at hD ⊢
  have hA : ∀ q : Nat, s.heap.size ≤ q → A q := fun q h => by rw [← hAe]; exact Or.inr h
  have hS : va_S A s.heap s.heap [] := va_S.rf
  have hP : va_P (dC, dI) vwCl (uw_Table ad_tb cA_tb tb) s.heap := hP
  have fl_18 := (hts _ (List.mem_cons_of_mem _ wd_182))
  have hin_Table : ∀ w ∈ u_ws "HazardTables$Table" F_Table 6, w ∈ w_Table_endName := fun w h => List.mem_cons_of_mem _ (hinA_Table w h)
  have ret : ∀ (u : STable) (H : Heap) (locs : List Loc) (ls : Array Slot) (pc : Nat), decode b_Table_endName pc = .ok (.return_, 1) → u = res → va_P (dC, dI) vwCl (uw_Table ad_tb cA_tb u) H → va_D A (uw_Table ad_tb cA_tb u) → va_S A s.heap H locs → W p l e (headSpec w_Table_endName ({ frames := 1, cells := 0, slots := 0, locals := 24 })).room s m ([.ref (ad_tb 0), .int x1, .int x2, .int x3] : List Value).toArray below meth c H locs 0 0 (MQ below (va_Qv (fun (u : STable) => u = res) (fun (u : STable) (t : State) => va_P (dC, dI) vwCl (uw_Table ad_tb cA_tb u) t.heap ∧ va_K (dC, dI) vwCl [(cA_tb 1, .int), (cA_tb 2, .int), (cA_tb 3, .int), (cA_tb 4, .byte)] t ∧ va_D A (uw_Table ad_tb cA_tb u)) A) ([.ref (ad_tb 0), .int x1, .int x2, .int x3] : List Value).toArray s 0 0 A) (F0 m pc ls []) := fun u H locs ls pc hd hp hP hD hS => W.vret hx hb hr (fun t ht hW => ⟨⟨u, rfl, hp, by rw [ht]; exact hP, va_K.moved hW.alike hK, hD⟩, hS.F ht⟩) hS.2.2 hd
  generalize (MQ below (va_Qv (fun (u : STable) => u = res) (fun (u : STable) (t : State) => va_P (dC, dI) vwCl (uw_Table ad_tb cA_tb u) t.heap ∧ va_K (dC, dI) vwCl [(cA_tb 1, .int), (cA_tb 2, .int), (cA_tb 3, .int), (cA_tb 4, .byte)] t ∧ va_D A (uw_Table ad_tb cA_tb u)) A) ([.ref (ad_tb 0), .int x1, .int x2, .int x3] : List Value).toArray s 0 0 A) = Q at ret ⊢
  have hl := lv_entry ([.ref (ad_tb 0), .int x1, .int x2, .int x3]) (n := 5) (Nat.le_of_ble_eq_true rfl)
  rw [lg_entry_eq]
  generalize (lg_sl ([.ref (ad_tb 0), .int x1, .int x2, .int x3]) ++ List.replicate (5 - (lg_sl ([.ref (ad_tb 0), .int x1, .int x2, .int x3])).length) Slot.unset).toArray = ls at hl ⊢
  have hl : lv_has ls 5 [(0, .ref (ad_tb 0)), (1, .int x1), (2, .int x2), (3, .int x3)] := hl
  have hf := hf
  rw [f_Table_endName] at hf
  obtain ⟨H, hH⟩ : ∃ H : Heap, H = s.heap := ⟨_, rfl⟩
  obtain ⟨locs, hlocs⟩ : ∃ L : List Loc, L = [] := ⟨_, rfl⟩
  have hP : va_P (dC, dI) vwCl (uw_Table ad_tb cA_tb tb) H := by rw [hH]; exact hP
  have hS : va_S A s.heap H locs := by rw [hH, hlocs]; exact hS
  show W p l e (headSpec w_Table_endName ({ frames := 1, cells := 0, slots := 0, locals := 24 })).room s m ([.ref (ad_tb 0), .int x1, .int x2, .int x3] : List Value).toArray below meth c s.heap [] 0 0 Q (F0 m 0 ls [])
  suffices hgo : W p l e (headSpec w_Table_endName ({ frames := 1, cells := 0, slots := 0, locals := 24 })).room s m ([.ref (ad_tb 0), .int x1, .int x2, .int x3] : List Value).toArray below meth c H locs 0 0 Q (F0 m 0 ls []) by rw [hH, hlocs] at hgo; exact hgo
  clear hH hlocs
  refine lv_iload_n hx hb d_Table_endName_0 rfl (lv_at hl 1 rfl) ?_
  refine lv_iconst (v := (3 : Int32)) hx hb d_Table_endName_1 (by decide) ?_
  refine lv_imul hx hb d_Table_endName_2 ?_
  refine lv_iload_n hx hb d_Table_endName_3 rfl (lv_at hl 2 rfl) ?_
  refine lv_iadd hx hb d_Table_endName_4 ?_
  refine lv_istore (lv' := [(4, .int ((x1 * (3 : Int32)) + x2)), (0, .ref (ad_tb 0)), (1, .int x1), (2, .int x2), (3, .int x3)]) hx hb d_Table_endName_5 hl (by decide) rfl (fun ls hl => ?_)
  refine lv_iload hx hb d_Table_endName_7 (lv_at hl 0 rfl) ?_
  refine lv_if_lt (tgt := 30) hx hb d_Table_endName_9 (by decide) (fun hc1 => ?_) (fun hc1 => ?_)
  · have hf := hf_t hf hc1
    refine lv_aload_n hx hb d_Table_endName_30 rfl (lv_at hl 1 rfl) ?_
    refine lv_iload_n hx hb d_Table_endName_31 rfl (lv_at hl 2 rfl) ?_
    refine lv_bipush (v := (8 : Int32)) hx hb d_Table_endName_32 (by decide) ?_
    refine lv_iload_n hx hb d_Table_endName_34 rfl (lv_at hl 3 rfl) ?_
    refine lv_iconst (v := (1 : Int32)) hx hb d_Table_endName_35 (by decide) ?_
    refine lv_iadd hx hb d_Table_endName_36 ?_
    obtain ⟨u2, hu2, hf⟩ := Option.bind_eq_some_iff.mp hf
    refine cl_v (wc := (uw_Table ad_tb cA_tb tb)) (wr := []) (tysC := [(cA_tb 1, .int), (cA_tb 2, .int), (cA_tb 3, .int), (cA_tb 4, .byte)]) (wu := fun (u : STable) => (uw_Table ad_tb cA_tb u)) (wn := fun (u : STable) => (uw_Table ad_tb cA_tb u)) [0, 1, 2, 3, 4] [] [0, 1, 2, 3, 4] [0, 1, 2, 3] hP hD hS hA hK rfl rfl (by decide +kernel) (by decide +kernel) (by decide +kernel) rfl (fun _ => rfl) (by decide +kernel) (fun hPc hKc hDc => (va_runV (As := [.int x1, .int (8 : Int32), .int (x2 + (1 : Int32))]) (rest := []) ⟨hx, hb, hml, hown, hts⟩ (k_Table_setCell l dC dI ad_tb cA_tb H.size tb x1 (8 : Int32) (x2 + (1 : Int32)) u2 hu2) (cwV 3 hts (gV wd_421 wd_422 wd_423 wd_48 wd_424) rfl rfl rfl (by decide +kernel) ⟨Nat.le_of_ble_eq_true rfl, Nat.le_of_ble_eq_true rfl⟩) (cl_preV hPc hKc hDc hN (ci := 4) 0 rfl rfl) rfl rfl hl.1 rfl (lv_room (Nat.le_of_ble_eq_true rfl)) d_Table_endName_37 ⟨Nat.le_of_ble_eq_true rfl, Nat.le_of_ble_eq_true rfl⟩)) (fun u H locs hw hP hD hS => ?_)
    have hw := hw.symm
    subst hw
    have hP : va_P (dC, dI) vwCl (uw_Table ad_tb cA_tb u2) H := hP
    have hD : va_D A (uw_Table ad_tb cA_tb u2) := hD
    exact ret  u2 H locs ls 40 d_Table_endName_40 (Option.some.inj hf) hP hD hS
  · have hf := hf_f hf hc1
    refine lv_iload hx hb d_Table_endName_12 (lv_at hl 0 rfl) ?_
    refine lv_aload_n hx hb d_Table_endName_14 rfl (lv_at hl 1 rfl) ?_
    refine va_get (D := (dC, dI)) (ci := 4) (v := .ref (ad_tb 3)) (C := "HazardTables$Table") (T := F_Table) (N := 6) hx hb hts hin_Table hown hK hP 0 rfl rfl 2 (by decide) fl_18 (fun _ h9 => h9) rfl d_Table_endName_15 ?_
    refine va_alen (v := 39) hx hb hK hP 3 2 rfl (ty := .int) rfl rfl d_Table_endName_18 ?_
    refine lv_icmp_ge (tgt := 30) hx hb d_Table_endName_19 (by decide) (fun hc3 => ?_) (fun hc3 => ?_)
    · have hf := hf_t hf hc3
      refine lv_aload_n hx hb d_Table_endName_30 rfl (lv_at hl 1 rfl) ?_
      refine lv_iload_n hx hb d_Table_endName_31 rfl (lv_at hl 2 rfl) ?_
      refine lv_bipush (v := (8 : Int32)) hx hb d_Table_endName_32 (by decide) ?_
      refine lv_iload_n hx hb d_Table_endName_34 rfl (lv_at hl 3 rfl) ?_
      refine lv_iconst (v := (1 : Int32)) hx hb d_Table_endName_35 (by decide) ?_
      refine lv_iadd hx hb d_Table_endName_36 ?_
      obtain ⟨u4, hu4, hf⟩ := Option.bind_eq_some_iff.mp hf
      refine cl_v (wc := (uw_Table ad_tb cA_tb tb)) (wr := []) (tysC := [(cA_tb 1, .int), (cA_tb 2, .int), (cA_tb 3, .int), (cA_tb 4, .byte)]) (wu := fun (u : STable) => (uw_Table ad_tb cA_tb u)) (wn := fun (u : STable) => (uw_Table ad_tb cA_tb u)) [0, 1, 2, 3, 4] [] [0, 1, 2, 3, 4] [0, 1, 2, 3] hP hD hS hA hK rfl rfl (by decide +kernel) (by decide +kernel) (by decide +kernel) rfl (fun _ => rfl) (by decide +kernel) (fun hPc hKc hDc => (va_runV (As := [.int x1, .int (8 : Int32), .int (x2 + (1 : Int32))]) (rest := []) ⟨hx, hb, hml, hown, hts⟩ (k_Table_setCell l dC dI ad_tb cA_tb H.size tb x1 (8 : Int32) (x2 + (1 : Int32)) u4 hu4) (cwV 3 hts (gV wd_421 wd_422 wd_423 wd_48 wd_424) rfl rfl rfl (by decide +kernel) ⟨Nat.le_of_ble_eq_true rfl, Nat.le_of_ble_eq_true rfl⟩) (cl_preV hPc hKc hDc hN (ci := 4) 0 rfl rfl) rfl rfl hl.1 rfl (lv_room (Nat.le_of_ble_eq_true rfl)) d_Table_endName_37 ⟨Nat.le_of_ble_eq_true rfl, Nat.le_of_ble_eq_true rfl⟩)) (fun u H locs hw hP hD hS => ?_)
      have hw := hw.symm
      subst hw
      have hP : va_P (dC, dI) vwCl (uw_Table ad_tb cA_tb u4) H := hP
      have hD : va_D A (uw_Table ad_tb cA_tb u4) := hD
      exact ret  u4 H locs ls 40 d_Table_endName_40 (Option.some.inj hf) hP hD hS
    · have hf := hf_f hf hc3
      refine lv_aload_n hx hb d_Table_endName_22 rfl (lv_at hl 1 rfl) ?_
      refine va_get (D := (dC, dI)) (ci := 4) (v := .ref (ad_tb 3)) (C := "HazardTables$Table") (T := F_Table) (N := 6) hx hb hts hin_Table hown hK hP 0 rfl rfl 2 (by decide) fl_18 (fun _ h9 => h9) rfl d_Table_endName_23 ?_
      refine lv_iload hx hb d_Table_endName_26 (lv_at hl 0 rfl) ?_
      refine lv_iload_n hx hb d_Table_endName_28 rfl (lv_at hl 4 rfl) ?_
      obtain ⟨hi5, hf⟩ := hf_g hf
      refine va_iast hx hb hK hP hD hS 3 2 rfl rfl hi5 d_Table_endName_29 (fun H locs hP hD hS => ?_)
      have hP : va_P (dC, dI) vwCl (uw_Table ad_tb cA_tb (tb.1, tb.2.1, upd tb.2.2.1 ((x1 * (3 : Int32)) + x2).toNatClampNeg x3, tb.2.2.2.1, tb.2.2.2.2.1, tb.2.2.2.2.2)) H := hP
      have hD : va_D A (uw_Table ad_tb cA_tb (tb.1, tb.2.1, upd tb.2.2.1 ((x1 * (3 : Int32)) + x2).toNatClampNeg x3, tb.2.2.2.1, tb.2.2.2.2.1, tb.2.2.2.2.2)) := hD
      refine lv_aload_n hx hb d_Table_endName_30 rfl (lv_at hl 1 rfl) ?_
      refine lv_iload_n hx hb d_Table_endName_31 rfl (lv_at hl 2 rfl) ?_
      refine lv_bipush (v := (8 : Int32)) hx hb d_Table_endName_32 (by decide) ?_
      refine lv_iload_n hx hb d_Table_endName_34 rfl (lv_at hl 3 rfl) ?_
      refine lv_iconst (v := (1 : Int32)) hx hb d_Table_endName_35 (by decide) ?_
      refine lv_iadd hx hb d_Table_endName_36 ?_
      obtain ⟨u6, hu6, hf⟩ := Option.bind_eq_some_iff.mp hf
      refine cl_v (wc := (uw_Table ad_tb cA_tb (tb.1, tb.2.1, upd tb.2.2.1 ((x1 * (3 : Int32)) + x2).toNatClampNeg x3, tb.2.2.2.1, tb.2.2.2.2.1, tb.2.2.2.2.2))) (wr := []) (tysC := [(cA_tb 1, .int), (cA_tb 2, .int), (cA_tb 3, .int), (cA_tb 4, .byte)]) (wu := fun (u : STable) => (uw_Table ad_tb cA_tb u)) (wn := fun (u : STable) => (uw_Table ad_tb cA_tb u)) [0, 1, 2, 3, 4] [] [0, 1, 2, 3, 4] [0, 1, 2, 3] hP hD hS hA hK rfl rfl (by decide +kernel) (by decide +kernel) (by decide +kernel) rfl (fun _ => rfl) (by decide +kernel) (fun hPc hKc hDc => (va_runV (As := [.int x1, .int (8 : Int32), .int (x2 + (1 : Int32))]) (rest := []) ⟨hx, hb, hml, hown, hts⟩ (k_Table_setCell l dC dI ad_tb cA_tb H.size (tb.1, tb.2.1, upd tb.2.2.1 ((x1 * (3 : Int32)) + x2).toNatClampNeg x3, tb.2.2.2.1, tb.2.2.2.2.1, tb.2.2.2.2.2) x1 (8 : Int32) (x2 + (1 : Int32)) u6 hu6) (cwV 3 hts (gV wd_421 wd_422 wd_423 wd_48 wd_424) rfl rfl rfl (by decide +kernel) ⟨Nat.le_of_ble_eq_true rfl, Nat.le_of_ble_eq_true rfl⟩) (cl_preV hPc hKc hDc hN (ci := 4) 0 rfl rfl) rfl rfl hl.1 rfl (lv_room (Nat.le_of_ble_eq_true rfl)) d_Table_endName_37 ⟨Nat.le_of_ble_eq_true rfl, Nat.le_of_ble_eq_true rfl⟩)) (fun u H locs hw hP hD hS => ?_)
      have hw := hw.symm
      subst hw
      have hP : va_P (dC, dI) vwCl (uw_Table ad_tb cA_tb u6) H := hP
      have hD : va_D A (uw_Table ad_tb cA_tb u6) := hD
      exact ret  u6 H locs ls 40 d_Table_endName_40 (Option.some.inj hf) hP hD hS
noncomputable def f_Table_hasInBits (x0 : Int32) (x1 : Int32) : Option (Bool) :=
  (if ((x0 >>> (x1 &&& 31)) &&& (1 : Int32)) = (1 : Int32) then
    (some (true))
   else
    (some (false))
   )
set_option maxHeartbeats 4000000 in
set_option maxRecDepth 100000 in
theorem k_Table_hasInBits (l : Launch) (dC : Nat → ClassId) (dI : Nat → Nat → Nat)  (sz : Nat) (x0 : Int32) (x1 : Int32) (res : Bool) (hf : f_Table_hasInBits x0 x1 = some res) : Met l y_Table_hasInBits w_Table_hasInBits ({ frames := 0, cells := 0, slots := 0, locals := 0 }) (cPc (dC, dI) [] [] sz [.int x0, .int x1]) (va_Qi (fun (r : Int32) (u : Unit) => r = bI res) (fun (u : Unit) (t : State) => va_P (dC, dI) vwCl [] t.heap ∧ va_K (dC, dI) vwCl [] t ∧ va_D (va_A [] sz) []) (va_A [] sz)) 0 0 (va_A [] sz) := by
  refine Met.ofW (cc := b_Table_hasInBits) (maxL := 2) (ret := (some .boolean)) (by decide) rfl ?_
  intro p e s m args below meth c s₁ B hml hv
  obtain ⟨rfl, hsz, hP, hK, hD0, hN⟩ := hv
  have hx := B.exec
  have hb := B.bytes
  have hr := B.returns
  have hts := atoms_spec (ws := w_Table_hasInBits) B.pre
  have hown : s.vm.findClass "HazardTables$Table" = some m.cls := findClass_of_methodNamed B.named
  have hlocks := B.notSynchronized
  subst hsz
  have hD := hD0.self (sz := s.heap.size)
  generalize hAe : va_A [] s.heap.size = A at hD ⊢
  have hA : ∀ q : Nat, s.heap.size ≤ q → A q := fun q h => by rw [← hAe]; exact Or.inr h
  have hS : va_S A s.heap s.heap [] := va_S.rf
  have hP : va_P (dC, dI) vwCl [] s.heap := hP
  have ret : ∀ (v : Bool) (u : Unit) (H : Heap) (locs : List Loc) (ls : Array Slot) (pc : Nat), decode b_Table_hasInBits pc = .ok (.ireturn, 1) → (v = res) → va_P (dC, dI) vwCl [] H → va_D A [] → va_S A s.heap H locs → W p l e (headSpec w_Table_hasInBits ({ frames := 0, cells := 0, slots := 0, locals := 0 })).room s m ([.int x0, .int x1] : List Value).toArray below meth c H locs 0 0 (MQ below (va_Qi (fun (r : Int32) (u : Unit) => r = bI res) (fun (u : Unit) (t : State) => va_P (dC, dI) vwCl [] t.heap ∧ va_K (dC, dI) vwCl [] t ∧ va_D A []) A) ([.int x0, .int x1] : List Value).toArray s 0 0 A) (F0 m pc ls [.int (bI v)]) := fun v u H locs ls pc hd hp hP hD hS => W.zret (v := bI v) (ty := .boolean) hx hb hr (nar_bI v) (fun t ht hW => ⟨⟨bI v, u, rfl, (by rw [hp]), by rw [ht]; exact hP, va_K.moved hW.alike hK, hD⟩, hS.F ht⟩) hS.2.2 hd
  generalize (MQ below (va_Qi (fun (r : Int32) (u : Unit) => r = bI res) (fun (u : Unit) (t : State) => va_P (dC, dI) vwCl [] t.heap ∧ va_K (dC, dI) vwCl [] t ∧ va_D A []) A) ([.int x0, .int x1] : List Value).toArray s 0 0 A) = Q at ret ⊢
  have hl := lv_entry ([.int x0, .int x1]) (n := 2) (Nat.le_of_ble_eq_true rfl)
  rw [lg_entry_eq]
  generalize (lg_sl ([.int x0, .int x1]) ++ List.replicate (2 - (lg_sl ([.int x0, .int x1])).length) Slot.unset).toArray = ls at hl ⊢
  have hl : lv_has ls 2 [(0, .int x0), (1, .int x1)] := hl
  have hf := hf
  rw [f_Table_hasInBits] at hf
  obtain ⟨H, hH⟩ : ∃ H : Heap, H = s.heap := ⟨_, rfl⟩
  obtain ⟨locs, hlocs⟩ : ∃ L : List Loc, L = [] := ⟨_, rfl⟩
  have hP : va_P (dC, dI) vwCl [] H := by rw [hH]; exact hP
  have hS : va_S A s.heap H locs := by rw [hH, hlocs]; exact hS
  show W p l e (headSpec w_Table_hasInBits ({ frames := 0, cells := 0, slots := 0, locals := 0 })).room s m ([.int x0, .int x1] : List Value).toArray below meth c s.heap [] 0 0 Q (F0 m 0 ls [])
  suffices hgo : W p l e (headSpec w_Table_hasInBits ({ frames := 0, cells := 0, slots := 0, locals := 0 })).room s m ([.int x0, .int x1] : List Value).toArray below meth c H locs 0 0 Q (F0 m 0 ls []) by rw [hH, hlocs] at hgo; exact hgo
  clear hH hlocs
  refine lv_iload_n hx hb d_Table_hasInBits_0 rfl (lv_at hl 0 rfl) ?_
  refine lv_iload_n hx hb d_Table_hasInBits_1 rfl (lv_at hl 1 rfl) ?_
  refine lv_ishr hx hb d_Table_hasInBits_2 ?_
  refine lv_iconst (v := (1 : Int32)) hx hb d_Table_hasInBits_3 (by decide) ?_
  refine lv_iand hx hb d_Table_hasInBits_4 ?_
  refine lv_iconst (v := (1 : Int32)) hx hb d_Table_hasInBits_5 (by decide) ?_
  refine lv_icmp_ne (tgt := 13) hx hb d_Table_hasInBits_6 (by decide) (fun hc1 => ?_) (fun hc1 => ?_)
  · have hf := hf_f hf hc1
    refine lv_iconst (v := (0 : Int32)) hx hb d_Table_hasInBits_13 (by decide) ?_
    exact ret false () H locs ls 14 d_Table_hasInBits_14 (Option.some.inj hf) hP hD hS
  · have hf := hf_t hf hc1
    refine lv_iconst (v := (1 : Int32)) hx hb d_Table_hasInBits_9 (by decide) ?_
    refine lv_goto (tgt := 14) hx hb d_Table_hasInBits_10 (by decide) ?_
    exact ret true () H locs ls 14 d_Table_hasInBits_14 (Option.some.inj hf) hP hD hS
noncomputable def f_Table_contradict (tb : STable) (x1 : Int32) (x2 : Int32) : Option (Bool) :=
  (Option.bind (f_Table_cell tb x1 (7 : Int32)) fun u1 =>
    (Option.bind (f_Table_cell tb x2 (0 : Int32)) fun u2 =>
      (Option.bind (f_Table_hasInBits u1 u2) fun u3 =>
        (if (bI u3) = 0 then
          (Option.bind (f_Table_cell tb x2 (7 : Int32)) fun u5 =>
            (Option.bind (f_Table_cell tb x1 (0 : Int32)) fun u6 =>
              (Option.bind (f_Table_hasInBits u5 u6) fun u7 =>
                (if (bI u7) = 0 then
                  (some (false))
                 else
                  (some (true))
                 )
               )
             )
           )
         else
          (some (true))
         )
       )
     )
   )
set_option maxHeartbeats 4000000 in
set_option maxRecDepth 100000 in
theorem k_Table_contradict (l : Launch) (dC : Nat → ClassId) (dI : Nat → Nat → Nat) (ad_tb : Nat → Nat) (cA_tb : Nat → ClassId) (sz : Nat) (tb : STable) (x1 : Int32) (x2 : Int32) (res : Bool) (hf : f_Table_contradict tb x1 x2 = some res) : Met l y_Table_contradict w_Table_contradict ({ frames := 1, cells := 0, slots := 0, locals := 23 }) (cPc (dC, dI) (uw_Table ad_tb cA_tb tb) [(cA_tb 1, .int), (cA_tb 2, .int), (cA_tb 3, .int), (cA_tb 4, .byte)] sz [.ref (ad_tb 0), .int x1, .int x2]) (va_Qi (fun (r : Int32) (u : Unit) => r = bI res) (fun (u : Unit) (t : State) => va_P (dC, dI) vwCl (uw_Table ad_tb cA_tb tb) t.heap ∧ va_K (dC, dI) vwCl [(cA_tb 1, .int), (cA_tb 2, .int), (cA_tb 3, .int), (cA_tb 4, .byte)] t ∧ va_D (va_A (uw_Table ad_tb cA_tb tb) sz) (uw_Table ad_tb cA_tb tb)) (va_A (uw_Table ad_tb cA_tb tb) sz)) 0 0 (va_A (uw_Table ad_tb cA_tb tb) sz) := by
  refine Met.ofW (cc := b_Table_contradict) (maxL := 3) (ret := (some .boolean)) (by decide) rfl ?_
  intro p e s m args below meth c s₁ B hml hv
  obtain ⟨rfl, hsz, hP, hK, hD0, hN⟩ := hv
  have hx := B.exec
  have hb := B.bytes
  have hr := B.returns
  have hts := atoms_spec (ws := w_Table_contradict) B.pre
  have hown : s.vm.findClass "HazardTables$Table" = some m.cls := findClass_of_methodNamed B.named
  have hlocks := B.notSynchronized
  subst hsz
  have hD := hD0.self (sz := s.heap.size)
  generalize hAe : va_A (uw_Table ad_tb cA_tb tb) s.heap.size = A at hD ⊢
  have hA : ∀ q : Nat, s.heap.size ≤ q → A q := fun q h => by rw [← hAe]; exact Or.inr h
  have hS : va_S A s.heap s.heap [] := va_S.rf
  have hP : va_P (dC, dI) vwCl (uw_Table ad_tb cA_tb tb) s.heap := hP
  have ret : ∀ (v : Bool) (u : Unit) (H : Heap) (locs : List Loc) (ls : Array Slot) (pc : Nat), decode b_Table_contradict pc = .ok (.ireturn, 1) → (v = res) → va_P (dC, dI) vwCl (uw_Table ad_tb cA_tb tb) H → va_D A (uw_Table ad_tb cA_tb tb) → va_S A s.heap H locs → W p l e (headSpec w_Table_contradict ({ frames := 1, cells := 0, slots := 0, locals := 23 })).room s m ([.ref (ad_tb 0), .int x1, .int x2] : List Value).toArray below meth c H locs 0 0 (MQ below (va_Qi (fun (r : Int32) (u : Unit) => r = bI res) (fun (u : Unit) (t : State) => va_P (dC, dI) vwCl (uw_Table ad_tb cA_tb tb) t.heap ∧ va_K (dC, dI) vwCl [(cA_tb 1, .int), (cA_tb 2, .int), (cA_tb 3, .int), (cA_tb 4, .byte)] t ∧ va_D A (uw_Table ad_tb cA_tb tb)) A) ([.ref (ad_tb 0), .int x1, .int x2] : List Value).toArray s 0 0 A) (F0 m pc ls [.int (bI v)]) := fun v u H locs ls pc hd hp hP hD hS => W.zret (v := bI v) (ty := .boolean) hx hb hr (nar_bI v) (fun t ht hW => ⟨⟨bI v, u, rfl, (by rw [hp]), by rw [ht]; exact hP, va_K.moved hW.alike hK, hD⟩, hS.F ht⟩) hS.2.2 hd
  generalize (MQ below (va_Qi (fun (r : Int32) (u : Unit) => r = bI res) (fun (u : Unit) (t : State) => va_P (dC, dI) vwCl (uw_Table ad_tb cA_tb tb) t.heap ∧ va_K (dC, dI) vwCl [(cA_tb 1, .int), (cA_tb 2, .int), (cA_tb 3, .int), (cA_tb 4, .byte)] t ∧ va_D A (uw_Table ad_tb cA_tb tb)) A) ([.ref (ad_tb 0), .int x1, .int x2] : List Value).toArray s 0 0 A) = Q at ret ⊢
  have hl := lv_entry ([.ref (ad_tb 0), .int x1, .int x2]) (n := 3) (Nat.le_of_ble_eq_true rfl)
  rw [lg_entry_eq]
  generalize (lg_sl ([.ref (ad_tb 0), .int x1, .int x2]) ++ List.replicate (3 - (lg_sl ([.ref (ad_tb 0), .int x1, .int x2])).length) Slot.unset).toArray = ls at hl ⊢
  have hl : lv_has ls 3 [(0, .ref (ad_tb 0)), (1, .int x1), (2, .int x2)] := hl
  have hf := hf
  rw [f_Table_contradict] at hf
  obtain ⟨H, hH⟩ : ∃ H : Heap, H = s.heap := ⟨_, rfl⟩
  obtain ⟨locs, hlocs⟩ : ∃ L : List Loc, L = [] := ⟨_, rfl⟩
  have hP : va_P (dC, dI) vwCl (uw_Table ad_tb cA_tb tb) H := by rw [hH]; exact hP
  have hS : va_S A s.heap H locs := by rw [hH, hlocs]; exact hS
  show W p l e (headSpec w_Table_contradict ({ frames := 1, cells := 0, slots := 0, locals := 23 })).room s m ([.ref (ad_tb 0), .int x1, .int x2] : List Value).toArray below meth c s.heap [] 0 0 Q (F0 m 0 ls [])
  suffices hgo : W p l e (headSpec w_Table_contradict ({ frames := 1, cells := 0, slots := 0, locals := 23 })).room s m ([.ref (ad_tb 0), .int x1, .int x2] : List Value).toArray below meth c H locs 0 0 Q (F0 m 0 ls []) by rw [hH, hlocs] at hgo; exact hgo
  clear hH hlocs
  refine lv_aload_n hx hb d_Table_contradict_0 rfl (lv_at hl 0 rfl) ?_
  refine lv_iload_n hx hb d_Table_contradict_1 rfl (lv_at hl 1 rfl) ?_
  refine lv_bipush (v := (7 : Int32)) hx hb d_Table_contradict_2 (by decide) ?_
  obtain ⟨u1, hu1, hf⟩ := Option.bind_eq_some_iff.mp hf
  refine cl_i (wc := (uw_Table ad_tb cA_tb tb)) (wr := []) (tysC := [(cA_tb 1, .int), (cA_tb 2, .int), (cA_tb 3, .int), (cA_tb 4, .byte)]) (wu := fun (u : Unit) => (uw_Table ad_tb cA_tb tb)) (wn := fun (u : Unit) => (uw_Table ad_tb cA_tb tb)) [0, 1, 2, 3, 4] [] [0, 1, 2, 3, 4] [0, 1, 2, 3] hP hD hS hA hK rfl rfl (by decide +kernel) (by decide +kernel) (by decide +kernel) rfl (fun _ => rfl) (by decide +kernel) (fun hPc hKc hDc => (va_runV (As := [.int x1, .int (7 : Int32)]) (rest := []) ⟨hx, hb, hml, hown, hts⟩ (k_Table_cell l dC dI ad_tb cA_tb H.size tb x1 (7 : Int32) u1 hu1) (cwV 2 hts (gV wd_602 wd_497 wd_498 wd_48 wd_499) rfl rfl rfl (by decide +kernel) ⟨Nat.le_of_ble_eq_true rfl, Nat.le_of_ble_eq_true rfl⟩) (cl_preV hPc hKc hDc hN (ci := 4) 0 rfl rfl) rfl rfl hl.1 rfl (lv_room (Nat.le_of_ble_eq_true rfl)) d_Table_contradict_4 ⟨Nat.le_of_ble_eq_true rfl, Nat.le_of_ble_eq_true rfl⟩)) (fun r u H locs hw hP hD hS => ?_)
  have hw := hw.symm
  subst hw
  have hP : va_P (dC, dI) vwCl (uw_Table ad_tb cA_tb tb) H := hP
  have hD : va_D A (uw_Table ad_tb cA_tb tb) := hD
  refine lv_aload_n hx hb d_Table_contradict_7 rfl (lv_at hl 0 rfl) ?_
  refine lv_iload_n hx hb d_Table_contradict_8 rfl (lv_at hl 2 rfl) ?_
  refine lv_iconst (v := (0 : Int32)) hx hb d_Table_contradict_9 (by decide) ?_
  obtain ⟨u2, hu2, hf⟩ := Option.bind_eq_some_iff.mp hf
  refine cl_i (wc := (uw_Table ad_tb cA_tb tb)) (wr := []) (tysC := [(cA_tb 1, .int), (cA_tb 2, .int), (cA_tb 3, .int), (cA_tb 4, .byte)]) (wu := fun (u : Unit) => (uw_Table ad_tb cA_tb tb)) (wn := fun (u : Unit) => (uw_Table ad_tb cA_tb tb)) [0, 1, 2, 3, 4] [] [0, 1, 2, 3, 4] [0, 1, 2, 3] hP hD hS hA hK rfl rfl (by decide +kernel) (by decide +kernel) (by decide +kernel) rfl (fun _ => rfl) (by decide +kernel) (fun hPc hKc hDc => (va_runV (As := [.int x2, .int (0 : Int32)]) (rest := [.int u1]) ⟨hx, hb, hml, hown, hts⟩ (k_Table_cell l dC dI ad_tb cA_tb H.size tb x2 (0 : Int32) u2 hu2) (cwV 2 hts (gV wd_602 wd_497 wd_498 wd_48 wd_499) rfl rfl rfl (by decide +kernel) ⟨Nat.le_of_ble_eq_true rfl, Nat.le_of_ble_eq_true rfl⟩) (cl_preV hPc hKc hDc hN (ci := 4) 0 rfl rfl) rfl rfl hl.1 rfl (lv_room (Nat.le_of_ble_eq_true rfl)) d_Table_contradict_10 ⟨Nat.le_of_ble_eq_true rfl, Nat.le_of_ble_eq_true rfl⟩)) (fun r u H locs hw hP hD hS => ?_)
  have hw := hw.symm
  subst hw
  have hP : va_P (dC, dI) vwCl (uw_Table ad_tb cA_tb tb) H := hP
  have hD : va_D A (uw_Table ad_tb cA_tb tb) := hD
  obtain ⟨u3, hu3, hf⟩ := Option.bind_eq_some_iff.mp hf
  refine cl_i (wc := []) (wr := (uw_Table ad_tb cA_tb tb)) (tysC := []) (wu := fun (u : Unit) => []) (wn := fun (u : Unit) => (uw_Table ad_tb cA_tb tb)) [] [0, 1, 2, 3, 4] [0, 1, 2, 3, 4] [] hP hD hS hA hK rfl rfl (by decide +kernel) (by decide +kernel) (by decide +kernel) rfl (fun _ => rfl) (by decide +kernel) (fun hPc hKc hDc => (va_runS (As := [.int u1, .int u2]) (rest := []) ⟨hx, hb, hml, hown, hts⟩ (k_Table_hasInBits l dC dI  H.size u1 u2 u3 hu3) (cwS 2 hts (gS wd_603 wd_604 wd_48 wd_605) rfl rfl rfl (by decide +kernel) ⟨Nat.le_of_ble_eq_true rfl, Nat.le_of_ble_eq_true rfl⟩) (cl_preS hPc hKc hDc hN) rfl rfl hl.1 rfl (lv_room (Nat.le_of_ble_eq_true rfl)) d_Table_contradict_13 ⟨Nat.le_of_ble_eq_true rfl, Nat.le_of_ble_eq_true rfl⟩)) (fun r u H locs hw hP hD hS => ?_)
  have hw := hw.symm
  subst hw
  have hP : va_P (dC, dI) vwCl (uw_Table ad_tb cA_tb tb) H := hP
  have hD : va_D A (uw_Table ad_tb cA_tb tb) := hD
  refine lv_if_ne (tgt := 38) hx hb d_Table_contradict_16 (by decide) (fun hc4 => ?_) (fun hc4 => ?_)
  · have hf := hf_f hf hc4
    refine lv_iconst (v := (1 : Int32)) hx hb d_Table_contradict_38 (by decide) ?_
    refine lv_goto (tgt := 43) hx hb d_Table_contradict_39 (by decide) ?_
    exact ret true () H locs ls 43 d_Table_contradict_43 (Option.some.inj hf) hP hD hS
  · have hf := hf_t hf hc4
    refine lv_aload_n hx hb d_Table_contradict_19 rfl (lv_at hl 0 rfl) ?_
    refine lv_iload_n hx hb d_Table_contradict_20 rfl (lv_at hl 2 rfl) ?_
    refine lv_bipush (v := (7 : Int32)) hx hb d_Table_contradict_21 (by decide) ?_
    obtain ⟨u5, hu5, hf⟩ := Option.bind_eq_some_iff.mp hf
    refine cl_i (wc := (uw_Table ad_tb cA_tb tb)) (wr := []) (tysC := [(cA_tb 1, .int), (cA_tb 2, .int), (cA_tb 3, .int), (cA_tb 4, .byte)]) (wu := fun (u : Unit) => (uw_Table ad_tb cA_tb tb)) (wn := fun (u : Unit) => (uw_Table ad_tb cA_tb tb)) [0, 1, 2, 3, 4] [] [0, 1, 2, 3, 4] [0, 1, 2, 3] hP hD hS hA hK rfl rfl (by decide +kernel) (by decide +kernel) (by decide +kernel) rfl (fun _ => rfl) (by decide +kernel) (fun hPc hKc hDc => (va_runV (As := [.int x2, .int (7 : Int32)]) (rest := []) ⟨hx, hb, hml, hown, hts⟩ (k_Table_cell l dC dI ad_tb cA_tb H.size tb x2 (7 : Int32) u5 hu5) (cwV 2 hts (gV wd_602 wd_497 wd_498 wd_48 wd_499) rfl rfl rfl (by decide +kernel) ⟨Nat.le_of_ble_eq_true rfl, Nat.le_of_ble_eq_true rfl⟩) (cl_preV hPc hKc hDc hN (ci := 4) 0 rfl rfl) rfl rfl hl.1 rfl (lv_room (Nat.le_of_ble_eq_true rfl)) d_Table_contradict_23 ⟨Nat.le_of_ble_eq_true rfl, Nat.le_of_ble_eq_true rfl⟩)) (fun r u H locs hw hP hD hS => ?_)
    have hw := hw.symm
    subst hw
    have hP : va_P (dC, dI) vwCl (uw_Table ad_tb cA_tb tb) H := hP
    have hD : va_D A (uw_Table ad_tb cA_tb tb) := hD
    refine lv_aload_n hx hb d_Table_contradict_26 rfl (lv_at hl 0 rfl) ?_
    refine lv_iload_n hx hb d_Table_contradict_27 rfl (lv_at hl 1 rfl) ?_
    refine lv_iconst (v := (0 : Int32)) hx hb d_Table_contradict_28 (by decide) ?_
    obtain ⟨u6, hu6, hf⟩ := Option.bind_eq_some_iff.mp hf
    refine cl_i (wc := (uw_Table ad_tb cA_tb tb)) (wr := []) (tysC := [(cA_tb 1, .int), (cA_tb 2, .int), (cA_tb 3, .int), (cA_tb 4, .byte)]) (wu := fun (u : Unit) => (uw_Table ad_tb cA_tb tb)) (wn := fun (u : Unit) => (uw_Table ad_tb cA_tb tb)) [0, 1, 2, 3, 4] [] [0, 1, 2, 3, 4] [0, 1, 2, 3] hP hD hS hA hK rfl rfl (by decide +kernel) (by decide +kernel) (by decide +kernel) rfl (fun _ => rfl) (by decide +kernel) (fun hPc hKc hDc => (va_runV (As := [.int x1, .int (0 : Int32)]) (rest := [.int u5]) ⟨hx, hb, hml, hown, hts⟩ (k_Table_cell l dC dI ad_tb cA_tb H.size tb x1 (0 : Int32) u6 hu6) (cwV 2 hts (gV wd_602 wd_497 wd_498 wd_48 wd_499) rfl rfl rfl (by decide +kernel) ⟨Nat.le_of_ble_eq_true rfl, Nat.le_of_ble_eq_true rfl⟩) (cl_preV hPc hKc hDc hN (ci := 4) 0 rfl rfl) rfl rfl hl.1 rfl (lv_room (Nat.le_of_ble_eq_true rfl)) d_Table_contradict_29 ⟨Nat.le_of_ble_eq_true rfl, Nat.le_of_ble_eq_true rfl⟩)) (fun r u H locs hw hP hD hS => ?_)
    have hw := hw.symm
    subst hw
    have hP : va_P (dC, dI) vwCl (uw_Table ad_tb cA_tb tb) H := hP
    have hD : va_D A (uw_Table ad_tb cA_tb tb) := hD
    obtain ⟨u7, hu7, hf⟩ := Option.bind_eq_some_iff.mp hf
    refine cl_i (wc := []) (wr := (uw_Table ad_tb cA_tb tb)) (tysC := []) (wu := fun (u : Unit) => []) (wn := fun (u : Unit) => (uw_Table ad_tb cA_tb tb)) [] [0, 1, 2, 3, 4] [0, 1, 2, 3, 4] [] hP hD hS hA hK rfl rfl (by decide +kernel) (by decide +kernel) (by decide +kernel) rfl (fun _ => rfl) (by decide +kernel) (fun hPc hKc hDc => (va_runS (As := [.int u5, .int u6]) (rest := []) ⟨hx, hb, hml, hown, hts⟩ (k_Table_hasInBits l dC dI  H.size u5 u6 u7 hu7) (cwS 2 hts (gS wd_603 wd_604 wd_48 wd_605) rfl rfl rfl (by decide +kernel) ⟨Nat.le_of_ble_eq_true rfl, Nat.le_of_ble_eq_true rfl⟩) (cl_preS hPc hKc hDc hN) rfl rfl hl.1 rfl (lv_room (Nat.le_of_ble_eq_true rfl)) d_Table_contradict_32 ⟨Nat.le_of_ble_eq_true rfl, Nat.le_of_ble_eq_true rfl⟩)) (fun r u H locs hw hP hD hS => ?_)
    have hw := hw.symm
    subst hw
    have hP : va_P (dC, dI) vwCl (uw_Table ad_tb cA_tb tb) H := hP
    have hD : va_D A (uw_Table ad_tb cA_tb tb) := hD
    refine lv_if_eq (tgt := 42) hx hb d_Table_contradict_35 (by decide) (fun hc8 => ?_) (fun hc8 => ?_)
    · have hf := hf_t hf hc8
      refine lv_iconst (v := (0 : Int32)) hx hb d_Table_contradict_42 (by decide) ?_
      exact ret false () H locs ls 43 d_Table_contradict_43 (Option.some.inj hf) hP hD hS
    · have hf := hf_f hf hc8
      refine lv_iconst (v := (1 : Int32)) hx hb d_Table_contradict_38 (by decide) ?_
      refine lv_goto (tgt := 43) hx hb d_Table_contradict_39 (by decide) ?_
      exact ret true () H locs ls 43 d_Table_contradict_43 (Option.some.inj hf) hP hD hS
