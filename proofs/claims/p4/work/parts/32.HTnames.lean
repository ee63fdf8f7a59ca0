abbrev b_HT_init : ByteArray := prog_1_method_1_code
abbrev y_HT_init : MethodName := { cls := "HazardTables", name := "<init>", desc := "()V" }
abbrev w_HT_init : List Cond := .code y_HT_init b_HT_init 2 none :: WA
theorem d_HT_init_0 : decode b_HT_init 0 = .ok (.aload_n 0, 1) := by decide +kernel
theorem d_HT_init_1 : decode b_HT_init 1 = .ok (.invokespecial 1, 3) := by decide +kernel
theorem d_HT_init_4 : decode b_HT_init 4 = .ok (.aload_n 0, 1) := by decide +kernel
theorem d_HT_init_5 : decode b_HT_init 5 = .ok (.new 7, 3) := by decide +kernel
theorem d_HT_init_8 : decode b_HT_init 8 = .ok (.dup, 1) := by decide +kernel
theorem d_HT_init_9 : decode b_HT_init 9 = .ok (.invokespecial 9, 3) := by decide +kernel
theorem d_HT_init_12 : decode b_HT_init 12 = .ok (.putfield 10, 3) := by decide +kernel
theorem d_HT_init_15 : decode b_HT_init 15 = .ok (.aload_n 0, 1) := by decide +kernel
theorem d_HT_init_16 : decode b_HT_init 16 = .ok (.new 16, 3) := by decide +kernel
theorem d_HT_init_19 : decode b_HT_init 19 = .ok (.dup, 1) := by decide +kernel
theorem d_HT_init_20 : decode b_HT_init 20 = .ok (.invokespecial 18, 3) := by decide +kernel
theorem d_HT_init_23 : decode b_HT_init 23 = .ok (.putfield 19, 3) := by decide +kernel
theorem d_HT_init_26 : decode b_HT_init 26 = .ok (.aload_n 0, 1) := by decide +kernel
theorem d_HT_init_27 : decode b_HT_init 27 = .ok (.new 23, 3) := by decide +kernel
theorem d_HT_init_30 : decode b_HT_init 30 = .ok (.dup, 1) := by decide +kernel
theorem d_HT_init_31 : decode b_HT_init 31 = .ok (.invokespecial 25, 3) := by decide +kernel
theorem d_HT_init_34 : decode b_HT_init 34 = .ok (.putfield 26, 3) := by decide +kernel
theorem d_HT_init_37 : decode b_HT_init 37 = .ok (.aload_n 0, 1) := by decide +kernel
theorem d_HT_init_38 : decode b_HT_init 38 = .ok (.new 30, 3) := by decide +kernel
theorem d_HT_init_41 : decode b_HT_init 41 = .ok (.dup, 1) := by decide +kernel
theorem d_HT_init_42 : decode b_HT_init 42 = .ok (.invokespecial 32, 3) := by decide +kernel
theorem d_HT_init_45 : decode b_HT_init 45 = .ok (.putfield 33, 3) := by decide +kernel
theorem d_HT_init_48 : decode b_HT_init 48 = .ok (.aload_n 0, 1) := by decide +kernel
theorem d_HT_init_49 : decode b_HT_init 49 = .ok (.iconst 5, 1) := by decide +kernel
theorem d_HT_init_50 : decode b_HT_init 50 = .ok (.newarray .int, 2) := by decide +kernel
theorem d_HT_init_52 : decode b_HT_init 52 = .ok (.putfield 37, 3) := by decide +kernel
theorem d_HT_init_55 : decode b_HT_init 55 = .ok (.iconst 0, 1) := by decide +kernel
theorem d_HT_init_56 : decode b_HT_init 56 = .ok (.istore_n 1, 1) := by decide +kernel
theorem d_HT_init_57 : decode b_HT_init 57 = .ok (.iload_n 1, 1) := by decide +kernel
theorem d_HT_init_58 : decode b_HT_init 58 = .ok (.iconst 5, 1) := by decide +kernel
theorem d_HT_init_59 : decode b_HT_init 59 = .ok (.if_icmp .ge 18, 3) := by decide +kernel
theorem d_HT_init_62 : decode b_HT_init 62 = .ok (.aload_n 0, 1) := by decide +kernel
theorem d_HT_init_63 : decode b_HT_init 63 = .ok (.getfield 37, 3) := by decide +kernel
theorem d_HT_init_66 : decode b_HT_init 66 = .ok (.iload_n 1, 1) := by decide +kernel
theorem d_HT_init_67 : decode b_HT_init 67 = .ok (.sipush 1000, 3) := by decide +kernel
theorem d_HT_init_70 : decode b_HT_init 70 = .ok (.iastore, 1) := by decide +kernel
theorem d_HT_init_71 : decode b_HT_init 71 = .ok (.iinc 1 1, 3) := by decide +kernel
theorem d_HT_init_74 : decode b_HT_init 74 = .ok (.goto (-17), 3) := by decide +kernel
theorem d_HT_init_77 : decode b_HT_init 77 = .ok (.aload_n 0, 1) := by decide +kernel
theorem d_HT_init_78 : decode b_HT_init 78 = .ok (.new 41, 3) := by decide +kernel
theorem d_HT_init_81 : decode b_HT_init 81 = .ok (.dup, 1) := by decide +kernel
theorem d_HT_init_82 : decode b_HT_init 82 = .ok (.invokespecial 43, 3) := by decide +kernel
theorem d_HT_init_85 : decode b_HT_init 85 = .ok (.putfield 44, 3) := by decide +kernel
theorem d_HT_init_88 : decode b_HT_init 88 = .ok (.aload_n 0, 1) := by decide +kernel
theorem d_HT_init_89 : decode b_HT_init 89 = .ok (.new 41, 3) := by decide +kernel
theorem d_HT_init_92 : decode b_HT_init 92 = .ok (.dup, 1) := by decide +kernel
theorem d_HT_init_93 : decode b_HT_init 93 = .ok (.invokespecial 43, 3) := by decide +kernel
theorem d_HT_init_96 : decode b_HT_init 96 = .ok (.putfield 48, 3) := by decide +kernel
theorem d_HT_init_99 : decode b_HT_init 99 = .ok (.return_, 1) := by decide +kernel
abbrev b_HT_sign : ByteArray := prog_1_method_2_code
abbrev y_HT_sign : MethodName := { cls := "HazardTables", name := "sign", desc := "(JI)I" }
abbrev w_HT_sign : List Cond := .code y_HT_sign b_HT_sign 4 (some .int) :: WA
theorem d_HT_sign_0 : decode b_HT_sign 0 = .ok (.iload_n 3, 1) := by decide +kernel
theorem d_HT_sign_1 : decode b_HT_sign 1 = .ok (.iconst 1, 1) := by decide +kernel
theorem d_HT_sign_2 : decode b_HT_sign 2 = .ok (.if_icmp .lt 9, 3) := by decide +kernel
theorem d_HT_sign_5 : decode b_HT_sign 5 = .ok (.iload_n 3, 1) := by decide +kernel
theorem d_HT_sign_6 : decode b_HT_sign 6 = .ok (.bipush 8, 2) := by decide +kernel
theorem d_HT_sign_8 : decode b_HT_sign 8 = .ok (.if_icmp .le 13, 3) := by decide +kernel
theorem d_HT_sign_11 : decode b_HT_sign 11 = .ok (.new 51, 3) := by decide +kernel
theorem d_HT_sign_14 : decode b_HT_sign 14 = .ok (.dup, 1) := by decide +kernel
theorem d_HT_sign_15 : decode b_HT_sign 15 = .ok (.ldc 53, 2) := by decide +kernel
theorem d_HT_sign_17 : decode b_HT_sign 17 = .ok (.invokespecial 55, 3) := by decide +kernel
theorem d_HT_sign_20 : decode b_HT_sign 20 = .ok (.athrow, 1) := by decide +kernel
theorem d_HT_sign_21 : decode b_HT_sign 21 = .ok (.aload_n 0, 1) := by decide +kernel
theorem d_HT_sign_22 : decode b_HT_sign 22 = .ok (.getfield 10, 3) := by decide +kernel
theorem d_HT_sign_25 : decode b_HT_sign 25 = .ok (.iload_n 3, 1) := by decide +kernel
theorem d_HT_sign_26 : decode b_HT_sign 26 = .ok (.invokevirtual 58, 3) := by decide +kernel
theorem d_HT_sign_29 : decode b_HT_sign 29 = .ok (.ifCond .ne 13, 3) := by decide +kernel
theorem d_HT_sign_32 : decode b_HT_sign 32 = .ok (.new 62, 3) := by decide +kernel
theorem d_HT_sign_35 : decode b_HT_sign 35 = .ok (.dup, 1) := by decide +kernel
theorem d_HT_sign_36 : decode b_HT_sign 36 = .ok (.ldc 64, 2) := by decide +kernel
theorem d_HT_sign_38 : decode b_HT_sign 38 = .ok (.invokespecial 66, 3) := by decide +kernel
theorem d_HT_sign_41 : decode b_HT_sign 41 = .ok (.athrow, 1) := by decide +kernel
theorem d_HT_sign_42 : decode b_HT_sign 42 = .ok (.aload_n 0, 1) := by decide +kernel
theorem d_HT_sign_43 : decode b_HT_sign 43 = .ok (.getfield 10, 3) := by decide +kernel
theorem d_HT_sign_46 : decode b_HT_sign 46 = .ok (.lload_n 1, 1) := by decide +kernel
theorem d_HT_sign_47 : decode b_HT_sign 47 = .ok (.iload_n 3, 1) := by decide +kernel
theorem d_HT_sign_48 : decode b_HT_sign 48 = .ok (.invokevirtual 67, 3) := by decide +kernel
theorem d_HT_sign_51 : decode b_HT_sign 51 = .ok (.ireturn, 1) := by decide +kernel
abbrev b_HT_read : ByteArray := prog_1_method_3_code
abbrev y_HT_read : MethodName := { cls := "HazardTables", name := "read", desc := "()I" }
abbrev w_HT_read : List Cond := .code y_HT_read b_HT_read 2 (some .int) :: WA
theorem d_HT_read_0 : decode b_HT_read 0 = .ok (.aload_n 0, 1) := by decide +kernel
theorem d_HT_read_1 : decode b_HT_read 1 = .ok (.getfield 10, 3) := by decide +kernel
theorem d_HT_read_4 : decode b_HT_read 4 = .ok (.aload_n 0, 1) := by decide +kernel
theorem d_HT_read_5 : decode b_HT_read 5 = .ok (.getfield 48, 3) := by decide +kernel
theorem d_HT_read_8 : decode b_HT_read 8 = .ok (.invokevirtual 71, 3) := by decide +kernel
theorem d_HT_read_11 : decode b_HT_read 11 = .ok (.ifCond .ne 13, 3) := by decide +kernel
theorem d_HT_read_14 : decode b_HT_read 14 = .ok (.new 75, 3) := by decide +kernel
theorem d_HT_read_17 : decode b_HT_read 17 = .ok (.dup, 1) := by decide +kernel
theorem d_HT_read_18 : decode b_HT_read 18 = .ok (.ldc 77, 2) := by decide +kernel
theorem d_HT_read_20 : decode b_HT_read 20 = .ok (.invokespecial 79, 3) := by decide +kernel
theorem d_HT_read_23 : decode b_HT_read 23 = .ok (.athrow, 1) := by decide +kernel
theorem d_HT_read_24 : decode b_HT_read 24 = .ok (.aload_n 0, 1) := by decide +kernel
theorem d_HT_read_25 : decode b_HT_read 25 = .ok (.getfield 44, 3) := by decide +kernel
theorem d_HT_read_28 : decode b_HT_read 28 = .ok (.astore_n 1, 1) := by decide +kernel
theorem d_HT_read_29 : decode b_HT_read 29 = .ok (.aload_n 0, 1) := by decide +kernel
theorem d_HT_read_30 : decode b_HT_read 30 = .ok (.aload_n 0, 1) := by decide +kernel
theorem d_HT_read_31 : decode b_HT_read 31 = .ok (.getfield 48, 3) := by decide +kernel
theorem d_HT_read_34 : decode b_HT_read 34 = .ok (.putfield 44, 3) := by decide +kernel
theorem d_HT_read_37 : decode b_HT_read 37 = .ok (.aload_n 0, 1) := by decide +kernel
theorem d_HT_read_38 : decode b_HT_read 38 = .ok (.aload_n 1, 1) := by decide +kernel
theorem d_HT_read_39 : decode b_HT_read 39 = .ok (.putfield 48, 3) := by decide +kernel
theorem d_HT_read_42 : decode b_HT_read 42 = .ok (.aload_n 0, 1) := by decide +kernel
theorem d_HT_read_43 : decode b_HT_read 43 = .ok (.getfield 26, 3) := by decide +kernel
theorem d_HT_read_46 : decode b_HT_read 46 = .ok (.invokevirtual 80, 3) := by decide +kernel
theorem d_HT_read_49 : decode b_HT_read 49 = .ok (.aload_n 0, 1) := by decide +kernel
theorem d_HT_read_50 : decode b_HT_read 50 = .ok (.getfield 19, 3) := by decide +kernel
theorem d_HT_read_53 : decode b_HT_read 53 = .ok (.invokevirtual 83, 3) := by decide +kernel
theorem d_HT_read_56 : decode b_HT_read 56 = .ok (.aload_n 0, 1) := by decide +kernel
theorem d_HT_read_57 : decode b_HT_read 57 = .ok (.getfield 44, 3) := by decide +kernel
theorem d_HT_read_60 : decode b_HT_read 60 = .ok (.getfield 86, 3) := by decide +kernel
theorem d_HT_read_63 : decode b_HT_read 63 = .ok (.ireturn, 1) := by decide +kernel
abbrev b_HT_place : ByteArray := prog_1_method_4_code
abbrev y_HT_place : MethodName := { cls := "HazardTables", name := "place", desc := "()I" }
abbrev w_HT_place : List Cond := .code y_HT_place b_HT_place 1 (some .int) :: WA
theorem d_HT_place_0 : decode b_HT_place 0 = .ok (.aload_n 0, 1) := by decide +kernel
theorem d_HT_place_1 : decode b_HT_place 1 = .ok (.getfield 10, 3) := by decide +kernel
theorem d_HT_place_4 : decode b_HT_place 4 = .ok (.getfield 90, 3) := by decide +kernel
theorem d_HT_place_7 : decode b_HT_place 7 = .ok (.ireturn, 1) := by decide +kernel
abbrev b_HT_material : ByteArray := prog_1_method_5_code
abbrev y_HT_material : MethodName := { cls := "HazardTables", name := "material", desc := "(II)I" }
abbrev w_HT_material : List Cond := .code y_HT_material b_HT_material 4 (some .int) :: WA
theorem d_HT_material_0 : decode b_HT_material 0 = .ok (.iload_n 1, 1) := by decide +kernel
theorem d_HT_material_1 : decode b_HT_material 1 = .ok (.ifCond .ne 13, 3) := by decide +kernel
theorem d_HT_material_4 : decode b_HT_material 4 = .ok (.aload_n 0, 1) := by decide +kernel
theorem d_HT_material_5 : decode b_HT_material 5 = .ok (.getfield 44, 3) := by decide +kernel
theorem d_HT_material_8 : decode b_HT_material 8 = .ok (.invokevirtual 93, 3) := by decide +kernel
theorem d_HT_material_11 : decode b_HT_material 11 = .ok (.goto 11, 3) := by decide +kernel
theorem d_HT_material_14 : decode b_HT_material 14 = .ok (.aload_n 0, 1) := by decide +kernel
theorem d_HT_material_15 : decode b_HT_material 15 = .ok (.getfield 44, 3) := by decide +kernel
theorem d_HT_material_18 : decode b_HT_material 18 = .ok (.iload_n 1, 1) := by decide +kernel
theorem d_HT_material_19 : decode b_HT_material 19 = .ok (.invokevirtual 97, 3) := by decide +kernel
theorem d_HT_material_22 : decode b_HT_material 22 = .ok (.istore_n 3, 1) := by decide +kernel
theorem d_HT_material_23 : decode b_HT_material 23 = .ok (.iload_n 3, 1) := by decide +kernel
theorem d_HT_material_24 : decode b_HT_material 24 = .ok (.iconst (-1), 1) := by decide +kernel
theorem d_HT_material_25 : decode b_HT_material 25 = .ok (.if_icmp .ne 13, 3) := by decide +kernel
theorem d_HT_material_28 : decode b_HT_material 28 = .ok (.new 101, 3) := by decide +kernel
theorem d_HT_material_31 : decode b_HT_material 31 = .ok (.dup, 1) := by decide +kernel
theorem d_HT_material_32 : decode b_HT_material 32 = .ok (.ldc 103, 2) := by decide +kernel
theorem d_HT_material_34 : decode b_HT_material 34 = .ok (.invokespecial 105, 3) := by decide +kernel
theorem d_HT_material_37 : decode b_HT_material 37 = .ok (.athrow, 1) := by decide +kernel
theorem d_HT_material_38 : decode b_HT_material 38 = .ok (.iload_n 2, 1) := by decide +kernel
theorem d_HT_material_39 : decode b_HT_material 39 = .ok (.ifCond .lt 9, 3) := by decide +kernel
theorem d_HT_material_42 : decode b_HT_material 42 = .ok (.iload_n 2, 1) := by decide +kernel
theorem d_HT_material_43 : decode b_HT_material 43 = .ok (.bipush 9, 2) := by decide +kernel
theorem d_HT_material_45 : decode b_HT_material 45 = .ok (.if_icmp .lt 13, 3) := by decide +kernel
theorem d_HT_material_48 : decode b_HT_material 48 = .ok (.new 101, 3) := by decide +kernel
theorem d_HT_material_51 : decode b_HT_material 51 = .ok (.dup, 1) := by decide +kernel
theorem d_HT_material_52 : decode b_HT_material 52 = .ok (.ldc 106, 2) := by decide +kernel
theorem d_HT_material_54 : decode b_HT_material 54 = .ok (.invokespecial 105, 3) := by decide +kernel
theorem d_HT_material_57 : decode b_HT_material 57 = .ok (.athrow, 1) := by decide +kernel
theorem d_HT_material_58 : decode b_HT_material 58 = .ok (.aload_n 0, 1) := by decide +kernel
theorem d_HT_material_59 : decode b_HT_material 59 = .ok (.getfield 44, 3) := by decide +kernel
theorem d_HT_material_62 : decode b_HT_material 62 = .ok (.iload_n 3, 1) := by decide +kernel
theorem d_HT_material_63 : decode b_HT_material 63 = .ok (.iload_n 2, 1) := by decide +kernel
theorem d_HT_material_64 : decode b_HT_material 64 = .ok (.invokevirtual 108, 3) := by decide +kernel
theorem d_HT_material_67 : decode b_HT_material 67 = .ok (.ireturn, 1) := by decide +kernel
abbrev b_HT_say : ByteArray := prog_1_method_6_code
abbrev y_HT_say : MethodName := { cls := "HazardTables", name := "say", desc := "(JI)I" }
abbrev w_HT_say : List Cond := .code y_HT_say b_HT_say 4 (some .int) :: WA
theorem d_HT_say_0 : decode b_HT_say 0 = .ok (.iload_n 3, 1) := by decide +kernel
theorem d_HT_say_1 : decode b_HT_say 1 = .ok (.iconst 1, 1) := by decide +kernel
theorem d_HT_say_2 : decode b_HT_say 2 = .ok (.if_icmp .lt 17, 3) := by decide +kernel
theorem d_HT_say_5 : decode b_HT_say 5 = .ok (.iload_n 3, 1) := by decide +kernel
theorem d_HT_say_6 : decode b_HT_say 6 = .ok (.bipush 8, 2) := by decide +kernel
theorem d_HT_say_8 : decode b_HT_say 8 = .ok (.if_icmp .gt 11, 3) := by decide +kernel
theorem d_HT_say_11 : decode b_HT_say 11 = .ok (.lload_n 1, 1) := by decide +kernel
theorem d_HT_say_12 : decode b_HT_say 12 = .ok (.iload_n 3, 1) := by decide +kernel
theorem d_HT_say_13 : decode b_HT_say 13 = .ok (.invokestatic 112, 3) := by decide +kernel
theorem d_HT_say_16 : decode b_HT_say 16 = .ok (.ifCond .ne 13, 3) := by decide +kernel
theorem d_HT_say_19 : decode b_HT_say 19 = .ok (.new 51, 3) := by decide +kernel
theorem d_HT_say_22 : decode b_HT_say 22 = .ok (.dup, 1) := by decide +kernel
theorem d_HT_say_23 : decode b_HT_say 23 = .ok (.ldc 116, 2) := by decide +kernel
theorem d_HT_say_25 : decode b_HT_say 25 = .ok (.invokespecial 55, 3) := by decide +kernel
theorem d_HT_say_28 : decode b_HT_say 28 = .ok (.athrow, 1) := by decide +kernel
theorem d_HT_say_29 : decode b_HT_say 29 = .ok (.aload_n 0, 1) := by decide +kernel
theorem d_HT_say_30 : decode b_HT_say 30 = .ok (.getfield 44, 3) := by decide +kernel
theorem d_HT_say_33 : decode b_HT_say 33 = .ok (.getfield 86, 3) := by decide +kernel
theorem d_HT_say_36 : decode b_HT_say 36 = .ok (.ifCond .ne 13, 3) := by decide +kernel
theorem d_HT_say_39 : decode b_HT_say 39 = .ok (.new 75, 3) := by decide +kernel
theorem d_HT_say_42 : decode b_HT_say 42 = .ok (.dup, 1) := by decide +kernel
theorem d_HT_say_43 : decode b_HT_say 43 = .ok (.ldc 118, 2) := by decide +kernel
theorem d_HT_say_45 : decode b_HT_say 45 = .ok (.invokespecial 79, 3) := by decide +kernel
theorem d_HT_say_48 : decode b_HT_say 48 = .ok (.athrow, 1) := by decide +kernel
theorem d_HT_say_49 : decode b_HT_say 49 = .ok (.aload_n 0, 1) := by decide +kernel
theorem d_HT_say_50 : decode b_HT_say 50 = .ok (.getfield 19, 3) := by decide +kernel
theorem d_HT_say_53 : decode b_HT_say 53 = .ok (.lload_n 1, 1) := by decide +kernel
theorem d_HT_say_54 : decode b_HT_say 54 = .ok (.iload_n 3, 1) := by decide +kernel
theorem d_HT_say_55 : decode b_HT_say 55 = .ok (.invokevirtual 120, 3) := by decide +kernel
theorem d_HT_say_58 : decode b_HT_say 58 = .ok (.aload_n 0, 1) := by decide +kernel
theorem d_HT_say_59 : decode b_HT_say 59 = .ok (.getfield 19, 3) := by decide +kernel
theorem d_HT_say_62 : decode b_HT_say 62 = .ok (.aload_n 0, 1) := by decide +kernel
theorem d_HT_say_63 : decode b_HT_say 63 = .ok (.getfield 44, 3) := by decide +kernel
theorem d_HT_say_66 : decode b_HT_say 66 = .ok (.invokevirtual 124, 3) := by decide +kernel
theorem d_HT_say_69 : decode b_HT_say 69 = .ok (.aload_n 0, 1) := by decide +kernel
theorem d_HT_say_70 : decode b_HT_say 70 = .ok (.getfield 19, 3) := by decide +kernel
theorem d_HT_say_73 : decode b_HT_say 73 = .ok (.iconst 0, 1) := by decide +kernel
theorem d_HT_say_74 : decode b_HT_say 74 = .ok (.invokevirtual 128, 3) := by decide +kernel
theorem d_HT_say_77 : decode b_HT_say 77 = .ok (.ireturn, 1) := by decide +kernel
abbrev b_HT_near : ByteArray := prog_1_method_7_code
abbrev y_HT_near : MethodName := { cls := "HazardTables", name := "near", desc := "(I)I" }
abbrev w_HT_near : List Cond := .code y_HT_near b_HT_near 2 (some .int) :: WA
theorem d_HT_near_0 : decode b_HT_near 0 = .ok (.iload_n 1, 1) := by decide +kernel
theorem d_HT_near_1 : decode b_HT_near 1 = .ok (.ifCond .ge 13, 3) := by decide +kernel
theorem d_HT_near_4 : decode b_HT_near 4 = .ok (.new 51, 3) := by decide +kernel
theorem d_HT_near_7 : decode b_HT_near 7 = .ok (.dup, 1) := by decide +kernel
theorem d_HT_near_8 : decode b_HT_near 8 = .ok (.ldc 131, 2) := by decide +kernel
theorem d_HT_near_10 : decode b_HT_near 10 = .ok (.invokespecial 55, 3) := by decide +kernel
theorem d_HT_near_13 : decode b_HT_near 13 = .ok (.athrow, 1) := by decide +kernel
theorem d_HT_near_14 : decode b_HT_near 14 = .ok (.aload_n 0, 1) := by decide +kernel
theorem d_HT_near_15 : decode b_HT_near 15 = .ok (.getfield 19, 3) := by decide +kernel
theorem d_HT_near_18 : decode b_HT_near 18 = .ok (.iload_n 1, 1) := by decide +kernel
theorem d_HT_near_19 : decode b_HT_near 19 = .ok (.invokevirtual 128, 3) := by decide +kernel
theorem d_HT_near_22 : decode b_HT_near 22 = .ok (.ireturn, 1) := by decide +kernel
abbrev b_HT_add : ByteArray := prog_1_method_8_code
abbrev y_HT_add : MethodName := { cls := "HazardTables", name := "add", desc := "(II)I" }
abbrev w_HT_add : List Cond := .code y_HT_add b_HT_add 4 (some .int) :: WA
theorem d_HT_add_0 : decode b_HT_add 0 = .ok (.aload_n 0, 1) := by decide +kernel
theorem d_HT_add_1 : decode b_HT_add 1 = .ok (.getfield 44, 3) := by decide +kernel
theorem d_HT_add_4 : decode b_HT_add 4 = .ok (.iload_n 1, 1) := by decide +kernel
theorem d_HT_add_5 : decode b_HT_add 5 = .ok (.invokevirtual 97, 3) := by decide +kernel
theorem d_HT_add_8 : decode b_HT_add 8 = .ok (.istore_n 3, 1) := by decide +kernel
theorem d_HT_add_9 : decode b_HT_add 9 = .ok (.iload_n 3, 1) := by decide +kernel
theorem d_HT_add_10 : decode b_HT_add 10 = .ok (.iconst (-1), 1) := by decide +kernel
theorem d_HT_add_11 : decode b_HT_add 11 = .ok (.if_icmp .ne 11, 3) := by decide +kernel
theorem d_HT_add_14 : decode b_HT_add 14 = .ok (.aload_n 0, 1) := by decide +kernel
theorem d_HT_add_15 : decode b_HT_add 15 = .ok (.getfield 44, 3) := by decide +kernel
theorem d_HT_add_18 : decode b_HT_add 18 = .ok (.invokevirtual 93, 3) := by decide +kernel
theorem d_HT_add_21 : decode b_HT_add 21 = .ok (.istore_n 3, 1) := by decide +kernel
theorem d_HT_add_22 : decode b_HT_add 22 = .ok (.iload_n 3, 1) := by decide +kernel
theorem d_HT_add_23 : decode b_HT_add 23 = .ok (.iconst (-1), 1) := by decide +kernel
theorem d_HT_add_24 : decode b_HT_add 24 = .ok (.if_icmp .ne 13, 3) := by decide +kernel
theorem d_HT_add_27 : decode b_HT_add 27 = .ok (.new 101, 3) := by decide +kernel
theorem d_HT_add_30 : decode b_HT_add 30 = .ok (.dup, 1) := by decide +kernel
theorem d_HT_add_31 : decode b_HT_add 31 = .ok (.ldc 133, 2) := by decide +kernel
theorem d_HT_add_33 : decode b_HT_add 33 = .ok (.invokespecial 105, 3) := by decide +kernel
theorem d_HT_add_36 : decode b_HT_add 36 = .ok (.athrow, 1) := by decide +kernel
theorem d_HT_add_37 : decode b_HT_add 37 = .ok (.iload_n 1, 1) := by decide +kernel
theorem d_HT_add_38 : decode b_HT_add 38 = .ok (.iconst 1, 1) := by decide +kernel
theorem d_HT_add_39 : decode b_HT_add 39 = .ok (.sipush 9999, 3) := by decide +kernel
theorem d_HT_add_42 : decode b_HT_add 42 = .ok (.invokestatic 135, 3) := by decide +kernel
theorem d_HT_add_45 : decode b_HT_add 45 = .ok (.ifCond .ne 13, 3) := by decide +kernel
theorem d_HT_add_48 : decode b_HT_add 48 = .ok (.iload_n 2, 1) := by decide +kernel
theorem d_HT_add_49 : decode b_HT_add 49 = .ok (.iconst 1, 1) := by decide +kernel
theorem d_HT_add_50 : decode b_HT_add 50 = .ok (.ldc 139, 2) := by decide +kernel
theorem d_HT_add_52 : decode b_HT_add 52 = .ok (.invokestatic 135, 3) := by decide +kernel
theorem d_HT_add_55 : decode b_HT_add 55 = .ok (.ifCond .eq 13, 3) := by decide +kernel
theorem d_HT_add_58 : decode b_HT_add 58 = .ok (.new 51, 3) := by decide +kernel
theorem d_HT_add_61 : decode b_HT_add 61 = .ok (.dup, 1) := by decide +kernel
theorem d_HT_add_62 : decode b_HT_add 62 = .ok (.ldc 140, 2) := by decide +kernel
theorem d_HT_add_64 : decode b_HT_add 64 = .ok (.invokespecial 55, 3) := by decide +kernel
theorem d_HT_add_67 : decode b_HT_add 67 = .ok (.athrow, 1) := by decide +kernel
theorem d_HT_add_68 : decode b_HT_add 68 = .ok (.aload_n 0, 1) := by decide +kernel
theorem d_HT_add_69 : decode b_HT_add 69 = .ok (.getfield 26, 3) := by decide +kernel
theorem d_HT_add_72 : decode b_HT_add 72 = .ok (.invokevirtual 142, 3) := by decide +kernel
theorem d_HT_add_75 : decode b_HT_add 75 = .ok (.ifCond .eq 13, 3) := by decide +kernel
theorem d_HT_add_78 : decode b_HT_add 78 = .ok (.new 62, 3) := by decide +kernel
theorem d_HT_add_81 : decode b_HT_add 81 = .ok (.dup, 1) := by decide +kernel
theorem d_HT_add_82 : decode b_HT_add 82 = .ok (.ldc 146, 2) := by decide +kernel
theorem d_HT_add_84 : decode b_HT_add 84 = .ok (.invokespecial 66, 3) := by decide +kernel
theorem d_HT_add_87 : decode b_HT_add 87 = .ok (.athrow, 1) := by decide +kernel
theorem d_HT_add_88 : decode b_HT_add 88 = .ok (.aload_n 0, 1) := by decide +kernel
theorem d_HT_add_89 : decode b_HT_add 89 = .ok (.getfield 26, 3) := by decide +kernel
theorem d_HT_add_92 : decode b_HT_add 92 = .ok (.iload_n 1, 1) := by decide +kernel
theorem d_HT_add_93 : decode b_HT_add 93 = .ok (.iload_n 3, 1) := by decide +kernel
theorem d_HT_add_94 : decode b_HT_add 94 = .ok (.iload_n 2, 1) := by decide +kernel
theorem d_HT_add_95 : decode b_HT_add 95 = .ok (.aload_n 0, 1) := by decide +kernel
theorem d_HT_add_96 : decode b_HT_add 96 = .ok (.getfield 44, 3) := by decide +kernel
theorem d_HT_add_99 : decode b_HT_add 99 = .ok (.invokevirtual 148, 3) := by decide +kernel
theorem d_HT_add_102 : decode b_HT_add 102 = .ok (.ireturn, 1) := by decide +kernel
abbrev b_HT_clear : ByteArray := prog_1_method_9_code
abbrev y_HT_clear : MethodName := { cls := "HazardTables", name := "clear", desc := "()V" }
abbrev w_HT_clear : List Cond := .code y_HT_clear b_HT_clear 1 none :: WA
theorem d_HT_clear_0 : decode b_HT_clear 0 = .ok (.aload_n 0, 1) := by decide +kernel
theorem d_HT_clear_1 : decode b_HT_clear 1 = .ok (.getfield 26, 3) := by decide +kernel
theorem d_HT_clear_4 : decode b_HT_clear 4 = .ok (.invokevirtual 80, 3) := by decide +kernel
theorem d_HT_clear_7 : decode b_HT_clear 7 = .ok (.return_, 1) := by decide +kernel
abbrev b_HT_mixture : ByteArray := prog_1_method_10_code
abbrev y_HT_mixture : MethodName := { cls := "HazardTables", name := "mixture", desc := "(I)I" }
abbrev w_HT_mixture : List Cond := .code y_HT_mixture b_HT_mixture 2 (some .int) :: WA
theorem d_HT_mixture_0 : decode b_HT_mixture 0 = .ok (.iload_n 1, 1) := by decide +kernel
theorem d_HT_mixture_1 : decode b_HT_mixture 1 = .ok (.iconst 0, 1) := by decide +kernel
theorem d_HT_mixture_2 : decode b_HT_mixture 2 = .ok (.iconst 5, 1) := by decide +kernel
theorem d_HT_mixture_3 : decode b_HT_mixture 3 = .ok (.invokestatic 135, 3) := by decide +kernel
theorem d_HT_mixture_6 : decode b_HT_mixture 6 = .ok (.ifCond .eq 13, 3) := by decide +kernel
theorem d_HT_mixture_9 : decode b_HT_mixture 9 = .ok (.new 101, 3) := by decide +kernel
theorem d_HT_mixture_12 : decode b_HT_mixture 12 = .ok (.dup, 1) := by decide +kernel
theorem d_HT_mixture_13 : decode b_HT_mixture 13 = .ok (.ldc 106, 2) := by decide +kernel
theorem d_HT_mixture_15 : decode b_HT_mixture 15 = .ok (.invokespecial 105, 3) := by decide +kernel
theorem d_HT_mixture_18 : decode b_HT_mixture 18 = .ok (.athrow, 1) := by decide +kernel
theorem d_HT_mixture_19 : decode b_HT_mixture 19 = .ok (.aload_n 0, 1) := by decide +kernel
theorem d_HT_mixture_20 : decode b_HT_mixture 20 = .ok (.getfield 26, 3) := by decide +kernel
theorem d_HT_mixture_23 : decode b_HT_mixture 23 = .ok (.getfield 151, 3) := by decide +kernel
theorem d_HT_mixture_26 : decode b_HT_mixture 26 = .ok (.ifCond .ne 13, 3) := by decide +kernel
theorem d_HT_mixture_29 : decode b_HT_mixture 29 = .ok (.new 75, 3) := by decide +kernel
theorem d_HT_mixture_32 : decode b_HT_mixture 32 = .ok (.dup, 1) := by decide +kernel
theorem d_HT_mixture_33 : decode b_HT_mixture 33 = .ok (.ldc 154, 2) := by decide +kernel
theorem d_HT_mixture_35 : decode b_HT_mixture 35 = .ok (.invokespecial 79, 3) := by decide +kernel
theorem d_HT_mixture_38 : decode b_HT_mixture 38 = .ok (.athrow, 1) := by decide +kernel
theorem d_HT_mixture_39 : decode b_HT_mixture 39 = .ok (.iload_n 1, 1) := by decide +kernel
theorem d_HT_mixture_40 : decode b_HT_mixture 40 = .ok (.tableswitch 94 0 4 #[36, 48, 60, 73, 86], 36) := by decide +kernel
theorem d_HT_mixture_76 : decode b_HT_mixture 76 = .ok (.aload_n 0, 1) := by decide +kernel
theorem d_HT_mixture_77 : decode b_HT_mixture 77 = .ok (.getfield 26, 3) := by decide +kernel
theorem d_HT_mixture_80 : decode b_HT_mixture 80 = .ok (.aload_n 0, 1) := by decide +kernel
theorem d_HT_mixture_81 : decode b_HT_mixture 81 = .ok (.getfield 44, 3) := by decide +kernel
theorem d_HT_mixture_84 : decode b_HT_mixture 84 = .ok (.invokevirtual 156, 3) := by decide +kernel
theorem d_HT_mixture_87 : decode b_HT_mixture 87 = .ok (.ireturn, 1) := by decide +kernel
theorem d_HT_mixture_88 : decode b_HT_mixture 88 = .ok (.aload_n 0, 1) := by decide +kernel
theorem d_HT_mixture_89 : decode b_HT_mixture 89 = .ok (.getfield 26, 3) := by decide +kernel
theorem d_HT_mixture_92 : decode b_HT_mixture 92 = .ok (.aload_n 0, 1) := by decide +kernel
theorem d_HT_mixture_93 : decode b_HT_mixture 93 = .ok (.getfield 44, 3) := by decide +kernel
theorem d_HT_mixture_96 : decode b_HT_mixture 96 = .ok (.invokevirtual 160, 3) := by decide +kernel
theorem d_HT_mixture_99 : decode b_HT_mixture 99 = .ok (.ireturn, 1) := by decide +kernel
theorem d_HT_mixture_100 : decode b_HT_mixture 100 = .ok (.aload_n 0, 1) := by decide +kernel
theorem d_HT_mixture_101 : decode b_HT_mixture 101 = .ok (.getfield 26, 3) := by decide +kernel
theorem d_HT_mixture_104 : decode b_HT_mixture 104 = .ok (.aload_n 0, 1) := by decide +kernel
theorem d_HT_mixture_105 : decode b_HT_mixture 105 = .ok (.getfield 44, 3) := by decide +kernel
theorem d_HT_mixture_108 : decode b_HT_mixture 108 = .ok (.iconst 1, 1) := by decide +kernel
theorem d_HT_mixture_109 : decode b_HT_mixture 109 = .ok (.invokevirtual 163, 3) := by decide +kernel
theorem d_HT_mixture_112 : decode b_HT_mixture 112 = .ok (.ireturn, 1) := by decide +kernel
theorem d_HT_mixture_113 : decode b_HT_mixture 113 = .ok (.aload_n 0, 1) := by decide +kernel
theorem d_HT_mixture_114 : decode b_HT_mixture 114 = .ok (.getfield 26, 3) := by decide +kernel
theorem d_HT_mixture_117 : decode b_HT_mixture 117 = .ok (.aload_n 0, 1) := by decide +kernel
theorem d_HT_mixture_118 : decode b_HT_mixture 118 = .ok (.getfield 44, 3) := by decide +kernel
theorem d_HT_mixture_121 : decode b_HT_mixture 121 = .ok (.iconst 0, 1) := by decide +kernel
theorem d_HT_mixture_122 : decode b_HT_mixture 122 = .ok (.invokevirtual 163, 3) := by decide +kernel
theorem d_HT_mixture_125 : decode b_HT_mixture 125 = .ok (.ireturn, 1) := by decide +kernel
theorem d_HT_mixture_126 : decode b_HT_mixture 126 = .ok (.aload_n 0, 1) := by decide +kernel
theorem d_HT_mixture_127 : decode b_HT_mixture 127 = .ok (.getfield 26, 3) := by decide +kernel
theorem d_HT_mixture_130 : decode b_HT_mixture 130 = .ok (.getfield 151, 3) := by decide +kernel
theorem d_HT_mixture_133 : decode b_HT_mixture 133 = .ok (.ireturn, 1) := by decide +kernel
theorem d_HT_mixture_134 : decode b_HT_mixture 134 = .ok (.aload_n 0, 1) := by decide +kernel
theorem d_HT_mixture_135 : decode b_HT_mixture 135 = .ok (.getfield 26, 3) := by decide +kernel
theorem d_HT_mixture_138 : decode b_HT_mixture 138 = .ok (.aload_n 0, 1) := by decide +kernel
theorem d_HT_mixture_139 : decode b_HT_mixture 139 = .ok (.getfield 44, 3) := by decide +kernel
theorem d_HT_mixture_142 : decode b_HT_mixture 142 = .ok (.invokevirtual 167, 3) := by decide +kernel
theorem d_HT_mixture_145 : decode b_HT_mixture 145 = .ok (.ireturn, 1) := by decide +kernel
abbrev b_HT_strict : ByteArray := prog_1_method_11_code
abbrev y_HT_strict : MethodName := { cls := "HazardTables", name := "strict", desc := "(I)I" }
abbrev w_HT_strict : List Cond := .code y_HT_strict b_HT_strict 2 (some .int) :: WA
theorem d_HT_strict_0 : decode b_HT_strict 0 = .ok (.iload_n 1, 1) := by decide +kernel
theorem d_HT_strict_1 : decode b_HT_strict 1 = .ok (.ifCond .ge 13, 3) := by decide +kernel
theorem d_HT_strict_4 : decode b_HT_strict 4 = .ok (.new 51, 3) := by decide +kernel
theorem d_HT_strict_7 : decode b_HT_strict 7 = .ok (.dup, 1) := by decide +kernel
theorem d_HT_strict_8 : decode b_HT_strict 8 = .ok (.ldc 131, 2) := by decide +kernel
theorem d_HT_strict_10 : decode b_HT_strict 10 = .ok (.invokespecial 55, 3) := by decide +kernel
theorem d_HT_strict_13 : decode b_HT_strict 13 = .ok (.athrow, 1) := by decide +kernel
theorem d_HT_strict_14 : decode b_HT_strict 14 = .ok (.aload_n 0, 1) := by decide +kernel
theorem d_HT_strict_15 : decode b_HT_strict 15 = .ok (.getfield 26, 3) := by decide +kernel
theorem d_HT_strict_18 : decode b_HT_strict 18 = .ok (.iload_n 1, 1) := by decide +kernel
theorem d_HT_strict_19 : decode b_HT_strict 19 = .ok (.aload_n 0, 1) := by decide +kernel
theorem d_HT_strict_20 : decode b_HT_strict 20 = .ok (.getfield 44, 3) := by decide +kernel
theorem d_HT_strict_23 : decode b_HT_strict 23 = .ok (.invokevirtual 170, 3) := by decide +kernel
theorem d_HT_strict_26 : decode b_HT_strict 26 = .ok (.ireturn, 1) := by decide +kernel
abbrev b_HT_building : ByteArray := prog_1_method_12_code
abbrev y_HT_building : MethodName := { cls := "HazardTables", name := "building", desc := "(II)I" }
abbrev w_HT_building : List Cond := .code y_HT_building b_HT_building 3 (some .int) :: WA
theorem d_HT_building_0 : decode b_HT_building 0 = .ok (.iload_n 1, 1) := by decide +kernel
theorem d_HT_building_1 : decode b_HT_building 1 = .ok (.iload_n 2, 1) := by decide +kernel
theorem d_HT_building_2 : decode b_HT_building 2 = .ok (.invokestatic 174, 3) := by decide +kernel
theorem d_HT_building_5 : decode b_HT_building 5 = .ok (.ifCond .eq 13, 3) := by decide +kernel
theorem d_HT_building_8 : decode b_HT_building 8 = .ok (.new 51, 3) := by decide +kernel
theorem d_HT_building_11 : decode b_HT_building 11 = .ok (.dup, 1) := by decide +kernel
theorem d_HT_building_12 : decode b_HT_building 12 = .ok (.ldc 178, 2) := by decide +kernel
theorem d_HT_building_14 : decode b_HT_building 14 = .ok (.invokespecial 55, 3) := by decide +kernel
theorem d_HT_building_17 : decode b_HT_building 17 = .ok (.athrow, 1) := by decide +kernel
theorem d_HT_building_18 : decode b_HT_building 18 = .ok (.aload_n 0, 1) := by decide +kernel
theorem d_HT_building_19 : decode b_HT_building 19 = .ok (.getfield 33, 3) := by decide +kernel
theorem d_HT_building_22 : decode b_HT_building 22 = .ok (.invokevirtual 180, 3) := by decide +kernel
theorem d_HT_building_25 : decode b_HT_building 25 = .ok (.ifCond .eq 13, 3) := by decide +kernel
theorem d_HT_building_28 : decode b_HT_building 28 = .ok (.new 62, 3) := by decide +kernel
theorem d_HT_building_31 : decode b_HT_building 31 = .ok (.dup, 1) := by decide +kernel
theorem d_HT_building_32 : decode b_HT_building 32 = .ok (.ldc 181, 2) := by decide +kernel
theorem d_HT_building_34 : decode b_HT_building 34 = .ok (.invokespecial 66, 3) := by decide +kernel
theorem d_HT_building_37 : decode b_HT_building 37 = .ok (.athrow, 1) := by decide +kernel
theorem d_HT_building_38 : decode b_HT_building 38 = .ok (.aload_n 0, 1) := by decide +kernel
theorem d_HT_building_39 : decode b_HT_building 39 = .ok (.getfield 33, 3) := by decide +kernel
theorem d_HT_building_42 : decode b_HT_building 42 = .ok (.iload_n 1, 1) := by decide +kernel
theorem d_HT_building_43 : decode b_HT_building 43 = .ok (.iload_n 2, 1) := by decide +kernel
theorem d_HT_building_44 : decode b_HT_building 44 = .ok (.invokevirtual 183, 3) := by decide +kernel
theorem d_HT_building_47 : decode b_HT_building 47 = .ok (.ireturn, 1) := by decide +kernel
abbrev b_HT_wind : ByteArray := prog_1_method_13_code
abbrev y_HT_wind : MethodName := { cls := "HazardTables", name := "wind", desc := "(IIZ)I" }
abbrev w_HT_wind : List Cond := .code y_HT_wind b_HT_wind 6 (some .int) :: WA
theorem d_HT_wind_0 : decode b_HT_wind 0 = .ok (.iload_n 1, 1) := by decide +kernel
theorem d_HT_wind_1 : decode b_HT_wind 1 = .ok (.bipush (-100), 2) := by decide +kernel
theorem d_HT_wind_3 : decode b_HT_wind 3 = .ok (.bipush 100, 2) := by decide +kernel
theorem d_HT_wind_5 : decode b_HT_wind 5 = .ok (.invokestatic 135, 3) := by decide +kernel
theorem d_HT_wind_8 : decode b_HT_wind 8 = .ok (.ifCond .ne 14, 3) := by decide +kernel
theorem d_HT_wind_11 : decode b_HT_wind 11 = .ok (.iload_n 2, 1) := by decide +kernel
theorem d_HT_wind_12 : decode b_HT_wind 12 = .ok (.bipush (-100), 2) := by decide +kernel
theorem d_HT_wind_14 : decode b_HT_wind 14 = .ok (.bipush 100, 2) := by decide +kernel
theorem d_HT_wind_16 : decode b_HT_wind 16 = .ok (.invokestatic 135, 3) := by decide +kernel
theorem d_HT_wind_19 : decode b_HT_wind 19 = .ok (.ifCond .eq 13, 3) := by decide +kernel
theorem d_HT_wind_22 : decode b_HT_wind 22 = .ok (.new 51, 3) := by decide +kernel
theorem d_HT_wind_25 : decode b_HT_wind 25 = .ok (.dup, 1) := by decide +kernel
theorem d_HT_wind_26 : decode b_HT_wind 26 = .ok (.ldc 185, 2) := by decide +kernel
theorem d_HT_wind_28 : decode b_HT_wind 28 = .ok (.invokespecial 55, 3) := by decide +kernel
theorem d_HT_wind_31 : decode b_HT_wind 31 = .ok (.athrow, 1) := by decide +kernel
theorem d_HT_wind_32 : decode b_HT_wind 32 = .ok (.iload_n 1, 1) := by decide +kernel
theorem d_HT_wind_33 : decode b_HT_wind 33 = .ok (.ifCond .ne 17, 3) := by decide +kernel
theorem d_HT_wind_36 : decode b_HT_wind 36 = .ok (.iload_n 2, 1) := by decide +kernel
theorem d_HT_wind_37 : decode b_HT_wind 37 = .ok (.ifCond .ne 13, 3) := by decide +kernel
theorem d_HT_wind_40 : decode b_HT_wind 40 = .ok (.new 51, 3) := by decide +kernel
theorem d_HT_wind_43 : decode b_HT_wind 43 = .ok (.dup, 1) := by decide +kernel
theorem d_HT_wind_44 : decode b_HT_wind 44 = .ok (.ldc 187, 2) := by decide +kernel
theorem d_HT_wind_46 : decode b_HT_wind 46 = .ok (.invokespecial 55, 3) := by decide +kernel
theorem d_HT_wind_49 : decode b_HT_wind 49 = .ok (.athrow, 1) := by decide +kernel
theorem d_HT_wind_50 : decode b_HT_wind 50 = .ok (.aload_n 0, 1) := by decide +kernel
theorem d_HT_wind_51 : decode b_HT_wind 51 = .ok (.getfield 26, 3) := by decide +kernel
theorem d_HT_wind_54 : decode b_HT_wind 54 = .ok (.aload_n 0, 1) := by decide +kernel
theorem d_HT_wind_55 : decode b_HT_wind 55 = .ok (.getfield 44, 3) := by decide +kernel
theorem d_HT_wind_58 : decode b_HT_wind 58 = .ok (.aload_n 0, 1) := by decide +kernel
theorem d_HT_wind_59 : decode b_HT_wind 59 = .ok (.getfield 33, 3) := by decide +kernel
theorem d_HT_wind_62 : decode b_HT_wind 62 = .ok (.getfield 189, 3) := by decide +kernel
theorem d_HT_wind_65 : decode b_HT_wind 65 = .ok (.invokevirtual 163, 3) := by decide +kernel
theorem d_HT_wind_68 : decode b_HT_wind 68 = .ok (.istore 4, 2) := by decide +kernel
theorem d_HT_wind_70 : decode b_HT_wind 70 = .ok (.aload_n 0, 1) := by decide +kernel
theorem d_HT_wind_71 : decode b_HT_wind 71 = .ok (.getfield 26, 3) := by decide +kernel
theorem d_HT_wind_74 : decode b_HT_wind 74 = .ok (.aload_n 0, 1) := by decide +kernel
theorem d_HT_wind_75 : decode b_HT_wind 75 = .ok (.getfield 44, 3) := by decide +kernel
theorem d_HT_wind_78 : decode b_HT_wind 78 = .ok (.iload_n 3, 1) := by decide +kernel
theorem d_HT_wind_79 : decode b_HT_wind 79 = .ok (.invokevirtual 163, 3) := by decide +kernel
theorem d_HT_wind_82 : decode b_HT_wind 82 = .ok (.istore 5, 2) := by decide +kernel
theorem d_HT_wind_84 : decode b_HT_wind 84 = .ok (.aload_n 0, 1) := by decide +kernel
theorem d_HT_wind_85 : decode b_HT_wind 85 = .ok (.getfield 33, 3) := by decide +kernel
theorem d_HT_wind_88 : decode b_HT_wind 88 = .ok (.iload_n 1, 1) := by decide +kernel
theorem d_HT_wind_89 : decode b_HT_wind 89 = .ok (.iload_n 2, 1) := by decide +kernel
theorem d_HT_wind_90 : decode b_HT_wind 90 = .ok (.iload 5, 2) := by decide +kernel
theorem d_HT_wind_92 : decode b_HT_wind 92 = .ok (.iload 4, 2) := by decide +kernel
theorem d_HT_wind_94 : decode b_HT_wind 94 = .ok (.invokevirtual 193, 3) := by decide +kernel
theorem d_HT_wind_97 : decode b_HT_wind 97 = .ok (.aload_n 0, 1) := by decide +kernel
theorem d_HT_wind_98 : decode b_HT_wind 98 = .ok (.getfield 33, 3) := by decide +kernel
theorem d_HT_wind_101 : decode b_HT_wind 101 = .ok (.iload_n 1, 1) := by decide +kernel
theorem d_HT_wind_102 : decode b_HT_wind 102 = .ok (.iload_n 2, 1) := by decide +kernel
theorem d_HT_wind_103 : decode b_HT_wind 103 = .ok (.iload_n 3, 1) := by decide +kernel
theorem d_HT_wind_104 : decode b_HT_wind 104 = .ok (.invokevirtual 197, 3) := by decide +kernel
theorem d_HT_wind_107 : decode b_HT_wind 107 = .ok (.aload_n 0, 1) := by decide +kernel
theorem d_HT_wind_108 : decode b_HT_wind 108 = .ok (.getfield 33, 3) := by decide +kernel
theorem d_HT_wind_111 : decode b_HT_wind 111 = .ok (.getfield 201, 3) := by decide +kernel
theorem d_HT_wind_114 : decode b_HT_wind 114 = .ok (.ireturn, 1) := by decide +kernel
abbrev b_HT_fresh : ByteArray := prog_1_method_14_code
abbrev y_HT_fresh : MethodName := { cls := "HazardTables", name := "fresh", desc := "(I)I" }
abbrev w_HT_fresh : List Cond := .code y_HT_fresh b_HT_fresh 2 (some .int) :: WA
theorem d_HT_fresh_0 : decode b_HT_fresh 0 = .ok (.iload_n 1, 1) := by decide +kernel
theorem d_HT_fresh_1 : decode b_HT_fresh 1 = .ok (.ifCond .ge 13, 3) := by decide +kernel
theorem d_HT_fresh_4 : decode b_HT_fresh 4 = .ok (.new 51, 3) := by decide +kernel
theorem d_HT_fresh_7 : decode b_HT_fresh 7 = .ok (.dup, 1) := by decide +kernel
theorem d_HT_fresh_8 : decode b_HT_fresh 8 = .ok (.ldc 131, 2) := by decide +kernel
theorem d_HT_fresh_10 : decode b_HT_fresh 10 = .ok (.invokespecial 55, 3) := by decide +kernel
theorem d_HT_fresh_13 : decode b_HT_fresh 13 = .ok (.athrow, 1) := by decide +kernel
theorem d_HT_fresh_14 : decode b_HT_fresh 14 = .ok (.aload_n 0, 1) := by decide +kernel
theorem d_HT_fresh_15 : decode b_HT_fresh 15 = .ok (.getfield 33, 3) := by decide +kernel
theorem d_HT_fresh_18 : decode b_HT_fresh 18 = .ok (.iload_n 1, 1) := by decide +kernel
theorem d_HT_fresh_19 : decode b_HT_fresh 19 = .ok (.invokevirtual 204, 3) := by decide +kernel
theorem d_HT_fresh_22 : decode b_HT_fresh 22 = .ok (.ireturn, 1) := by decide +kernel
abbrev b_HT_in : ByteArray := prog_1_method_15_code
abbrev y_HT_in : MethodName := { cls := "HazardTables", name := "in", desc := "(II)Z" }
abbrev w_HT_in : List Cond := .code y_HT_in b_HT_in 3 (some .boolean) :: WA
theorem d_HT_in_0 : decode b_HT_in 0 = .ok (.iload_n 1, 1) := by decide +kernel
theorem d_HT_in_1 : decode b_HT_in 1 = .ok (.iload_n 2, 1) := by decide +kernel
theorem d_HT_in_2 : decode b_HT_in 2 = .ok (.invokestatic 174, 3) := by decide +kernel
theorem d_HT_in_5 : decode b_HT_in 5 = .ok (.ifCond .eq 13, 3) := by decide +kernel
theorem d_HT_in_8 : decode b_HT_in 8 = .ok (.new 51, 3) := by decide +kernel
theorem d_HT_in_11 : decode b_HT_in 11 = .ok (.dup, 1) := by decide +kernel
theorem d_HT_in_12 : decode b_HT_in 12 = .ok (.ldc 178, 2) := by decide +kernel
theorem d_HT_in_14 : decode b_HT_in 14 = .ok (.invokespecial 55, 3) := by decide +kernel
theorem d_HT_in_17 : decode b_HT_in 17 = .ok (.athrow, 1) := by decide +kernel
theorem d_HT_in_18 : decode b_HT_in 18 = .ok (.aload_n 0, 1) := by decide +kernel
theorem d_HT_in_19 : decode b_HT_in 19 = .ok (.getfield 26, 3) := by decide +kernel
theorem d_HT_in_22 : decode b_HT_in 22 = .ok (.getfield 151, 3) := by decide +kernel
theorem d_HT_in_25 : decode b_HT_in 25 = .ok (.ifCond .ne 13, 3) := by decide +kernel
theorem d_HT_in_28 : decode b_HT_in 28 = .ok (.new 75, 3) := by decide +kernel
theorem d_HT_in_31 : decode b_HT_in 31 = .ok (.dup, 1) := by decide +kernel
theorem d_HT_in_32 : decode b_HT_in 32 = .ok (.ldc 154, 2) := by decide +kernel
theorem d_HT_in_34 : decode b_HT_in 34 = .ok (.invokespecial 79, 3) := by decide +kernel
theorem d_HT_in_37 : decode b_HT_in 37 = .ok (.athrow, 1) := by decide +kernel
theorem d_HT_in_38 : decode b_HT_in 38 = .ok (.aload_n 0, 1) := by decide +kernel
theorem d_HT_in_39 : decode b_HT_in 39 = .ok (.getfield 33, 3) := by decide +kernel
theorem d_HT_in_42 : decode b_HT_in 42 = .ok (.iload_n 1, 1) := by decide +kernel
theorem d_HT_in_43 : decode b_HT_in 43 = .ok (.iload_n 2, 1) := by decide +kernel
theorem d_HT_in_44 : decode b_HT_in 44 = .ok (.aload_n 0, 1) := by decide +kernel
theorem d_HT_in_45 : decode b_HT_in 45 = .ok (.getfield 26, 3) := by decide +kernel
theorem d_HT_in_48 : decode b_HT_in 48 = .ok (.aload_n 0, 1) := by decide +kernel
theorem d_HT_in_49 : decode b_HT_in 49 = .ok (.getfield 44, 3) := by decide +kernel
theorem d_HT_in_52 : decode b_HT_in 52 = .ok (.aload_n 0, 1) := by decide +kernel
theorem d_HT_in_53 : decode b_HT_in 53 = .ok (.getfield 33, 3) := by decide +kernel
theorem d_HT_in_56 : decode b_HT_in 56 = .ok (.getfield 189, 3) := by decide +kernel
theorem d_HT_in_59 : decode b_HT_in 59 = .ok (.invokevirtual 163, 3) := by decide +kernel
theorem d_HT_in_62 : decode b_HT_in 62 = .ok (.invokevirtual 207, 3) := by decide +kernel
theorem d_HT_in_65 : decode b_HT_in 65 = .ok (.ireturn, 1) := by decide +kernel
abbrev b_HT_step : ByteArray := prog_1_method_16_code
abbrev y_HT_step : MethodName := { cls := "HazardTables", name := "step", desc := "(I)I" }
abbrev w_HT_step : List Cond := .code y_HT_step b_HT_step 2 (some .int) :: WA
theorem d_HT_step_0 : decode b_HT_step 0 = .ok (.iload_n 1, 1) := by decide +kernel
theorem d_HT_step_1 : decode b_HT_step 1 = .ok (.iconst 1, 1) := by decide +kernel
theorem d_HT_step_2 : decode b_HT_step 2 = .ok (.bipush 6, 2) := by decide +kernel
theorem d_HT_step_4 : decode b_HT_step 4 = .ok (.invokestatic 135, 3) := by decide +kernel
theorem d_HT_step_7 : decode b_HT_step 7 = .ok (.ifCond .eq 13, 3) := by decide +kernel
theorem d_HT_step_10 : decode b_HT_step 10 = .ok (.new 51, 3) := by decide +kernel
theorem d_HT_step_13 : decode b_HT_step 13 = .ok (.dup, 1) := by decide +kernel
theorem d_HT_step_14 : decode b_HT_step 14 = .ok (.ldc 210, 2) := by decide +kernel
theorem d_HT_step_16 : decode b_HT_step 16 = .ok (.invokespecial 55, 3) := by decide +kernel
theorem d_HT_step_19 : decode b_HT_step 19 = .ok (.athrow, 1) := by decide +kernel
theorem d_HT_step_20 : decode b_HT_step 20 = .ok (.aload_n 0, 1) := by decide +kernel
theorem d_HT_step_21 : decode b_HT_step 21 = .ok (.getfield 26, 3) := by decide +kernel
theorem d_HT_step_24 : decode b_HT_step 24 = .ok (.getfield 151, 3) := by decide +kernel
theorem d_HT_step_27 : decode b_HT_step 27 = .ok (.ifCond .eq 14, 3) := by decide +kernel
theorem d_HT_step_30 : decode b_HT_step 30 = .ok (.iload_n 1, 1) := by decide +kernel
theorem d_HT_step_31 : decode b_HT_step 31 = .ok (.aload_n 0, 1) := by decide +kernel
theorem d_HT_step_32 : decode b_HT_step 32 = .ok (.getfield 26, 3) := by decide +kernel
theorem d_HT_step_35 : decode b_HT_step 35 = .ok (.getfield 212, 3) := by decide +kernel
theorem d_HT_step_38 : decode b_HT_step 38 = .ok (.if_icmp .eq 13, 3) := by decide +kernel
theorem d_HT_step_41 : decode b_HT_step 41 = .ok (.new 75, 3) := by decide +kernel
theorem d_HT_step_44 : decode b_HT_step 44 = .ok (.dup, 1) := by decide +kernel
theorem d_HT_step_45 : decode b_HT_step 45 = .ok (.ldc 215, 2) := by decide +kernel
theorem d_HT_step_47 : decode b_HT_step 47 = .ok (.invokespecial 79, 3) := by decide +kernel
theorem d_HT_step_50 : decode b_HT_step 50 = .ok (.athrow, 1) := by decide +kernel
theorem d_HT_step_51 : decode b_HT_step 51 = .ok (.aload_n 0, 1) := by decide +kernel
theorem d_HT_step_52 : decode b_HT_step 52 = .ok (.getfield 26, 3) := by decide +kernel
theorem d_HT_step_55 : decode b_HT_step 55 = .ok (.aload_n 0, 1) := by decide +kernel
theorem d_HT_step_56 : decode b_HT_step 56 = .ok (.getfield 44, 3) := by decide +kernel
theorem d_HT_step_59 : decode b_HT_step 59 = .ok (.invokevirtual 217, 3) := by decide +kernel
theorem d_HT_step_62 : decode b_HT_step 62 = .ok (.ireturn, 1) := by decide +kernel
abbrev b_HT_mark : ByteArray := prog_1_method_17_code
abbrev y_HT_mark : MethodName := { cls := "HazardTables", name := "mark", desc := "(II)V" }
abbrev w_HT_mark : List Cond := .code y_HT_mark b_HT_mark 3 none :: WA
theorem d_HT_mark_0 : decode b_HT_mark 0 = .ok (.iload_n 1, 1) := by decide +kernel
theorem d_HT_mark_1 : decode b_HT_mark 1 = .ok (.ifCond .lt 8, 3) := by decide +kernel
theorem d_HT_mark_4 : decode b_HT_mark 4 = .ok (.iload_n 1, 1) := by decide +kernel
theorem d_HT_mark_5 : decode b_HT_mark 5 = .ok (.iconst 5, 1) := by decide +kernel
theorem d_HT_mark_6 : decode b_HT_mark 6 = .ok (.if_icmp .lt 13, 3) := by decide +kernel
theorem d_HT_mark_9 : decode b_HT_mark 9 = .ok (.new 101, 3) := by decide +kernel
theorem d_HT_mark_12 : decode b_HT_mark 12 = .ok (.dup, 1) := by decide +kernel
theorem d_HT_mark_13 : decode b_HT_mark 13 = .ok (.ldc 220, 2) := by decide +kernel
theorem d_HT_mark_15 : decode b_HT_mark 15 = .ok (.invokespecial 105, 3) := by decide +kernel
theorem d_HT_mark_18 : decode b_HT_mark 18 = .ok (.athrow, 1) := by decide +kernel
theorem d_HT_mark_19 : decode b_HT_mark 19 = .ok (.iload_n 2, 1) := by decide +kernel
theorem d_HT_mark_20 : decode b_HT_mark 20 = .ok (.ifCond .ge 13, 3) := by decide +kernel
theorem d_HT_mark_23 : decode b_HT_mark 23 = .ok (.new 51, 3) := by decide +kernel
theorem d_HT_mark_26 : decode b_HT_mark 26 = .ok (.dup, 1) := by decide +kernel
theorem d_HT_mark_27 : decode b_HT_mark 27 = .ok (.ldc 222, 2) := by decide +kernel
theorem d_HT_mark_29 : decode b_HT_mark 29 = .ok (.invokespecial 55, 3) := by decide +kernel
theorem d_HT_mark_32 : decode b_HT_mark 32 = .ok (.athrow, 1) := by decide +kernel
theorem d_HT_mark_33 : decode b_HT_mark 33 = .ok (.aload_n 0, 1) := by decide +kernel
theorem d_HT_mark_34 : decode b_HT_mark 34 = .ok (.getfield 37, 3) := by decide +kernel
theorem d_HT_mark_37 : decode b_HT_mark 37 = .ok (.iload_n 1, 1) := by decide +kernel
theorem d_HT_mark_38 : decode b_HT_mark 38 = .ok (.iload_n 2, 1) := by decide +kernel
theorem d_HT_mark_39 : decode b_HT_mark 39 = .ok (.iastore, 1) := by decide +kernel
theorem d_HT_mark_40 : decode b_HT_mark 40 = .ok (.return_, 1) := by decide +kernel
abbrev b_HT_over : ByteArray := prog_1_method_18_code
abbrev y_HT_over : MethodName := { cls := "HazardTables", name := "over", desc := "(II)Z" }
abbrev w_HT_over : List Cond := .code y_HT_over b_HT_over 3 (some .boolean) :: WA
theorem d_HT_over_0 : decode b_HT_over 0 = .ok (.iload_n 1, 1) := by decide +kernel
theorem d_HT_over_1 : decode b_HT_over 1 = .ok (.ifCond .lt 8, 3) := by decide +kernel
theorem d_HT_over_4 : decode b_HT_over 4 = .ok (.iload_n 1, 1) := by decide +kernel
theorem d_HT_over_5 : decode b_HT_over 5 = .ok (.iconst 5, 1) := by decide +kernel
theorem d_HT_over_6 : decode b_HT_over 6 = .ok (.if_icmp .lt 13, 3) := by decide +kernel
theorem d_HT_over_9 : decode b_HT_over 9 = .ok (.new 101, 3) := by decide +kernel
theorem d_HT_over_12 : decode b_HT_over 12 = .ok (.dup, 1) := by decide +kernel
theorem d_HT_over_13 : decode b_HT_over 13 = .ok (.ldc 220, 2) := by decide +kernel
theorem d_HT_over_15 : decode b_HT_over 15 = .ok (.invokespecial 105, 3) := by decide +kernel
theorem d_HT_over_18 : decode b_HT_over 18 = .ok (.athrow, 1) := by decide +kernel
theorem d_HT_over_19 : decode b_HT_over 19 = .ok (.iload_n 2, 1) := by decide +kernel
theorem d_HT_over_20 : decode b_HT_over 20 = .ok (.aload_n 0, 1) := by decide +kernel
theorem d_HT_over_21 : decode b_HT_over 21 = .ok (.getfield 37, 3) := by decide +kernel
theorem d_HT_over_24 : decode b_HT_over 24 = .ok (.iload_n 1, 1) := by decide +kernel
theorem d_HT_over_25 : decode b_HT_over 25 = .ok (.iaload, 1) := by decide +kernel
theorem d_HT_over_26 : decode b_HT_over 26 = .ok (.if_icmp .lt 7, 3) := by decide +kernel
theorem d_HT_over_29 : decode b_HT_over 29 = .ok (.iconst 1, 1) := by decide +kernel
theorem d_HT_over_30 : decode b_HT_over 30 = .ok (.goto 4, 3) := by decide +kernel
theorem d_HT_over_33 : decode b_HT_over 33 = .ok (.iconst 0, 1) := by decide +kernel
theorem d_HT_over_34 : decode b_HT_over 34 = .ok (.ireturn, 1) := by decide +kernel
