abbrev b_Law_sign : ByteArray := method_3_code
abbrev y_Law_sign : MethodName := { cls := "HazardTablesLaw", name := "sign", desc := "(LHazardTables;JI[J)I" }
theorem d_Law_sign_0 : decode b_Law_sign 0 = .ok (.aload 4, 2) := by decide +kernel
theorem d_Law_sign_2 : decode b_Law_sign 2 = .ok (.iconst 0, 1) := by decide +kernel
theorem d_Law_sign_3 : decode b_Law_sign 3 = .ok (.aload_n 0, 1) := by decide +kernel
theorem d_Law_sign_4 : decode b_Law_sign 4 = .ok (.lload_n 1, 1) := by decide +kernel
theorem d_Law_sign_5 : decode b_Law_sign 5 = .ok (.iload_n 3, 1) := by decide +kernel
theorem d_Law_sign_6 : decode b_Law_sign 6 = .ok (.invokevirtual 7, 3) := by decide +kernel
theorem d_Law_sign_9 : decode b_Law_sign 9 = .ok (.i2l, 1) := by decide +kernel
theorem d_Law_sign_10 : decode b_Law_sign 10 = .ok (.lastore, 1) := by decide +kernel
theorem d_Law_sign_11 : decode b_Law_sign 11 = .ok (.goto 11, 3) := by decide +kernel
theorem d_Law_sign_14 : decode b_Law_sign 14 = .ok (.astore 5, 2) := by decide +kernel
theorem d_Law_sign_16 : decode b_Law_sign 16 = .ok (.iconst 1, 1) := by decide +kernel
theorem d_Law_sign_17 : decode b_Law_sign 17 = .ok (.ireturn, 1) := by decide +kernel
theorem d_Law_sign_18 : decode b_Law_sign 18 = .ok (.astore 5, 2) := by decide +kernel
theorem d_Law_sign_20 : decode b_Law_sign 20 = .ok (.iconst 2, 1) := by decide +kernel
theorem d_Law_sign_21 : decode b_Law_sign 21 = .ok (.ireturn, 1) := by decide +kernel
theorem d_Law_sign_22 : decode b_Law_sign 22 = .ok (.iconst 0, 1) := by decide +kernel
theorem d_Law_sign_23 : decode b_Law_sign 23 = .ok (.ireturn, 1) := by decide +kernel
abbrev b_Law_read : ByteArray := method_4_code
abbrev y_Law_read : MethodName := { cls := "HazardTablesLaw", name := "read", desc := "(LHazardTables;[J)I" }
theorem d_Law_read_0 : decode b_Law_read 0 = .ok (.aload_n 1, 1) := by decide +kernel
theorem d_Law_read_1 : decode b_Law_read 1 = .ok (.iconst 0, 1) := by decide +kernel
theorem d_Law_read_2 : decode b_Law_read 2 = .ok (.aload_n 0, 1) := by decide +kernel
theorem d_Law_read_3 : decode b_Law_read 3 = .ok (.invokevirtual 17, 3) := by decide +kernel
theorem d_Law_read_6 : decode b_Law_read 6 = .ok (.i2l, 1) := by decide +kernel
theorem d_Law_read_7 : decode b_Law_read 7 = .ok (.lastore, 1) := by decide +kernel
theorem d_Law_read_8 : decode b_Law_read 8 = .ok (.goto 6, 3) := by decide +kernel
theorem d_Law_read_11 : decode b_Law_read 11 = .ok (.astore_n 2, 1) := by decide +kernel
theorem d_Law_read_12 : decode b_Law_read 12 = .ok (.iconst 1, 1) := by decide +kernel
theorem d_Law_read_13 : decode b_Law_read 13 = .ok (.ireturn, 1) := by decide +kernel
theorem d_Law_read_14 : decode b_Law_read 14 = .ok (.iconst 0, 1) := by decide +kernel
theorem d_Law_read_15 : decode b_Law_read 15 = .ok (.ireturn, 1) := by decide +kernel
abbrev b_Law_material : ByteArray := method_5_code
abbrev y_Law_material : MethodName := { cls := "HazardTablesLaw", name := "material", desc := "(LHazardTables;II[J)I" }
theorem d_Law_material_0 : decode b_Law_material 0 = .ok (.aload_n 3, 1) := by decide +kernel
theorem d_Law_material_1 : decode b_Law_material 1 = .ok (.iconst 0, 1) := by decide +kernel
theorem d_Law_material_2 : decode b_Law_material 2 = .ok (.aload_n 0, 1) := by decide +kernel
theorem d_Law_material_3 : decode b_Law_material 3 = .ok (.iload_n 1, 1) := by decide +kernel
theorem d_Law_material_4 : decode b_Law_material 4 = .ok (.iload_n 2, 1) := by decide +kernel
theorem d_Law_material_5 : decode b_Law_material 5 = .ok (.invokevirtual 23, 3) := by decide +kernel
theorem d_Law_material_8 : decode b_Law_material 8 = .ok (.i2l, 1) := by decide +kernel
theorem d_Law_material_9 : decode b_Law_material 9 = .ok (.lastore, 1) := by decide +kernel
theorem d_Law_material_10 : decode b_Law_material 10 = .ok (.goto 7, 3) := by decide +kernel
theorem d_Law_material_13 : decode b_Law_material 13 = .ok (.astore 4, 2) := by decide +kernel
theorem d_Law_material_15 : decode b_Law_material 15 = .ok (.iconst 1, 1) := by decide +kernel
theorem d_Law_material_16 : decode b_Law_material 16 = .ok (.ireturn, 1) := by decide +kernel
theorem d_Law_material_17 : decode b_Law_material 17 = .ok (.iconst 0, 1) := by decide +kernel
theorem d_Law_material_18 : decode b_Law_material 18 = .ok (.ireturn, 1) := by decide +kernel
abbrev b_Law_say : ByteArray := method_6_code
abbrev y_Law_say : MethodName := { cls := "HazardTablesLaw", name := "say", desc := "(LHazardTables;JI[J)I" }
theorem d_Law_say_0 : decode b_Law_say 0 = .ok (.aload 4, 2) := by decide +kernel
theorem d_Law_say_2 : decode b_Law_say 2 = .ok (.iconst 0, 1) := by decide +kernel
theorem d_Law_say_3 : decode b_Law_say 3 = .ok (.aload_n 0, 1) := by decide +kernel
theorem d_Law_say_4 : decode b_Law_say 4 = .ok (.lload_n 1, 1) := by decide +kernel
theorem d_Law_say_5 : decode b_Law_say 5 = .ok (.iload_n 3, 1) := by decide +kernel
theorem d_Law_say_6 : decode b_Law_say 6 = .ok (.invokevirtual 29, 3) := by decide +kernel
theorem d_Law_say_9 : decode b_Law_say 9 = .ok (.i2l, 1) := by decide +kernel
theorem d_Law_say_10 : decode b_Law_say 10 = .ok (.lastore, 1) := by decide +kernel
theorem d_Law_say_11 : decode b_Law_say 11 = .ok (.goto 11, 3) := by decide +kernel
theorem d_Law_say_14 : decode b_Law_say 14 = .ok (.astore 5, 2) := by decide +kernel
theorem d_Law_say_16 : decode b_Law_say 16 = .ok (.iconst 1, 1) := by decide +kernel
theorem d_Law_say_17 : decode b_Law_say 17 = .ok (.ireturn, 1) := by decide +kernel
theorem d_Law_say_18 : decode b_Law_say 18 = .ok (.astore 5, 2) := by decide +kernel
theorem d_Law_say_20 : decode b_Law_say 20 = .ok (.iconst 2, 1) := by decide +kernel
theorem d_Law_say_21 : decode b_Law_say 21 = .ok (.ireturn, 1) := by decide +kernel
theorem d_Law_say_22 : decode b_Law_say 22 = .ok (.iconst 0, 1) := by decide +kernel
theorem d_Law_say_23 : decode b_Law_say 23 = .ok (.ireturn, 1) := by decide +kernel
abbrev b_Law_near : ByteArray := method_7_code
abbrev y_Law_near : MethodName := { cls := "HazardTablesLaw", name := "near", desc := "(LHazardTables;I[J)I" }
theorem d_Law_near_0 : decode b_Law_near 0 = .ok (.aload_n 2, 1) := by decide +kernel
theorem d_Law_near_1 : decode b_Law_near 1 = .ok (.iconst 0, 1) := by decide +kernel
theorem d_Law_near_2 : decode b_Law_near 2 = .ok (.aload_n 0, 1) := by decide +kernel
theorem d_Law_near_3 : decode b_Law_near 3 = .ok (.iload_n 1, 1) := by decide +kernel
theorem d_Law_near_4 : decode b_Law_near 4 = .ok (.invokevirtual 32, 3) := by decide +kernel
theorem d_Law_near_7 : decode b_Law_near 7 = .ok (.i2l, 1) := by decide +kernel
theorem d_Law_near_8 : decode b_Law_near 8 = .ok (.lastore, 1) := by decide +kernel
theorem d_Law_near_9 : decode b_Law_near 9 = .ok (.goto 6, 3) := by decide +kernel
theorem d_Law_near_12 : decode b_Law_near 12 = .ok (.astore_n 3, 1) := by decide +kernel
theorem d_Law_near_13 : decode b_Law_near 13 = .ok (.iconst 1, 1) := by decide +kernel
theorem d_Law_near_14 : decode b_Law_near 14 = .ok (.ireturn, 1) := by decide +kernel
theorem d_Law_near_15 : decode b_Law_near 15 = .ok (.iconst 0, 1) := by decide +kernel
theorem d_Law_near_16 : decode b_Law_near 16 = .ok (.ireturn, 1) := by decide +kernel
abbrev b_Law_add : ByteArray := method_8_code
abbrev y_Law_add : MethodName := { cls := "HazardTablesLaw", name := "add", desc := "(LHazardTables;II[J)I" }
theorem d_Law_add_0 : decode b_Law_add 0 = .ok (.aload_n 3, 1) := by decide +kernel
theorem d_Law_add_1 : decode b_Law_add 1 = .ok (.iconst 0, 1) := by decide +kernel
theorem d_Law_add_2 : decode b_Law_add 2 = .ok (.aload_n 0, 1) := by decide +kernel
theorem d_Law_add_3 : decode b_Law_add 3 = .ok (.iload_n 1, 1) := by decide +kernel
theorem d_Law_add_4 : decode b_Law_add 4 = .ok (.iload_n 2, 1) := by decide +kernel
theorem d_Law_add_5 : decode b_Law_add 5 = .ok (.invokevirtual 36, 3) := by decide +kernel
theorem d_Law_add_8 : decode b_Law_add 8 = .ok (.i2l, 1) := by decide +kernel
theorem d_Law_add_9 : decode b_Law_add 9 = .ok (.lastore, 1) := by decide +kernel
theorem d_Law_add_10 : decode b_Law_add 10 = .ok (.goto 15, 3) := by decide +kernel
theorem d_Law_add_13 : decode b_Law_add 13 = .ok (.astore 4, 2) := by decide +kernel
theorem d_Law_add_15 : decode b_Law_add 15 = .ok (.iconst 1, 1) := by decide +kernel
theorem d_Law_add_16 : decode b_Law_add 16 = .ok (.ireturn, 1) := by decide +kernel
theorem d_Law_add_17 : decode b_Law_add 17 = .ok (.astore 4, 2) := by decide +kernel
theorem d_Law_add_19 : decode b_Law_add 19 = .ok (.iconst 2, 1) := by decide +kernel
theorem d_Law_add_20 : decode b_Law_add 20 = .ok (.ireturn, 1) := by decide +kernel
theorem d_Law_add_21 : decode b_Law_add 21 = .ok (.astore 4, 2) := by decide +kernel
theorem d_Law_add_23 : decode b_Law_add 23 = .ok (.iconst 3, 1) := by decide +kernel
theorem d_Law_add_24 : decode b_Law_add 24 = .ok (.ireturn, 1) := by decide +kernel
theorem d_Law_add_25 : decode b_Law_add 25 = .ok (.iconst 0, 1) := by decide +kernel
theorem d_Law_add_26 : decode b_Law_add 26 = .ok (.ireturn, 1) := by decide +kernel
abbrev b_Law_mixture : ByteArray := method_9_code
abbrev y_Law_mixture : MethodName := { cls := "HazardTablesLaw", name := "mixture", desc := "(LHazardTables;I[J)I" }
theorem d_Law_mixture_0 : decode b_Law_mixture 0 = .ok (.aload_n 2, 1) := by decide +kernel
theorem d_Law_mixture_1 : decode b_Law_mixture 1 = .ok (.iconst 0, 1) := by decide +kernel
theorem d_Law_mixture_2 : decode b_Law_mixture 2 = .ok (.aload_n 0, 1) := by decide +kernel
theorem d_Law_mixture_3 : decode b_Law_mixture 3 = .ok (.iload_n 1, 1) := by decide +kernel
theorem d_Law_mixture_4 : decode b_Law_mixture 4 = .ok (.invokevirtual 39, 3) := by decide +kernel
theorem d_Law_mixture_7 : decode b_Law_mixture 7 = .ok (.i2l, 1) := by decide +kernel
theorem d_Law_mixture_8 : decode b_Law_mixture 8 = .ok (.lastore, 1) := by decide +kernel
theorem d_Law_mixture_9 : decode b_Law_mixture 9 = .ok (.goto 9, 3) := by decide +kernel
theorem d_Law_mixture_12 : decode b_Law_mixture 12 = .ok (.astore_n 3, 1) := by decide +kernel
theorem d_Law_mixture_13 : decode b_Law_mixture 13 = .ok (.iconst 1, 1) := by decide +kernel
theorem d_Law_mixture_14 : decode b_Law_mixture 14 = .ok (.ireturn, 1) := by decide +kernel
theorem d_Law_mixture_15 : decode b_Law_mixture 15 = .ok (.astore_n 3, 1) := by decide +kernel
theorem d_Law_mixture_16 : decode b_Law_mixture 16 = .ok (.iconst 2, 1) := by decide +kernel
theorem d_Law_mixture_17 : decode b_Law_mixture 17 = .ok (.ireturn, 1) := by decide +kernel
theorem d_Law_mixture_18 : decode b_Law_mixture 18 = .ok (.iconst 0, 1) := by decide +kernel
theorem d_Law_mixture_19 : decode b_Law_mixture 19 = .ok (.ireturn, 1) := by decide +kernel
abbrev b_Law_strict : ByteArray := method_10_code
abbrev y_Law_strict : MethodName := { cls := "HazardTablesLaw", name := "strict", desc := "(LHazardTables;I[J)I" }
theorem d_Law_strict_0 : decode b_Law_strict 0 = .ok (.aload_n 2, 1) := by decide +kernel
theorem d_Law_strict_1 : decode b_Law_strict 1 = .ok (.iconst 0, 1) := by decide +kernel
theorem d_Law_strict_2 : decode b_Law_strict 2 = .ok (.aload_n 0, 1) := by decide +kernel
theorem d_Law_strict_3 : decode b_Law_strict 3 = .ok (.iload_n 1, 1) := by decide +kernel
theorem d_Law_strict_4 : decode b_Law_strict 4 = .ok (.invokevirtual 42, 3) := by decide +kernel
theorem d_Law_strict_7 : decode b_Law_strict 7 = .ok (.i2l, 1) := by decide +kernel
theorem d_Law_strict_8 : decode b_Law_strict 8 = .ok (.lastore, 1) := by decide +kernel
theorem d_Law_strict_9 : decode b_Law_strict 9 = .ok (.goto 6, 3) := by decide +kernel
theorem d_Law_strict_12 : decode b_Law_strict 12 = .ok (.astore_n 3, 1) := by decide +kernel
theorem d_Law_strict_13 : decode b_Law_strict 13 = .ok (.iconst 1, 1) := by decide +kernel
theorem d_Law_strict_14 : decode b_Law_strict 14 = .ok (.ireturn, 1) := by decide +kernel
theorem d_Law_strict_15 : decode b_Law_strict 15 = .ok (.iconst 0, 1) := by decide +kernel
theorem d_Law_strict_16 : decode b_Law_strict 16 = .ok (.ireturn, 1) := by decide +kernel
abbrev b_Law_building : ByteArray := method_11_code
abbrev y_Law_building : MethodName := { cls := "HazardTablesLaw", name := "building", desc := "(LHazardTables;II[J)I" }
theorem d_Law_building_0 : decode b_Law_building 0 = .ok (.aload_n 3, 1) := by decide +kernel
theorem d_Law_building_1 : decode b_Law_building 1 = .ok (.iconst 0, 1) := by decide +kernel
theorem d_Law_building_2 : decode b_Law_building 2 = .ok (.aload_n 0, 1) := by decide +kernel
theorem d_Law_building_3 : decode b_Law_building 3 = .ok (.iload_n 1, 1) := by decide +kernel
theorem d_Law_building_4 : decode b_Law_building 4 = .ok (.iload_n 2, 1) := by decide +kernel
theorem d_Law_building_5 : decode b_Law_building 5 = .ok (.invokevirtual 45, 3) := by decide +kernel
theorem d_Law_building_8 : decode b_Law_building 8 = .ok (.i2l, 1) := by decide +kernel
theorem d_Law_building_9 : decode b_Law_building 9 = .ok (.lastore, 1) := by decide +kernel
theorem d_Law_building_10 : decode b_Law_building 10 = .ok (.goto 11, 3) := by decide +kernel
theorem d_Law_building_13 : decode b_Law_building 13 = .ok (.astore 4, 2) := by decide +kernel
theorem d_Law_building_15 : decode b_Law_building 15 = .ok (.iconst 1, 1) := by decide +kernel
theorem d_Law_building_16 : decode b_Law_building 16 = .ok (.ireturn, 1) := by decide +kernel
theorem d_Law_building_17 : decode b_Law_building 17 = .ok (.astore 4, 2) := by decide +kernel
theorem d_Law_building_19 : decode b_Law_building 19 = .ok (.iconst 2, 1) := by decide +kernel
theorem d_Law_building_20 : decode b_Law_building 20 = .ok (.ireturn, 1) := by decide +kernel
theorem d_Law_building_21 : decode b_Law_building 21 = .ok (.iconst 0, 1) := by decide +kernel
theorem d_Law_building_22 : decode b_Law_building 22 = .ok (.ireturn, 1) := by decide +kernel
abbrev b_Law_wind : ByteArray := method_12_code
abbrev y_Law_wind : MethodName := { cls := "HazardTablesLaw", name := "wind", desc := "(LHazardTables;IIZ[J)I" }
theorem d_Law_wind_0 : decode b_Law_wind 0 = .ok (.aload 4, 2) := by decide +kernel
theorem d_Law_wind_2 : decode b_Law_wind 2 = .ok (.iconst 0, 1) := by decide +kernel
theorem d_Law_wind_3 : decode b_Law_wind 3 = .ok (.aload_n 0, 1) := by decide +kernel
theorem d_Law_wind_4 : decode b_Law_wind 4 = .ok (.iload_n 1, 1) := by decide +kernel
theorem d_Law_wind_5 : decode b_Law_wind 5 = .ok (.iload_n 2, 1) := by decide +kernel
theorem d_Law_wind_6 : decode b_Law_wind 6 = .ok (.iload_n 3, 1) := by decide +kernel
theorem d_Law_wind_7 : decode b_Law_wind 7 = .ok (.invokevirtual 48, 3) := by decide +kernel
theorem d_Law_wind_10 : decode b_Law_wind 10 = .ok (.i2l, 1) := by decide +kernel
theorem d_Law_wind_11 : decode b_Law_wind 11 = .ok (.lastore, 1) := by decide +kernel
theorem d_Law_wind_12 : decode b_Law_wind 12 = .ok (.goto 7, 3) := by decide +kernel
theorem d_Law_wind_15 : decode b_Law_wind 15 = .ok (.astore 5, 2) := by decide +kernel
theorem d_Law_wind_17 : decode b_Law_wind 17 = .ok (.iconst 1, 1) := by decide +kernel
theorem d_Law_wind_18 : decode b_Law_wind 18 = .ok (.ireturn, 1) := by decide +kernel
theorem d_Law_wind_19 : decode b_Law_wind 19 = .ok (.iconst 0, 1) := by decide +kernel
theorem d_Law_wind_20 : decode b_Law_wind 20 = .ok (.ireturn, 1) := by decide +kernel
abbrev b_Law_fresh : ByteArray := method_13_code
abbrev y_Law_fresh : MethodName := { cls := "HazardTablesLaw", name := "fresh", desc := "(LHazardTables;I[J)I" }
theorem d_Law_fresh_0 : decode b_Law_fresh 0 = .ok (.aload_n 2, 1) := by decide +kernel
theorem d_Law_fresh_1 : decode b_Law_fresh 1 = .ok (.iconst 0, 1) := by decide +kernel
theorem d_Law_fresh_2 : decode b_Law_fresh 2 = .ok (.aload_n 0, 1) := by decide +kernel
theorem d_Law_fresh_3 : decode b_Law_fresh 3 = .ok (.iload_n 1, 1) := by decide +kernel
theorem d_Law_fresh_4 : decode b_Law_fresh 4 = .ok (.invokevirtual 52, 3) := by decide +kernel
theorem d_Law_fresh_7 : decode b_Law_fresh 7 = .ok (.i2l, 1) := by decide +kernel
theorem d_Law_fresh_8 : decode b_Law_fresh 8 = .ok (.lastore, 1) := by decide +kernel
theorem d_Law_fresh_9 : decode b_Law_fresh 9 = .ok (.goto 6, 3) := by decide +kernel
theorem d_Law_fresh_12 : decode b_Law_fresh 12 = .ok (.astore_n 3, 1) := by decide +kernel
theorem d_Law_fresh_13 : decode b_Law_fresh 13 = .ok (.iconst 1, 1) := by decide +kernel
theorem d_Law_fresh_14 : decode b_Law_fresh 14 = .ok (.ireturn, 1) := by decide +kernel
theorem d_Law_fresh_15 : decode b_Law_fresh 15 = .ok (.iconst 0, 1) := by decide +kernel
theorem d_Law_fresh_16 : decode b_Law_fresh 16 = .ok (.ireturn, 1) := by decide +kernel
abbrev b_Law_in : ByteArray := method_14_code
abbrev y_Law_in : MethodName := { cls := "HazardTablesLaw", name := "in", desc := "(LHazardTables;II[J)I" }
theorem d_Law_in_0 : decode b_Law_in 0 = .ok (.aload_n 3, 1) := by decide +kernel
theorem d_Law_in_1 : decode b_Law_in 1 = .ok (.iconst 0, 1) := by decide +kernel
theorem d_Law_in_2 : decode b_Law_in 2 = .ok (.aload_n 0, 1) := by decide +kernel
theorem d_Law_in_3 : decode b_Law_in 3 = .ok (.iload_n 1, 1) := by decide +kernel
theorem d_Law_in_4 : decode b_Law_in 4 = .ok (.iload_n 2, 1) := by decide +kernel
theorem d_Law_in_5 : decode b_Law_in 5 = .ok (.invokevirtual 55, 3) := by decide +kernel
theorem d_Law_in_8 : decode b_Law_in 8 = .ok (.ifCond .eq 7, 3) := by decide +kernel
theorem d_Law_in_11 : decode b_Law_in 11 = .ok (.lconst 1, 1) := by decide +kernel
theorem d_Law_in_12 : decode b_Law_in 12 = .ok (.goto 4, 3) := by decide +kernel
theorem d_Law_in_15 : decode b_Law_in 15 = .ok (.lconst 0, 1) := by decide +kernel
theorem d_Law_in_16 : decode b_Law_in 16 = .ok (.lastore, 1) := by decide +kernel
theorem d_Law_in_17 : decode b_Law_in 17 = .ok (.goto 11, 3) := by decide +kernel
theorem d_Law_in_20 : decode b_Law_in 20 = .ok (.astore 4, 2) := by decide +kernel
theorem d_Law_in_22 : decode b_Law_in 22 = .ok (.iconst 1, 1) := by decide +kernel
theorem d_Law_in_23 : decode b_Law_in 23 = .ok (.ireturn, 1) := by decide +kernel
theorem d_Law_in_24 : decode b_Law_in 24 = .ok (.astore 4, 2) := by decide +kernel
theorem d_Law_in_26 : decode b_Law_in 26 = .ok (.iconst 2, 1) := by decide +kernel
theorem d_Law_in_27 : decode b_Law_in 27 = .ok (.ireturn, 1) := by decide +kernel
theorem d_Law_in_28 : decode b_Law_in 28 = .ok (.iconst 0, 1) := by decide +kernel
theorem d_Law_in_29 : decode b_Law_in 29 = .ok (.ireturn, 1) := by decide +kernel
abbrev b_Law_step : ByteArray := method_15_code
abbrev y_Law_step : MethodName := { cls := "HazardTablesLaw", name := "step", desc := "(LHazardTables;I[J)I" }
theorem d_Law_step_0 : decode b_Law_step 0 = .ok (.aload_n 2, 1) := by decide +kernel
theorem d_Law_step_1 : decode b_Law_step 1 = .ok (.iconst 0, 1) := by decide +kernel
theorem d_Law_step_2 : decode b_Law_step 2 = .ok (.aload_n 0, 1) := by decide +kernel
theorem d_Law_step_3 : decode b_Law_step 3 = .ok (.iload_n 1, 1) := by decide +kernel
theorem d_Law_step_4 : decode b_Law_step 4 = .ok (.invokevirtual 59, 3) := by decide +kernel
theorem d_Law_step_7 : decode b_Law_step 7 = .ok (.i2l, 1) := by decide +kernel
theorem d_Law_step_8 : decode b_Law_step 8 = .ok (.lastore, 1) := by decide +kernel
theorem d_Law_step_9 : decode b_Law_step 9 = .ok (.goto 9, 3) := by decide +kernel
theorem d_Law_step_12 : decode b_Law_step 12 = .ok (.astore_n 3, 1) := by decide +kernel
theorem d_Law_step_13 : decode b_Law_step 13 = .ok (.iconst 1, 1) := by decide +kernel
theorem d_Law_step_14 : decode b_Law_step 14 = .ok (.ireturn, 1) := by decide +kernel
theorem d_Law_step_15 : decode b_Law_step 15 = .ok (.astore_n 3, 1) := by decide +kernel
theorem d_Law_step_16 : decode b_Law_step 16 = .ok (.iconst 2, 1) := by decide +kernel
theorem d_Law_step_17 : decode b_Law_step 17 = .ok (.ireturn, 1) := by decide +kernel
theorem d_Law_step_18 : decode b_Law_step 18 = .ok (.iconst 0, 1) := by decide +kernel
theorem d_Law_step_19 : decode b_Law_step 19 = .ok (.ireturn, 1) := by decide +kernel
abbrev b_Law_mark : ByteArray := method_16_code
abbrev y_Law_mark : MethodName := { cls := "HazardTablesLaw", name := "mark", desc := "(LHazardTables;II)I" }
theorem d_Law_mark_0 : decode b_Law_mark 0 = .ok (.aload_n 0, 1) := by decide +kernel
theorem d_Law_mark_1 : decode b_Law_mark 1 = .ok (.iload_n 1, 1) := by decide +kernel
theorem d_Law_mark_2 : decode b_Law_mark 2 = .ok (.iload_n 2, 1) := by decide +kernel
theorem d_Law_mark_3 : decode b_Law_mark 3 = .ok (.invokevirtual 62, 3) := by decide +kernel
theorem d_Law_mark_6 : decode b_Law_mark 6 = .ok (.goto 9, 3) := by decide +kernel
theorem d_Law_mark_9 : decode b_Law_mark 9 = .ok (.astore_n 3, 1) := by decide +kernel
theorem d_Law_mark_10 : decode b_Law_mark 10 = .ok (.iconst 1, 1) := by decide +kernel
theorem d_Law_mark_11 : decode b_Law_mark 11 = .ok (.ireturn, 1) := by decide +kernel
theorem d_Law_mark_12 : decode b_Law_mark 12 = .ok (.astore_n 3, 1) := by decide +kernel
theorem d_Law_mark_13 : decode b_Law_mark 13 = .ok (.iconst 2, 1) := by decide +kernel
theorem d_Law_mark_14 : decode b_Law_mark 14 = .ok (.ireturn, 1) := by decide +kernel
theorem d_Law_mark_15 : decode b_Law_mark 15 = .ok (.iconst 0, 1) := by decide +kernel
theorem d_Law_mark_16 : decode b_Law_mark 16 = .ok (.ireturn, 1) := by decide +kernel
abbrev b_Law_over : ByteArray := method_17_code
abbrev y_Law_over : MethodName := { cls := "HazardTablesLaw", name := "over", desc := "(LHazardTables;II[J)I" }
theorem d_Law_over_0 : decode b_Law_over 0 = .ok (.aload_n 3, 1) := by decide +kernel
theorem d_Law_over_1 : decode b_Law_over 1 = .ok (.iconst 0, 1) := by decide +kernel
theorem d_Law_over_2 : decode b_Law_over 2 = .ok (.aload_n 0, 1) := by decide +kernel
theorem d_Law_over_3 : decode b_Law_over 3 = .ok (.iload_n 1, 1) := by decide +kernel
theorem d_Law_over_4 : decode b_Law_over 4 = .ok (.iload_n 2, 1) := by decide +kernel
theorem d_Law_over_5 : decode b_Law_over 5 = .ok (.invokevirtual 66, 3) := by decide +kernel
theorem d_Law_over_8 : decode b_Law_over 8 = .ok (.ifCond .eq 7, 3) := by decide +kernel
theorem d_Law_over_11 : decode b_Law_over 11 = .ok (.lconst 1, 1) := by decide +kernel
theorem d_Law_over_12 : decode b_Law_over 12 = .ok (.goto 4, 3) := by decide +kernel
theorem d_Law_over_15 : decode b_Law_over 15 = .ok (.lconst 0, 1) := by decide +kernel
theorem d_Law_over_16 : decode b_Law_over 16 = .ok (.lastore, 1) := by decide +kernel
theorem d_Law_over_17 : decode b_Law_over 17 = .ok (.goto 7, 3) := by decide +kernel
theorem d_Law_over_20 : decode b_Law_over 20 = .ok (.astore 4, 2) := by decide +kernel
theorem d_Law_over_22 : decode b_Law_over 22 = .ok (.iconst 1, 1) := by decide +kernel
theorem d_Law_over_23 : decode b_Law_over 23 = .ok (.ireturn, 1) := by decide +kernel
theorem d_Law_over_24 : decode b_Law_over 24 = .ok (.iconst 0, 1) := by decide +kernel
theorem d_Law_over_25 : decode b_Law_over 25 = .ok (.ireturn, 1) := by decide +kernel
abbrev w_Law_sign : List Cond := .codeWith y_Law_sign b_Law_sign 6 (some .int) [(0, 11, 14, 13), (0, 11, 18, 15)] :: WA
abbrev w_Law_read : List Cond := .codeWith y_Law_read b_Law_read 3 (some .int) [(0, 8, 11, 21)] :: WA
abbrev w_Law_material : List Cond := .codeWith y_Law_material b_Law_material 5 (some .int) [(0, 10, 13, 27)] :: WA
abbrev w_Law_say : List Cond := .codeWith y_Law_say b_Law_say 6 (some .int) [(0, 11, 14, 13), (0, 11, 18, 21)] :: WA
abbrev w_Law_near : List Cond := .codeWith y_Law_near b_Law_near 4 (some .int) [(0, 9, 12, 13)] :: WA
abbrev w_Law_add : List Cond := .codeWith y_Law_add b_Law_add 5 (some .int) [(0, 10, 13, 27), (0, 10, 17, 13), (0, 10, 21, 15)] :: WA
abbrev w_Law_mixture : List Cond := .codeWith y_Law_mixture b_Law_mixture 4 (some .int) [(0, 9, 12, 27), (0, 9, 15, 21)] :: WA
abbrev w_Law_strict : List Cond := .codeWith y_Law_strict b_Law_strict 4 (some .int) [(0, 9, 12, 13)] :: WA
abbrev w_Law_building : List Cond := .codeWith y_Law_building b_Law_building 5 (some .int) [(0, 10, 13, 13), (0, 10, 17, 15)] :: WA
abbrev w_Law_wind : List Cond := .codeWith y_Law_wind b_Law_wind 6 (some .int) [(0, 12, 15, 13)] :: WA
abbrev w_Law_fresh : List Cond := .codeWith y_Law_fresh b_Law_fresh 4 (some .int) [(0, 9, 12, 13)] :: WA
abbrev w_Law_in : List Cond := .codeWith y_Law_in b_Law_in 5 (some .int) [(0, 17, 20, 13), (0, 17, 24, 21)] :: WA
abbrev w_Law_step : List Cond := .codeWith y_Law_step b_Law_step 4 (some .int) [(0, 9, 12, 13), (0, 9, 15, 21)] :: WA
abbrev w_Law_mark : List Cond := .codeWith y_Law_mark b_Law_mark 4 (some .int) [(0, 6, 9, 27), (0, 6, 12, 13)] :: WA
abbrev w_Law_over : List Cond := .codeWith y_Law_over b_Law_over 5 (some .int) [(0, 17, 20, 27)] :: WA
