theorem ex_declares : goodWord (Jvm.Cond.declares ({ cls := "java/lang/RuntimeException", name := "<init>", desc := "()V" } : Jvm.MethodName)) = true := rfl
theorem ex_castable : goodWord (Jvm.Cond.castable "java/lang/IndexOutOfBoundsException" "java/lang/IndexOutOfBoundsException") = true := rfl
theorem ex_privateMethod : goodWord (Jvm.Cond.privateMethod ({ cls := "java/lang/Throwable", name := "fillInStackTrace", desc := "(I)Ljava/lang/Throwable;" } : Jvm.MethodName)) = true := rfl
theorem ex_native : goodWord (Jvm.Cond.native ({ cls := "java/lang/Throwable", name := "fillInStackTrace", desc := "(I)Ljava/lang/Throwable;" } : Jvm.MethodName)) = true := rfl
theorem ex_superclass : goodWord (Jvm.Cond.superclass "HazardTables$Reader" "java/lang/Object") = true := rfl
theorem ex_soleField : goodWord (Jvm.Cond.soleField "HazardTables$Reader" "tape") = true := rfl
theorem ex_laysStatic : goodWord (Jvm.Cond.laysStatic "java/lang/Throwable" "UNASSIGNED_STACK" "[Ljava/lang/StackTraceElement;") = true := rfl
theorem ex_stringRef : goodWord (Jvm.Cond.stringRef "HazardTables" (53 : Nat) "n is not 1 .. 8") = true := rfl
theorem ex_codeSync : goodWord (Jvm.Cond.codeSync ({ cls := "java/lang/Throwable", name := "fillInStackTrace", desc := "()Ljava/lang/Throwable;" } : Jvm.MethodName) prog_16_method_18_code (1 : Nat) (Option.some (Jvm.ClassFile.FieldType.object "java/lang/Throwable"))) = true := rfl
theorem ex_codeWith : goodWord (Jvm.Cond.codeWith ({ cls := "HazardTablesLaw", name := "sign", desc := "(LHazardTables;JI[J)I" } : Jvm.MethodName) method_3_code (6 : Nat) (Option.some Jvm.ClassFile.FieldType.int) [((0 : Nat), (11 : Nat), (14 : Nat), (13 : Nat)), ((0 : Nat), (11 : Nat), (18 : Nat), (15 : Nat))]) = true := rfl
theorem ex_methodLinkNest : goodWord (Jvm.Cond.methodLinkNest "HazardTables$Reader" (22 : Nat) ({ cls := "HazardTables", name := "byteOf", desc := "(JI)I" } : Jvm.MethodName) "HazardTables") = true := rfl
theorem ex_sameMethod : goodWord (Jvm.Cond.sameMethod "java/lang/Throwable" "java/lang/Throwable" "fillInStackTrace" "()Ljava/lang/Throwable;") = true := rfl
theorem ex_constant : goodWord (Jvm.Cond.constant "HazardTables" (139 : Nat) (100000 : Int32)) = true := rfl
theorem ex_constantLong : goodWord (Jvm.Cond.constantLong "HazardTablesModel" (174 : Nat) (2 : Int64)) = true := rfl
