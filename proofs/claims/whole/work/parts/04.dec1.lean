abbrev y_T_init : MethodName := ⟨"FrameTables$Table", "<init>", "()V"⟩
abbrev m_T_init : MethodName × ByteArray × Nat × Option FieldType := (y_T_init, prog_5_method_1_code, 1, none)
theorem mi_T_init : .code y_T_init prog_5_method_1_code 1 none ∈ wT := wT_m 65 (by decide +kernel) rfl
theorem d_T_init_0 : decode prog_5_method_1_code 0 = .ok (.aload_n 0, 1) := by decide +kernel
theorem d_T_init_1 : decode prog_5_method_1_code 1 = .ok (.invokespecial 3, 3) := by decide +kernel
theorem d_T_init_4 : decode prog_5_method_1_code 4 = .ok (.aload_n 0, 1) := by decide +kernel
theorem d_T_init_5 : decode prog_5_method_1_code 5 = .ok (.bipush 41, 2) := by decide +kernel
theorem d_T_init_7 : decode prog_5_method_1_code 7 = .ok (.newarray .int, 2) := by decide +kernel
theorem d_T_init_9 : decode prog_5_method_1_code 9 = .ok (.putfield 9, 3) := by decide +kernel
theorem d_T_init_12 : decode prog_5_method_1_code 12 = .ok (.aload_n 0, 1) := by decide +kernel
theorem d_T_init_13 : decode prog_5_method_1_code 13 = .ok (.bipush 41, 2) := by decide +kernel
theorem d_T_init_15 : decode prog_5_method_1_code 15 = .ok (.newarray .int, 2) := by decide +kernel
theorem d_T_init_17 : decode prog_5_method_1_code 17 = .ok (.putfield 15, 3) := by decide +kernel
theorem d_T_init_20 : decode prog_5_method_1_code 20 = .ok (.aload_n 0, 1) := by decide +kernel
theorem d_T_init_21 : decode prog_5_method_1_code 21 = .ok (.bipush 41, 2) := by decide +kernel
theorem d_T_init_23 : decode prog_5_method_1_code 23 = .ok (.newarray .int, 2) := by decide +kernel
theorem d_T_init_25 : decode prog_5_method_1_code 25 = .ok (.putfield 18, 3) := by decide +kernel
theorem d_T_init_28 : decode prog_5_method_1_code 28 = .ok (.aload_n 0, 1) := by decide +kernel
theorem d_T_init_29 : decode prog_5_method_1_code 29 = .ok (.bipush 41, 2) := by decide +kernel
theorem d_T_init_31 : decode prog_5_method_1_code 31 = .ok (.newarray .int, 2) := by decide +kernel
theorem d_T_init_33 : decode prog_5_method_1_code 33 = .ok (.putfield 21, 3) := by decide +kernel
theorem d_T_init_36 : decode prog_5_method_1_code 36 = .ok (.aload_n 0, 1) := by decide +kernel
theorem d_T_init_37 : decode prog_5_method_1_code 37 = .ok (.bipush 41, 2) := by decide +kernel
theorem d_T_init_39 : decode prog_5_method_1_code 39 = .ok (.newarray .int, 2) := by decide +kernel
theorem d_T_init_41 : decode prog_5_method_1_code 41 = .ok (.putfield 24, 3) := by decide +kernel
theorem d_T_init_44 : decode prog_5_method_1_code 44 = .ok (.aload_n 0, 1) := by decide +kernel
theorem d_T_init_45 : decode prog_5_method_1_code 45 = .ok (.sipush 861, 3) := by decide +kernel
theorem d_T_init_48 : decode prog_5_method_1_code 48 = .ok (.newarray .int, 2) := by decide +kernel
theorem d_T_init_50 : decode prog_5_method_1_code 50 = .ok (.putfield 27, 3) := by decide +kernel
theorem d_T_init_53 : decode prog_5_method_1_code 53 = .ok (.aload_n 0, 1) := by decide +kernel
theorem d_T_init_54 : decode prog_5_method_1_code 54 = .ok (.iconst 0, 1) := by decide +kernel
theorem d_T_init_55 : decode prog_5_method_1_code 55 = .ok (.putfield 30, 3) := by decide +kernel
theorem d_T_init_58 : decode prog_5_method_1_code 58 = .ok (.return_, 1) := by decide +kernel
abbrev y_S_init : MethodName := ⟨"FrameTables$Spans", "<init>", "()V"⟩
abbrev m_S_init : MethodName × ByteArray × Nat × Option FieldType := (y_S_init, prog_4_method_1_code, 2, none)
theorem mi_S_init : .code y_S_init prog_4_method_1_code 2 none ∈ wT := wT_m 94 (by decide +kernel) rfl
theorem d_S_init_0 : decode prog_4_method_1_code 0 = .ok (.aload_n 0, 1) := by decide +kernel
theorem d_S_init_1 : decode prog_4_method_1_code 1 = .ok (.invokespecial 3, 3) := by decide +kernel
theorem d_S_init_4 : decode prog_4_method_1_code 4 = .ok (.aload_n 0, 1) := by decide +kernel
theorem d_S_init_5 : decode prog_4_method_1_code 5 = .ok (.iconst 4, 1) := by decide +kernel
theorem d_S_init_6 : decode prog_4_method_1_code 6 = .ok (.newarray .int, 2) := by decide +kernel
theorem d_S_init_8 : decode prog_4_method_1_code 8 = .ok (.putfield 9, 3) := by decide +kernel
theorem d_S_init_11 : decode prog_4_method_1_code 11 = .ok (.aload_n 0, 1) := by decide +kernel
theorem d_S_init_12 : decode prog_4_method_1_code 12 = .ok (.iconst 4, 1) := by decide +kernel
theorem d_S_init_13 : decode prog_4_method_1_code 13 = .ok (.newarray .int, 2) := by decide +kernel
theorem d_S_init_15 : decode prog_4_method_1_code 15 = .ok (.putfield 15, 3) := by decide +kernel
theorem d_S_init_18 : decode prog_4_method_1_code 18 = .ok (.iconst 0, 1) := by decide +kernel
theorem d_S_init_19 : decode prog_4_method_1_code 19 = .ok (.istore_n 1, 1) := by decide +kernel
theorem d_S_init_20 : decode prog_4_method_1_code 20 = .ok (.iload_n 1, 1) := by decide +kernel
theorem d_S_init_21 : decode prog_4_method_1_code 21 = .ok (.iconst 4, 1) := by decide +kernel
theorem d_S_init_22 : decode prog_4_method_1_code 22 = .ok (.if_icmp .ge 38, 3) := by decide +kernel
theorem d_S_init_25 : decode prog_4_method_1_code 25 = .ok (.aload_n 0, 1) := by decide +kernel
theorem d_S_init_26 : decode prog_4_method_1_code 26 = .ok (.getfield 9, 3) := by decide +kernel
theorem d_S_init_29 : decode prog_4_method_1_code 29 = .ok (.iload_n 1, 1) := by decide +kernel
theorem d_S_init_30 : decode prog_4_method_1_code 30 = .ok (.iload_n 1, 1) := by decide +kernel
theorem d_S_init_31 : decode prog_4_method_1_code 31 = .ok (.sipush 512, 3) := by decide +kernel
theorem d_S_init_34 : decode prog_4_method_1_code 34 = .ok (.imul, 1) := by decide +kernel
theorem d_S_init_35 : decode prog_4_method_1_code 35 = .ok (.iastore, 1) := by decide +kernel
theorem d_S_init_36 : decode prog_4_method_1_code 36 = .ok (.aload_n 0, 1) := by decide +kernel
theorem d_S_init_37 : decode prog_4_method_1_code 37 = .ok (.getfield 15, 3) := by decide +kernel
theorem d_S_init_40 : decode prog_4_method_1_code 40 = .ok (.iload_n 1, 1) := by decide +kernel
theorem d_S_init_41 : decode prog_4_method_1_code 41 = .ok (.aload_n 0, 1) := by decide +kernel
theorem d_S_init_42 : decode prog_4_method_1_code 42 = .ok (.getfield 9, 3) := by decide +kernel
theorem d_S_init_45 : decode prog_4_method_1_code 45 = .ok (.iload_n 1, 1) := by decide +kernel
theorem d_S_init_46 : decode prog_4_method_1_code 46 = .ok (.iaload, 1) := by decide +kernel
theorem d_S_init_47 : decode prog_4_method_1_code 47 = .ok (.sipush 512, 3) := by decide +kernel
theorem d_S_init_50 : decode prog_4_method_1_code 50 = .ok (.iadd, 1) := by decide +kernel
theorem d_S_init_51 : decode prog_4_method_1_code 51 = .ok (.iconst 1, 1) := by decide +kernel
theorem d_S_init_52 : decode prog_4_method_1_code 52 = .ok (.isub, 1) := by decide +kernel
theorem d_S_init_53 : decode prog_4_method_1_code 53 = .ok (.iastore, 1) := by decide +kernel
theorem d_S_init_54 : decode prog_4_method_1_code 54 = .ok (.iinc 1 1, 3) := by decide +kernel
theorem d_S_init_57 : decode prog_4_method_1_code 57 = .ok (.goto (-37), 3) := by decide +kernel
theorem d_S_init_60 : decode prog_4_method_1_code 60 = .ok (.return_, 1) := by decide +kernel
abbrev y_X_init : MethodName := ⟨"FrameTables$Text", "<init>", "()V"⟩
abbrev m_X_init : MethodName × ByteArray × Nat × Option FieldType := (y_X_init, prog_6_method_1_code, 1, none)
theorem mi_X_init : .code y_X_init prog_6_method_1_code 1 none ∈ wT := wT_m 107 (by decide +kernel) rfl
theorem d_X_init_0 : decode prog_6_method_1_code 0 = .ok (.aload_n 0, 1) := by decide +kernel
theorem d_X_init_1 : decode prog_6_method_1_code 1 = .ok (.invokespecial 3, 3) := by decide +kernel
theorem d_X_init_4 : decode prog_6_method_1_code 4 = .ok (.aload_n 0, 1) := by decide +kernel
theorem d_X_init_5 : decode prog_6_method_1_code 5 = .ok (.sipush 2000, 3) := by decide +kernel
theorem d_X_init_8 : decode prog_6_method_1_code 8 = .ok (.newarray .char, 2) := by decide +kernel
theorem d_X_init_10 : decode prog_6_method_1_code 10 = .ok (.putfield 9, 3) := by decide +kernel
theorem d_X_init_13 : decode prog_6_method_1_code 13 = .ok (.aload_n 0, 1) := by decide +kernel
theorem d_X_init_14 : decode prog_6_method_1_code 14 = .ok (.iconst 0, 1) := by decide +kernel
theorem d_X_init_15 : decode prog_6_method_1_code 15 = .ok (.putfield 15, 3) := by decide +kernel
theorem d_X_init_18 : decode prog_6_method_1_code 18 = .ok (.aload_n 0, 1) := by decide +kernel
theorem d_X_init_19 : decode prog_6_method_1_code 19 = .ok (.iconst 0, 1) := by decide +kernel
theorem d_X_init_20 : decode prog_6_method_1_code 20 = .ok (.putfield 19, 3) := by decide +kernel
theorem d_X_init_23 : decode prog_6_method_1_code 23 = .ok (.return_, 1) := by decide +kernel
abbrev y_T_isFull : MethodName := ⟨"FrameTables$Table", "isFull", "()Z"⟩
abbrev m_T_isFull : MethodName × ByteArray × Nat × Option FieldType := (y_T_isFull, prog_5_method_4_code, 1, some .boolean)
theorem mi_T_isFull : .code y_T_isFull prog_5_method_4_code 1 (some .boolean) ∈ wT := wT_m 211 (by decide +kernel) rfl
theorem d_T_isFull_0 : decode prog_5_method_4_code 0 = .ok (.aload_n 0, 1) := by decide +kernel
theorem d_T_isFull_1 : decode prog_5_method_4_code 1 = .ok (.getfield 30, 3) := by decide +kernel
theorem d_T_isFull_4 : decode prog_5_method_4_code 4 = .ok (.bipush 40, 2) := by decide +kernel
theorem d_T_isFull_6 : decode prog_5_method_4_code 6 = .ok (.if_icmp .lt 7, 3) := by decide +kernel
theorem d_T_isFull_9 : decode prog_5_method_4_code 9 = .ok (.iconst 1, 1) := by decide +kernel
theorem d_T_isFull_10 : decode prog_5_method_4_code 10 = .ok (.goto 4, 3) := by decide +kernel
theorem d_T_isFull_13 : decode prog_5_method_4_code 13 = .ok (.iconst 0, 1) := by decide +kernel
theorem d_T_isFull_14 : decode prog_5_method_4_code 14 = .ok (.ireturn, 1) := by decide +kernel
abbrev y_T_append : MethodName := ⟨"FrameTables$Table", "append", "(IIII)I"⟩
abbrev m_T_append : MethodName × ByteArray × Nat × Option FieldType := (y_T_append, prog_5_method_6_code, 6, some .int)
theorem mi_T_append : .code y_T_append prog_5_method_6_code 6 (some .int) ∈ wT := wT_m 215 (by decide +kernel) rfl
theorem d_T_append_0 : decode prog_5_method_6_code 0 = .ok (.aload_n 0, 1) := by decide +kernel
theorem d_T_append_1 : decode prog_5_method_6_code 1 = .ok (.invokevirtual 34, 3) := by decide +kernel
theorem d_T_append_4 : decode prog_5_method_6_code 4 = .ok (.ifCond .eq 5, 3) := by decide +kernel
theorem d_T_append_7 : decode prog_5_method_6_code 7 = .ok (.iconst (-1), 1) := by decide +kernel
theorem d_T_append_8 : decode prog_5_method_6_code 8 = .ok (.ireturn, 1) := by decide +kernel
theorem d_T_append_9 : decode prog_5_method_6_code 9 = .ok (.aload_n 0, 1) := by decide +kernel
theorem d_T_append_10 : decode prog_5_method_6_code 10 = .ok (.dup, 1) := by decide +kernel
theorem d_T_append_11 : decode prog_5_method_6_code 11 = .ok (.getfield 30, 3) := by decide +kernel
theorem d_T_append_14 : decode prog_5_method_6_code 14 = .ok (.iconst 1, 1) := by decide +kernel
theorem d_T_append_15 : decode prog_5_method_6_code 15 = .ok (.iadd, 1) := by decide +kernel
theorem d_T_append_16 : decode prog_5_method_6_code 16 = .ok (.putfield 30, 3) := by decide +kernel
theorem d_T_append_19 : decode prog_5_method_6_code 19 = .ok (.aload_n 0, 1) := by decide +kernel
theorem d_T_append_20 : decode prog_5_method_6_code 20 = .ok (.getfield 9, 3) := by decide +kernel
theorem d_T_append_23 : decode prog_5_method_6_code 23 = .ok (.aload_n 0, 1) := by decide +kernel
theorem d_T_append_24 : decode prog_5_method_6_code 24 = .ok (.getfield 30, 3) := by decide +kernel
theorem d_T_append_27 : decode prog_5_method_6_code 27 = .ok (.iload_n 1, 1) := by decide +kernel
theorem d_T_append_28 : decode prog_5_method_6_code 28 = .ok (.iastore, 1) := by decide +kernel
theorem d_T_append_29 : decode prog_5_method_6_code 29 = .ok (.aload_n 0, 1) := by decide +kernel
theorem d_T_append_30 : decode prog_5_method_6_code 30 = .ok (.getfield 15, 3) := by decide +kernel
theorem d_T_append_33 : decode prog_5_method_6_code 33 = .ok (.aload_n 0, 1) := by decide +kernel
theorem d_T_append_34 : decode prog_5_method_6_code 34 = .ok (.getfield 30, 3) := by decide +kernel
theorem d_T_append_37 : decode prog_5_method_6_code 37 = .ok (.iload_n 2, 1) := by decide +kernel
theorem d_T_append_38 : decode prog_5_method_6_code 38 = .ok (.iastore, 1) := by decide +kernel
theorem d_T_append_39 : decode prog_5_method_6_code 39 = .ok (.aload_n 0, 1) := by decide +kernel
theorem d_T_append_40 : decode prog_5_method_6_code 40 = .ok (.getfield 18, 3) := by decide +kernel
theorem d_T_append_43 : decode prog_5_method_6_code 43 = .ok (.aload_n 0, 1) := by decide +kernel
theorem d_T_append_44 : decode prog_5_method_6_code 44 = .ok (.getfield 30, 3) := by decide +kernel
theorem d_T_append_47 : decode prog_5_method_6_code 47 = .ok (.iload_n 3, 1) := by decide +kernel
theorem d_T_append_48 : decode prog_5_method_6_code 48 = .ok (.iastore, 1) := by decide +kernel
theorem d_T_append_49 : decode prog_5_method_6_code 49 = .ok (.aload_n 0, 1) := by decide +kernel
theorem d_T_append_50 : decode prog_5_method_6_code 50 = .ok (.getfield 21, 3) := by decide +kernel
theorem d_T_append_53 : decode prog_5_method_6_code 53 = .ok (.aload_n 0, 1) := by decide +kernel
theorem d_T_append_54 : decode prog_5_method_6_code 54 = .ok (.getfield 30, 3) := by decide +kernel
theorem d_T_append_57 : decode prog_5_method_6_code 57 = .ok (.iload 4, 2) := by decide +kernel
theorem d_T_append_59 : decode prog_5_method_6_code 59 = .ok (.iastore, 1) := by decide +kernel
theorem d_T_append_60 : decode prog_5_method_6_code 60 = .ok (.aload_n 0, 1) := by decide +kernel
theorem d_T_append_61 : decode prog_5_method_6_code 61 = .ok (.getfield 24, 3) := by decide +kernel
theorem d_T_append_64 : decode prog_5_method_6_code 64 = .ok (.aload_n 0, 1) := by decide +kernel
theorem d_T_append_65 : decode prog_5_method_6_code 65 = .ok (.getfield 30, 3) := by decide +kernel
theorem d_T_append_68 : decode prog_5_method_6_code 68 = .ok (.iconst 0, 1) := by decide +kernel
theorem d_T_append_69 : decode prog_5_method_6_code 69 = .ok (.iastore, 1) := by decide +kernel
theorem d_T_append_70 : decode prog_5_method_6_code 70 = .ok (.iconst 1, 1) := by decide +kernel
theorem d_T_append_71 : decode prog_5_method_6_code 71 = .ok (.istore 5, 2) := by decide +kernel
theorem d_T_append_73 : decode prog_5_method_6_code 73 = .ok (.iload 5, 2) := by decide +kernel
theorem d_T_append_75 : decode prog_5_method_6_code 75 = .ok (.bipush 20, 2) := by decide +kernel
theorem d_T_append_77 : decode prog_5_method_6_code 77 = .ok (.if_icmp .gt 20, 3) := by decide +kernel
theorem d_T_append_80 : decode prog_5_method_6_code 80 = .ok (.aload_n 0, 1) := by decide +kernel
theorem d_T_append_81 : decode prog_5_method_6_code 81 = .ok (.aload_n 0, 1) := by decide +kernel
theorem d_T_append_82 : decode prog_5_method_6_code 82 = .ok (.getfield 30, 3) := by decide +kernel
theorem d_T_append_85 : decode prog_5_method_6_code 85 = .ok (.iload 5, 2) := by decide +kernel
theorem d_T_append_87 : decode prog_5_method_6_code 87 = .ok (.iconst 0, 1) := by decide +kernel
theorem d_T_append_88 : decode prog_5_method_6_code 88 = .ok (.invokevirtual 38, 3) := by decide +kernel
theorem d_T_append_91 : decode prog_5_method_6_code 91 = .ok (.iinc 5 1, 3) := by decide +kernel
theorem d_T_append_94 : decode prog_5_method_6_code 94 = .ok (.goto (-21), 3) := by decide +kernel
theorem d_T_append_97 : decode prog_5_method_6_code 97 = .ok (.aload_n 0, 1) := by decide +kernel
theorem d_T_append_98 : decode prog_5_method_6_code 98 = .ok (.getfield 30, 3) := by decide +kernel
theorem d_T_append_101 : decode prog_5_method_6_code 101 = .ok (.ireturn, 1) := by decide +kernel
abbrev y_T_setTimeout : MethodName := ⟨"FrameTables$Table", "setTimeout", "(III)V"⟩
abbrev m_T_setTimeout : MethodName × ByteArray × Nat × Option FieldType := (y_T_setTimeout, prog_5_method_16_code, 4, none)
theorem mi_T_setTimeout : .code y_T_setTimeout prog_5_method_16_code 4 none ∈ wT := wT_m 220 (by decide +kernel) rfl
theorem d_T_setTimeout_0 : decode prog_5_method_16_code 0 = .ok (.aload_n 0, 1) := by decide +kernel
theorem d_T_setTimeout_1 : decode prog_5_method_16_code 1 = .ok (.getfield 27, 3) := by decide +kernel
theorem d_T_setTimeout_4 : decode prog_5_method_16_code 4 = .ok (.iload_n 1, 1) := by decide +kernel
theorem d_T_setTimeout_5 : decode prog_5_method_16_code 5 = .ok (.bipush 21, 2) := by decide +kernel
theorem d_T_setTimeout_7 : decode prog_5_method_16_code 7 = .ok (.imul, 1) := by decide +kernel
theorem d_T_setTimeout_8 : decode prog_5_method_16_code 8 = .ok (.iload_n 2, 1) := by decide +kernel
theorem d_T_setTimeout_9 : decode prog_5_method_16_code 9 = .ok (.iadd, 1) := by decide +kernel
theorem d_T_setTimeout_10 : decode prog_5_method_16_code 10 = .ok (.iload_n 3, 1) := by decide +kernel
theorem d_T_setTimeout_11 : decode prog_5_method_16_code 11 = .ok (.iastore, 1) := by decide +kernel
theorem d_T_setTimeout_12 : decode prog_5_method_16_code 12 = .ok (.return_, 1) := by decide +kernel
abbrev y_T_has : MethodName := ⟨"FrameTables$Table", "has", "(I)Z"⟩
abbrev m_T_has : MethodName × ByteArray × Nat × Option FieldType := (y_T_has, prog_5_method_5_code, 2, some .boolean)
theorem mi_T_has : .code y_T_has prog_5_method_5_code 2 (some .boolean) ∈ wT := wT_m 228 (by decide +kernel) rfl
theorem d_T_has_0 : decode prog_5_method_5_code 0 = .ok (.iload_n 1, 1) := by decide +kernel
theorem d_T_has_1 : decode prog_5_method_5_code 1 = .ok (.iconst 1, 1) := by decide +kernel
theorem d_T_has_2 : decode prog_5_method_5_code 2 = .ok (.if_icmp .lt 15, 3) := by decide +kernel
theorem d_T_has_5 : decode prog_5_method_5_code 5 = .ok (.iload_n 1, 1) := by decide +kernel
theorem d_T_has_6 : decode prog_5_method_5_code 6 = .ok (.aload_n 0, 1) := by decide +kernel
theorem d_T_has_7 : decode prog_5_method_5_code 7 = .ok (.getfield 30, 3) := by decide +kernel
theorem d_T_has_10 : decode prog_5_method_5_code 10 = .ok (.if_icmp .gt 7, 3) := by decide +kernel
theorem d_T_has_13 : decode prog_5_method_5_code 13 = .ok (.iconst 1, 1) := by decide +kernel
theorem d_T_has_14 : decode prog_5_method_5_code 14 = .ok (.goto 4, 3) := by decide +kernel
theorem d_T_has_17 : decode prog_5_method_5_code 17 = .ok (.iconst 0, 1) := by decide +kernel
theorem d_T_has_18 : decode prog_5_method_5_code 18 = .ok (.ireturn, 1) := by decide +kernel
abbrev y_T_senderOf : MethodName := ⟨"FrameTables$Table", "senderOf", "(I)I"⟩
abbrev m_T_senderOf : MethodName × ByteArray × Nat × Option FieldType := (y_T_senderOf, prog_5_method_7_code, 2, some .int)
theorem mi_T_senderOf : .code y_T_senderOf prog_5_method_7_code 2 (some .int) ∈ wT := wT_m 232 (by decide +kernel) rfl
theorem d_T_senderOf_0 : decode prog_5_method_7_code 0 = .ok (.aload_n 0, 1) := by decide +kernel
theorem d_T_senderOf_1 : decode prog_5_method_7_code 1 = .ok (.getfield 9, 3) := by decide +kernel
theorem d_T_senderOf_4 : decode prog_5_method_7_code 4 = .ok (.iload_n 1, 1) := by decide +kernel
theorem d_T_senderOf_5 : decode prog_5_method_7_code 5 = .ok (.iaload, 1) := by decide +kernel
theorem d_T_senderOf_6 : decode prog_5_method_7_code 6 = .ok (.ireturn, 1) := by decide +kernel
abbrev y_T_readersOf : MethodName := ⟨"FrameTables$Table", "readersOf", "(I)I"⟩
abbrev m_T_readersOf : MethodName × ByteArray × Nat × Option FieldType := (y_T_readersOf, prog_5_method_19_code, 4, some .int)
theorem mi_T_readersOf : .code y_T_readersOf prog_5_method_19_code 4 (some .int) ∈ wT := wT_m 237 (by decide +kernel) rfl
theorem d_T_readersOf_0 : decode prog_5_method_19_code 0 = .ok (.iconst 0, 1) := by decide +kernel
theorem d_T_readersOf_1 : decode prog_5_method_19_code 1 = .ok (.istore_n 2, 1) := by decide +kernel
theorem d_T_readersOf_2 : decode prog_5_method_19_code 2 = .ok (.iconst 1, 1) := by decide +kernel
theorem d_T_readersOf_3 : decode prog_5_method_19_code 3 = .ok (.istore_n 3, 1) := by decide +kernel
theorem d_T_readersOf_4 : decode prog_5_method_19_code 4 = .ok (.iload_n 3, 1) := by decide +kernel
theorem d_T_readersOf_5 : decode prog_5_method_19_code 5 = .ok (.bipush 20, 2) := by decide +kernel
theorem d_T_readersOf_7 : decode prog_5_method_19_code 7 = .ok (.if_icmp .gt 21, 3) := by decide +kernel
theorem d_T_readersOf_10 : decode prog_5_method_19_code 10 = .ok (.aload_n 0, 1) := by decide +kernel
theorem d_T_readersOf_11 : decode prog_5_method_19_code 11 = .ok (.iload_n 1, 1) := by decide +kernel
theorem d_T_readersOf_12 : decode prog_5_method_19_code 12 = .ok (.iload_n 3, 1) := by decide +kernel
theorem d_T_readersOf_13 : decode prog_5_method_19_code 13 = .ok (.invokevirtual 46, 3) := by decide +kernel
theorem d_T_readersOf_16 : decode prog_5_method_19_code 16 = .ok (.ifCond .eq 6, 3) := by decide +kernel
theorem d_T_readersOf_19 : decode prog_5_method_19_code 19 = .ok (.iinc 2 1, 3) := by decide +kernel
theorem d_T_readersOf_22 : decode prog_5_method_19_code 22 = .ok (.iinc 3 1, 3) := by decide +kernel
theorem d_T_readersOf_25 : decode prog_5_method_19_code 25 = .ok (.goto (-21), 3) := by decide +kernel
theorem d_T_readersOf_28 : decode prog_5_method_19_code 28 = .ok (.iload_n 2, 1) := by decide +kernel
theorem d_T_readersOf_29 : decode prog_5_method_19_code 29 = .ok (.ireturn, 1) := by decide +kernel
abbrev y_T_reads : MethodName := ⟨"FrameTables$Table", "reads", "(II)Z"⟩
abbrev m_T_reads : MethodName × ByteArray × Nat × Option FieldType := (y_T_reads, prog_5_method_17_code, 3, some .boolean)
theorem mi_T_reads : .code y_T_reads prog_5_method_17_code 3 (some .boolean) ∈ wT := wT_m 241 (by decide +kernel) rfl
theorem d_T_reads_0 : decode prog_5_method_17_code 0 = .ok (.aload_n 0, 1) := by decide +kernel
theorem d_T_reads_1 : decode prog_5_method_17_code 1 = .ok (.iload_n 1, 1) := by decide +kernel
theorem d_T_reads_2 : decode prog_5_method_17_code 2 = .ok (.iload_n 2, 1) := by decide +kernel
theorem d_T_reads_3 : decode prog_5_method_17_code 3 = .ok (.invokevirtual 42, 3) := by decide +kernel
theorem d_T_reads_6 : decode prog_5_method_17_code 6 = .ok (.ifCond .le 7, 3) := by decide +kernel
theorem d_T_reads_9 : decode prog_5_method_17_code 9 = .ok (.iconst 1, 1) := by decide +kernel
theorem d_T_reads_10 : decode prog_5_method_17_code 10 = .ok (.goto 4, 3) := by decide +kernel
theorem d_T_reads_13 : decode prog_5_method_17_code 13 = .ok (.iconst 0, 1) := by decide +kernel
theorem d_T_reads_14 : decode prog_5_method_17_code 14 = .ok (.ireturn, 1) := by decide +kernel
abbrev y_T_timeoutOf : MethodName := ⟨"FrameTables$Table", "timeoutOf", "(II)I"⟩
abbrev m_T_timeoutOf : MethodName × ByteArray × Nat × Option FieldType := (y_T_timeoutOf, prog_5_method_15_code, 3, some .int)
theorem mi_T_timeoutOf : .code y_T_timeoutOf prog_5_method_15_code 3 (some .int) ∈ wT := wT_m 245 (by decide +kernel) rfl
theorem d_T_timeoutOf_0 : decode prog_5_method_15_code 0 = .ok (.aload_n 0, 1) := by decide +kernel
theorem d_T_timeoutOf_1 : decode prog_5_method_15_code 1 = .ok (.getfield 27, 3) := by decide +kernel
theorem d_T_timeoutOf_4 : decode prog_5_method_15_code 4 = .ok (.iload_n 1, 1) := by decide +kernel
theorem d_T_timeoutOf_5 : decode prog_5_method_15_code 5 = .ok (.bipush 21, 2) := by decide +kernel
theorem d_T_timeoutOf_7 : decode prog_5_method_15_code 7 = .ok (.imul, 1) := by decide +kernel
theorem d_T_timeoutOf_8 : decode prog_5_method_15_code 8 = .ok (.iload_n 2, 1) := by decide +kernel
theorem d_T_timeoutOf_9 : decode prog_5_method_15_code 9 = .ok (.iadd, 1) := by decide +kernel
theorem d_T_timeoutOf_10 : decode prog_5_method_15_code 10 = .ok (.iaload, 1) := by decide +kernel
theorem d_T_timeoutOf_11 : decode prog_5_method_15_code 11 = .ok (.ireturn, 1) := by decide +kernel
abbrev y_T_kindOf : MethodName := ⟨"FrameTables$Table", "kindOf", "(I)I"⟩
abbrev m_T_kindOf : MethodName × ByteArray × Nat × Option FieldType := (y_T_kindOf, prog_5_method_10_code, 2, some .int)
theorem mi_T_kindOf : .code y_T_kindOf prog_5_method_10_code 2 (some .int) ∈ wT := wT_m 257 (by decide +kernel) rfl
theorem d_T_kindOf_0 : decode prog_5_method_10_code 0 = .ok (.aload_n 0, 1) := by decide +kernel
theorem d_T_kindOf_1 : decode prog_5_method_10_code 1 = .ok (.getfield 18, 3) := by decide +kernel
theorem d_T_kindOf_4 : decode prog_5_method_10_code 4 = .ok (.iload_n 1, 1) := by decide +kernel
theorem d_T_kindOf_5 : decode prog_5_method_10_code 5 = .ok (.iaload, 1) := by decide +kernel
theorem d_T_kindOf_6 : decode prog_5_method_10_code 6 = .ok (.bipush 25, 2) := by decide +kernel
theorem d_T_kindOf_8 : decode prog_5_method_10_code 8 = .ok (.idiv, 1) := by decide +kernel
theorem d_T_kindOf_9 : decode prog_5_method_10_code 9 = .ok (.ireturn, 1) := by decide +kernel
abbrev y_T_placeInKind : MethodName := ⟨"FrameTables$Table", "placeInKind", "(I)I"⟩
abbrev m_T_placeInKind : MethodName × ByteArray × Nat × Option FieldType := (y_T_placeInKind, prog_5_method_20_code, 4, some .int)
theorem mi_T_placeInKind : .code y_T_placeInKind prog_5_method_20_code 4 (some .int) ∈ wT := wT_m 261 (by decide +kernel) rfl
theorem d_T_placeInKind_0 : decode prog_5_method_20_code 0 = .ok (.iconst 0, 1) := by decide +kernel
theorem d_T_placeInKind_1 : decode prog_5_method_20_code 1 = .ok (.istore_n 2, 1) := by decide +kernel
theorem d_T_placeInKind_2 : decode prog_5_method_20_code 2 = .ok (.iconst 1, 1) := by decide +kernel
theorem d_T_placeInKind_3 : decode prog_5_method_20_code 3 = .ok (.istore_n 3, 1) := by decide +kernel
theorem d_T_placeInKind_4 : decode prog_5_method_20_code 4 = .ok (.iload_n 3, 1) := by decide +kernel
theorem d_T_placeInKind_5 : decode prog_5_method_20_code 5 = .ok (.aload_n 0, 1) := by decide +kernel
theorem d_T_placeInKind_6 : decode prog_5_method_20_code 6 = .ok (.getfield 30, 3) := by decide +kernel
theorem d_T_placeInKind_9 : decode prog_5_method_20_code 9 = .ok (.if_icmp .gt 34, 3) := by decide +kernel
theorem d_T_placeInKind_12 : decode prog_5_method_20_code 12 = .ok (.aload_n 0, 1) := by decide +kernel
theorem d_T_placeInKind_13 : decode prog_5_method_20_code 13 = .ok (.iload_n 3, 1) := by decide +kernel
theorem d_T_placeInKind_14 : decode prog_5_method_20_code 14 = .ok (.invokevirtual 50, 3) := by decide +kernel
theorem d_T_placeInKind_17 : decode prog_5_method_20_code 17 = .ok (.aload_n 0, 1) := by decide +kernel
theorem d_T_placeInKind_18 : decode prog_5_method_20_code 18 = .ok (.iload_n 1, 1) := by decide +kernel
theorem d_T_placeInKind_19 : decode prog_5_method_20_code 19 = .ok (.invokevirtual 50, 3) := by decide +kernel
theorem d_T_placeInKind_22 : decode prog_5_method_20_code 22 = .ok (.if_icmp .ne 15, 3) := by decide +kernel
theorem d_T_placeInKind_25 : decode prog_5_method_20_code 25 = .ok (.aload_n 0, 1) := by decide +kernel
theorem d_T_placeInKind_26 : decode prog_5_method_20_code 26 = .ok (.iload_n 3, 1) := by decide +kernel
theorem d_T_placeInKind_27 : decode prog_5_method_20_code 27 = .ok (.iload_n 1, 1) := by decide +kernel
theorem d_T_placeInKind_28 : decode prog_5_method_20_code 28 = .ok (.invokevirtual 54, 3) := by decide +kernel
theorem d_T_placeInKind_31 : decode prog_5_method_20_code 31 = .ok (.ifCond .eq 6, 3) := by decide +kernel
theorem d_T_placeInKind_34 : decode prog_5_method_20_code 34 = .ok (.iinc 2 1, 3) := by decide +kernel
theorem d_T_placeInKind_37 : decode prog_5_method_20_code 37 = .ok (.iinc 3 1, 3) := by decide +kernel
theorem d_T_placeInKind_40 : decode prog_5_method_20_code 40 = .ok (.goto (-36), 3) := by decide +kernel
theorem d_T_placeInKind_43 : decode prog_5_method_20_code 43 = .ok (.iload_n 2, 1) := by decide +kernel
theorem d_T_placeInKind_44 : decode prog_5_method_20_code 44 = .ok (.ireturn, 1) := by decide +kernel
abbrev y_T_comesBefore : MethodName := ⟨"FrameTables$Table", "comesBefore", "(II)Z"⟩
abbrev m_T_comesBefore : MethodName × ByteArray × Nat × Option FieldType := (y_T_comesBefore, prog_5_method_23_code, 3, some .boolean)
theorem mi_T_comesBefore : .code y_T_comesBefore prog_5_method_23_code 3 (some .boolean) ∈ wT := wT_m 266 (by decide +kernel) rfl
theorem d_T_comesBefore_0 : decode prog_5_method_23_code 0 = .ok (.aload_n 0, 1) := by decide +kernel
theorem d_T_comesBefore_1 : decode prog_5_method_23_code 1 = .ok (.getfield 18, 3) := by decide +kernel
theorem d_T_comesBefore_4 : decode prog_5_method_23_code 4 = .ok (.iload_n 1, 1) := by decide +kernel
theorem d_T_comesBefore_5 : decode prog_5_method_23_code 5 = .ok (.iaload, 1) := by decide +kernel
theorem d_T_comesBefore_6 : decode prog_5_method_23_code 6 = .ok (.aload_n 0, 1) := by decide +kernel
theorem d_T_comesBefore_7 : decode prog_5_method_23_code 7 = .ok (.getfield 18, 3) := by decide +kernel
theorem d_T_comesBefore_10 : decode prog_5_method_23_code 10 = .ok (.iload_n 2, 1) := by decide +kernel
theorem d_T_comesBefore_11 : decode prog_5_method_23_code 11 = .ok (.iaload, 1) := by decide +kernel
theorem d_T_comesBefore_12 : decode prog_5_method_23_code 12 = .ok (.if_icmp .lt 23, 3) := by decide +kernel
theorem d_T_comesBefore_15 : decode prog_5_method_23_code 15 = .ok (.aload_n 0, 1) := by decide +kernel
theorem d_T_comesBefore_16 : decode prog_5_method_23_code 16 = .ok (.getfield 18, 3) := by decide +kernel
theorem d_T_comesBefore_19 : decode prog_5_method_23_code 19 = .ok (.iload_n 1, 1) := by decide +kernel
theorem d_T_comesBefore_20 : decode prog_5_method_23_code 20 = .ok (.iaload, 1) := by decide +kernel
theorem d_T_comesBefore_21 : decode prog_5_method_23_code 21 = .ok (.aload_n 0, 1) := by decide +kernel
theorem d_T_comesBefore_22 : decode prog_5_method_23_code 22 = .ok (.getfield 18, 3) := by decide +kernel
theorem d_T_comesBefore_25 : decode prog_5_method_23_code 25 = .ok (.iload_n 2, 1) := by decide +kernel
theorem d_T_comesBefore_26 : decode prog_5_method_23_code 26 = .ok (.iaload, 1) := by decide +kernel
theorem d_T_comesBefore_27 : decode prog_5_method_23_code 27 = .ok (.if_icmp .ne 12, 3) := by decide +kernel
theorem d_T_comesBefore_30 : decode prog_5_method_23_code 30 = .ok (.iload_n 1, 1) := by decide +kernel
theorem d_T_comesBefore_31 : decode prog_5_method_23_code 31 = .ok (.iload_n 2, 1) := by decide +kernel
theorem d_T_comesBefore_32 : decode prog_5_method_23_code 32 = .ok (.if_icmp .ge 7, 3) := by decide +kernel
theorem d_T_comesBefore_35 : decode prog_5_method_23_code 35 = .ok (.iconst 1, 1) := by decide +kernel
theorem d_T_comesBefore_36 : decode prog_5_method_23_code 36 = .ok (.goto 4, 3) := by decide +kernel
theorem d_T_comesBefore_39 : decode prog_5_method_23_code 39 = .ok (.iconst 0, 1) := by decide +kernel
theorem d_T_comesBefore_40 : decode prog_5_method_23_code 40 = .ok (.ireturn, 1) := by decide +kernel
abbrev y_S_identifierAt : MethodName := ⟨"FrameTables$Spans", "identifierAt", "(II)I"⟩
abbrev m_S_identifierAt : MethodName × ByteArray × Nat × Option FieldType := (y_S_identifierAt, prog_4_method_4_code, 4, some .int)
theorem mi_S_identifierAt : .code y_S_identifierAt prog_4_method_4_code 4 (some .int) ∈ wT := wT_m 270 (by decide +kernel) rfl
theorem d_S_identifierAt_0 : decode prog_4_method_4_code 0 = .ok (.aload_n 0, 1) := by decide +kernel
theorem d_S_identifierAt_1 : decode prog_4_method_4_code 1 = .ok (.getfield 9, 3) := by decide +kernel
theorem d_S_identifierAt_4 : decode prog_4_method_4_code 4 = .ok (.iload_n 1, 1) := by decide +kernel
theorem d_S_identifierAt_5 : decode prog_4_method_4_code 5 = .ok (.iaload, 1) := by decide +kernel
theorem d_S_identifierAt_6 : decode prog_4_method_4_code 6 = .ok (.iload_n 2, 1) := by decide +kernel
theorem d_S_identifierAt_7 : decode prog_4_method_4_code 7 = .ok (.iadd, 1) := by decide +kernel
theorem d_S_identifierAt_8 : decode prog_4_method_4_code 8 = .ok (.istore_n 3, 1) := by decide +kernel
theorem d_S_identifierAt_9 : decode prog_4_method_4_code 9 = .ok (.iload_n 3, 1) := by decide +kernel
theorem d_S_identifierAt_10 : decode prog_4_method_4_code 10 = .ok (.aload_n 0, 1) := by decide +kernel
theorem d_S_identifierAt_11 : decode prog_4_method_4_code 11 = .ok (.getfield 15, 3) := by decide +kernel
theorem d_S_identifierAt_14 : decode prog_4_method_4_code 14 = .ok (.iload_n 1, 1) := by decide +kernel
theorem d_S_identifierAt_15 : decode prog_4_method_4_code 15 = .ok (.iaload, 1) := by decide +kernel
theorem d_S_identifierAt_16 : decode prog_4_method_4_code 16 = .ok (.if_icmp .gt 7, 3) := by decide +kernel
theorem d_S_identifierAt_19 : decode prog_4_method_4_code 19 = .ok (.iload_n 3, 1) := by decide +kernel
theorem d_S_identifierAt_20 : decode prog_4_method_4_code 20 = .ok (.goto 4, 3) := by decide +kernel
theorem d_S_identifierAt_23 : decode prog_4_method_4_code 23 = .ok (.iconst (-1), 1) := by decide +kernel
theorem d_S_identifierAt_24 : decode prog_4_method_4_code 24 = .ok (.ireturn, 1) := by decide +kernel
abbrev y_S_meetAnother : MethodName := ⟨"FrameTables$Spans", "meetAnother", "(III)Z"⟩
abbrev m_S_meetAnother : MethodName × ByteArray × Nat × Option FieldType := (y_S_meetAnother, prog_4_method_3_code, 5, some .boolean)
theorem mi_S_meetAnother : .code y_S_meetAnother prog_4_method_3_code 5 (some .boolean) ∈ wT := wT_m 281 (by decide +kernel) rfl
theorem d_S_meetAnother_0 : decode prog_4_method_3_code 0 = .ok (.iconst 0, 1) := by decide +kernel
theorem d_S_meetAnother_1 : decode prog_4_method_3_code 1 = .ok (.istore 4, 2) := by decide +kernel
theorem d_S_meetAnother_3 : decode prog_4_method_3_code 3 = .ok (.iload 4, 2) := by decide +kernel
theorem d_S_meetAnother_5 : decode prog_4_method_3_code 5 = .ok (.iconst 4, 1) := by decide +kernel
theorem d_S_meetAnother_6 : decode prog_4_method_3_code 6 = .ok (.if_icmp .ge 39, 3) := by decide +kernel
theorem d_S_meetAnother_9 : decode prog_4_method_3_code 9 = .ok (.iload 4, 2) := by decide +kernel
theorem d_S_meetAnother_11 : decode prog_4_method_3_code 11 = .ok (.iload_n 1, 1) := by decide +kernel
theorem d_S_meetAnother_12 : decode prog_4_method_3_code 12 = .ok (.if_icmp .eq 27, 3) := by decide +kernel
theorem d_S_meetAnother_15 : decode prog_4_method_3_code 15 = .ok (.iload_n 2, 1) := by decide +kernel
theorem d_S_meetAnother_16 : decode prog_4_method_3_code 16 = .ok (.aload_n 0, 1) := by decide +kernel
theorem d_S_meetAnother_17 : decode prog_4_method_3_code 17 = .ok (.getfield 15, 3) := by decide +kernel
theorem d_S_meetAnother_20 : decode prog_4_method_3_code 20 = .ok (.iload 4, 2) := by decide +kernel
theorem d_S_meetAnother_22 : decode prog_4_method_3_code 22 = .ok (.iaload, 1) := by decide +kernel
theorem d_S_meetAnother_23 : decode prog_4_method_3_code 23 = .ok (.if_icmp .gt 16, 3) := by decide +kernel
theorem d_S_meetAnother_26 : decode prog_4_method_3_code 26 = .ok (.iload_n 3, 1) := by decide +kernel
theorem d_S_meetAnother_27 : decode prog_4_method_3_code 27 = .ok (.aload_n 0, 1) := by decide +kernel
theorem d_S_meetAnother_28 : decode prog_4_method_3_code 28 = .ok (.getfield 9, 3) := by decide +kernel
theorem d_S_meetAnother_31 : decode prog_4_method_3_code 31 = .ok (.iload 4, 2) := by decide +kernel
theorem d_S_meetAnother_33 : decode prog_4_method_3_code 33 = .ok (.iaload, 1) := by decide +kernel
theorem d_S_meetAnother_34 : decode prog_4_method_3_code 34 = .ok (.if_icmp .lt 5, 3) := by decide +kernel
theorem d_S_meetAnother_37 : decode prog_4_method_3_code 37 = .ok (.iconst 1, 1) := by decide +kernel
theorem d_S_meetAnother_38 : decode prog_4_method_3_code 38 = .ok (.ireturn, 1) := by decide +kernel
theorem d_S_meetAnother_39 : decode prog_4_method_3_code 39 = .ok (.iinc 4 1, 3) := by decide +kernel
theorem d_S_meetAnother_42 : decode prog_4_method_3_code 42 = .ok (.goto (-39), 3) := by decide +kernel
theorem d_S_meetAnother_45 : decode prog_4_method_3_code 45 = .ok (.iconst 0, 1) := by decide +kernel
theorem d_S_meetAnother_46 : decode prog_4_method_3_code 46 = .ok (.ireturn, 1) := by decide +kernel
abbrev y_S_set : MethodName := ⟨"FrameTables$Spans", "set", "(III)V"⟩
abbrev m_S_set : MethodName × ByteArray × Nat × Option FieldType := (y_S_set, prog_4_method_2_code, 4, none)
theorem mi_S_set : .code y_S_set prog_4_method_2_code 4 none ∈ wT := wT_m 285 (by decide +kernel) rfl
theorem d_S_set_0 : decode prog_4_method_2_code 0 = .ok (.aload_n 0, 1) := by decide +kernel
theorem d_S_set_1 : decode prog_4_method_2_code 1 = .ok (.getfield 9, 3) := by decide +kernel
theorem d_S_set_4 : decode prog_4_method_2_code 4 = .ok (.iload_n 1, 1) := by decide +kernel
theorem d_S_set_5 : decode prog_4_method_2_code 5 = .ok (.iload_n 2, 1) := by decide +kernel
theorem d_S_set_6 : decode prog_4_method_2_code 6 = .ok (.iastore, 1) := by decide +kernel
theorem d_S_set_7 : decode prog_4_method_2_code 7 = .ok (.aload_n 0, 1) := by decide +kernel
theorem d_S_set_8 : decode prog_4_method_2_code 8 = .ok (.getfield 15, 3) := by decide +kernel
theorem d_S_set_11 : decode prog_4_method_2_code 11 = .ok (.iload_n 1, 1) := by decide +kernel
theorem d_S_set_12 : decode prog_4_method_2_code 12 = .ok (.iload_n 3, 1) := by decide +kernel
theorem d_S_set_13 : decode prog_4_method_2_code 13 = .ok (.iastore, 1) := by decide +kernel
theorem d_S_set_14 : decode prog_4_method_2_code 14 = .ok (.return_, 1) := by decide +kernel
abbrev y_T_size : MethodName := ⟨"FrameTables$Table", "size", "()I"⟩
abbrev m_T_size : MethodName × ByteArray × Nat × Option FieldType := (y_T_size, prog_5_method_3_code, 1, some .int)
theorem mi_T_size : .code y_T_size prog_5_method_3_code 1 (some .int) ∈ wT := wT_m 302 (by decide +kernel) rfl
theorem d_T_size_0 : decode prog_5_method_3_code 0 = .ok (.aload_n 0, 1) := by decide +kernel
theorem d_T_size_1 : decode prog_5_method_3_code 1 = .ok (.getfield 30, 3) := by decide +kernel
theorem d_T_size_4 : decode prog_5_method_3_code 4 = .ok (.ireturn, 1) := by decide +kernel
abbrev y_T_periodOf : MethodName := ⟨"FrameTables$Table", "periodOf", "(I)I"⟩
abbrev m_T_periodOf : MethodName × ByteArray × Nat × Option FieldType := (y_T_periodOf, prog_5_method_8_code, 2, some .int)
theorem mi_T_periodOf : .code y_T_periodOf prog_5_method_8_code 2 (some .int) ∈ wT := wT_m 306 (by decide +kernel) rfl
theorem d_T_periodOf_0 : decode prog_5_method_8_code 0 = .ok (.aload_n 0, 1) := by decide +kernel
theorem d_T_periodOf_1 : decode prog_5_method_8_code 1 = .ok (.getfield 15, 3) := by decide +kernel
theorem d_T_periodOf_4 : decode prog_5_method_8_code 4 = .ok (.iload_n 1, 1) := by decide +kernel
theorem d_T_periodOf_5 : decode prog_5_method_8_code 5 = .ok (.iaload, 1) := by decide +kernel
theorem d_T_periodOf_6 : decode prog_5_method_8_code 6 = .ok (.ireturn, 1) := by decide +kernel
abbrev y_T_setOffset : MethodName := ⟨"FrameTables$Table", "setOffset", "(II)V"⟩
abbrev m_T_setOffset : MethodName × ByteArray × Nat × Option FieldType := (y_T_setOffset, prog_5_method_14_code, 3, none)
theorem mi_T_setOffset : .code y_T_setOffset prog_5_method_14_code 3 none ∈ wT := wT_m 354 (by decide +kernel) rfl
theorem d_T_setOffset_0 : decode prog_5_method_14_code 0 = .ok (.aload_n 0, 1) := by decide +kernel
theorem d_T_setOffset_1 : decode prog_5_method_14_code 1 = .ok (.getfield 24, 3) := by decide +kernel
theorem d_T_setOffset_4 : decode prog_5_method_14_code 4 = .ok (.iload_n 1, 1) := by decide +kernel
theorem d_T_setOffset_5 : decode prog_5_method_14_code 5 = .ok (.iload_n 2, 1) := by decide +kernel
theorem d_T_setOffset_6 : decode prog_5_method_14_code 6 = .ok (.iastore, 1) := by decide +kernel
theorem d_T_setOffset_7 : decode prog_5_method_14_code 7 = .ok (.return_, 1) := by decide +kernel
abbrev y_T_offsetOf : MethodName := ⟨"FrameTables$Table", "offsetOf", "(I)I"⟩
abbrev m_T_offsetOf : MethodName × ByteArray × Nat × Option FieldType := (y_T_offsetOf, prog_5_method_13_code, 2, some .int)
theorem mi_T_offsetOf : .code y_T_offsetOf prog_5_method_13_code 2 (some .int) ∈ wT := wT_m 362 (by decide +kernel) rfl
theorem d_T_offsetOf_0 : decode prog_5_method_13_code 0 = .ok (.aload_n 0, 1) := by decide +kernel
theorem d_T_offsetOf_1 : decode prog_5_method_13_code 1 = .ok (.getfield 24, 3) := by decide +kernel
theorem d_T_offsetOf_4 : decode prog_5_method_13_code 4 = .ok (.iload_n 1, 1) := by decide +kernel
theorem d_T_offsetOf_5 : decode prog_5_method_13_code 5 = .ok (.iaload, 1) := by decide +kernel
theorem d_T_offsetOf_6 : decode prog_5_method_13_code 6 = .ok (.ireturn, 1) := by decide +kernel
abbrev y_T_setGap : MethodName := ⟨"FrameTables$Table", "setGap", "(II)V"⟩
abbrev m_T_setGap : MethodName × ByteArray × Nat × Option FieldType := (y_T_setGap, prog_5_method_12_code, 3, none)
theorem mi_T_setGap : .code y_T_setGap prog_5_method_12_code 3 none ∈ wT := wT_m 380 (by decide +kernel) rfl
theorem d_T_setGap_0 : decode prog_5_method_12_code 0 = .ok (.aload_n 0, 1) := by decide +kernel
theorem d_T_setGap_1 : decode prog_5_method_12_code 1 = .ok (.getfield 21, 3) := by decide +kernel
theorem d_T_setGap_4 : decode prog_5_method_12_code 4 = .ok (.iload_n 1, 1) := by decide +kernel
theorem d_T_setGap_5 : decode prog_5_method_12_code 5 = .ok (.iload_n 2, 1) := by decide +kernel
theorem d_T_setGap_6 : decode prog_5_method_12_code 6 = .ok (.iastore, 1) := by decide +kernel
theorem d_T_setGap_7 : decode prog_5_method_12_code 7 = .ok (.return_, 1) := by decide +kernel
abbrev y_T_hasShortTimeout : MethodName := ⟨"FrameTables$Table", "hasShortTimeout", "(I)Z"⟩
abbrev m_T_hasShortTimeout : MethodName × ByteArray × Nat × Option FieldType := (y_T_hasShortTimeout, prog_5_method_21_code, 3, some .boolean)
theorem mi_T_hasShortTimeout : .code y_T_hasShortTimeout prog_5_method_21_code 3 (some .boolean) ∈ wT := wT_m 393 (by decide +kernel) rfl
theorem d_T_hasShortTimeout_0 : decode prog_5_method_21_code 0 = .ok (.iconst 1, 1) := by decide +kernel
theorem d_T_hasShortTimeout_1 : decode prog_5_method_21_code 1 = .ok (.istore_n 2, 1) := by decide +kernel
theorem d_T_hasShortTimeout_2 : decode prog_5_method_21_code 2 = .ok (.iload_n 2, 1) := by decide +kernel
theorem d_T_hasShortTimeout_3 : decode prog_5_method_21_code 3 = .ok (.bipush 20, 2) := by decide +kernel
theorem d_T_hasShortTimeout_5 : decode prog_5_method_21_code 5 = .ok (.if_icmp .gt 35, 3) := by decide +kernel
theorem d_T_hasShortTimeout_8 : decode prog_5_method_21_code 8 = .ok (.aload_n 0, 1) := by decide +kernel
theorem d_T_hasShortTimeout_9 : decode prog_5_method_21_code 9 = .ok (.iload_n 1, 1) := by decide +kernel
theorem d_T_hasShortTimeout_10 : decode prog_5_method_21_code 10 = .ok (.iload_n 2, 1) := by decide +kernel
theorem d_T_hasShortTimeout_11 : decode prog_5_method_21_code 11 = .ok (.invokevirtual 46, 3) := by decide +kernel
theorem d_T_hasShortTimeout_14 : decode prog_5_method_21_code 14 = .ok (.ifCond .eq 20, 3) := by decide +kernel
theorem d_T_hasShortTimeout_17 : decode prog_5_method_21_code 17 = .ok (.aload_n 0, 1) := by decide +kernel
theorem d_T_hasShortTimeout_18 : decode prog_5_method_21_code 18 = .ok (.iload_n 1, 1) := by decide +kernel
theorem d_T_hasShortTimeout_19 : decode prog_5_method_21_code 19 = .ok (.iload_n 2, 1) := by decide +kernel
theorem d_T_hasShortTimeout_20 : decode prog_5_method_21_code 20 = .ok (.invokevirtual 42, 3) := by decide +kernel
theorem d_T_hasShortTimeout_23 : decode prog_5_method_21_code 23 = .ok (.aload_n 0, 1) := by decide +kernel
theorem d_T_hasShortTimeout_24 : decode prog_5_method_21_code 24 = .ok (.getfield 15, 3) := by decide +kernel
theorem d_T_hasShortTimeout_27 : decode prog_5_method_21_code 27 = .ok (.iload_n 1, 1) := by decide +kernel
theorem d_T_hasShortTimeout_28 : decode prog_5_method_21_code 28 = .ok (.iaload, 1) := by decide +kernel
theorem d_T_hasShortTimeout_29 : decode prog_5_method_21_code 29 = .ok (.if_icmp .ge 5, 3) := by decide +kernel
theorem d_T_hasShortTimeout_32 : decode prog_5_method_21_code 32 = .ok (.iconst 1, 1) := by decide +kernel
theorem d_T_hasShortTimeout_33 : decode prog_5_method_21_code 33 = .ok (.ireturn, 1) := by decide +kernel
theorem d_T_hasShortTimeout_34 : decode prog_5_method_21_code 34 = .ok (.iinc 2 1, 3) := by decide +kernel
theorem d_T_hasShortTimeout_37 : decode prog_5_method_21_code 37 = .ok (.goto (-35), 3) := by decide +kernel
theorem d_T_hasShortTimeout_40 : decode prog_5_method_21_code 40 = .ok (.iconst 0, 1) := by decide +kernel
theorem d_T_hasShortTimeout_41 : decode prog_5_method_21_code 41 = .ok (.ireturn, 1) := by decide +kernel
abbrev y_T_repeatsAnEarlierOne : MethodName := ⟨"FrameTables$Table", "repeatsAnEarlierOne", "(I)Z"⟩
abbrev m_T_repeatsAnEarlierOne : MethodName × ByteArray × Nat × Option FieldType := (y_T_repeatsAnEarlierOne, prog_5_method_22_code, 3, some .boolean)
theorem mi_T_repeatsAnEarlierOne : .code y_T_repeatsAnEarlierOne prog_5_method_22_code 3 (some .boolean) ∈ wT := wT_m 397 (by decide +kernel) rfl
theorem d_T_repeatsAnEarlierOne_0 : decode prog_5_method_22_code 0 = .ok (.iconst 1, 1) := by decide +kernel
theorem d_T_repeatsAnEarlierOne_1 : decode prog_5_method_22_code 1 = .ok (.istore_n 2, 1) := by decide +kernel
theorem d_T_repeatsAnEarlierOne_2 : decode prog_5_method_22_code 2 = .ok (.iload_n 2, 1) := by decide +kernel
theorem d_T_repeatsAnEarlierOne_3 : decode prog_5_method_22_code 3 = .ok (.iload_n 1, 1) := by decide +kernel
theorem d_T_repeatsAnEarlierOne_4 : decode prog_5_method_22_code 4 = .ok (.if_icmp .ge 56, 3) := by decide +kernel
theorem d_T_repeatsAnEarlierOne_7 : decode prog_5_method_22_code 7 = .ok (.aload_n 0, 1) := by decide +kernel
theorem d_T_repeatsAnEarlierOne_8 : decode prog_5_method_22_code 8 = .ok (.getfield 9, 3) := by decide +kernel
theorem d_T_repeatsAnEarlierOne_11 : decode prog_5_method_22_code 11 = .ok (.iload_n 2, 1) := by decide +kernel
theorem d_T_repeatsAnEarlierOne_12 : decode prog_5_method_22_code 12 = .ok (.iaload, 1) := by decide +kernel
theorem d_T_repeatsAnEarlierOne_13 : decode prog_5_method_22_code 13 = .ok (.aload_n 0, 1) := by decide +kernel
theorem d_T_repeatsAnEarlierOne_14 : decode prog_5_method_22_code 14 = .ok (.getfield 9, 3) := by decide +kernel
theorem d_T_repeatsAnEarlierOne_17 : decode prog_5_method_22_code 17 = .ok (.iload_n 1, 1) := by decide +kernel
theorem d_T_repeatsAnEarlierOne_18 : decode prog_5_method_22_code 18 = .ok (.iaload, 1) := by decide +kernel
theorem d_T_repeatsAnEarlierOne_19 : decode prog_5_method_22_code 19 = .ok (.if_icmp .ne 35, 3) := by decide +kernel
theorem d_T_repeatsAnEarlierOne_22 : decode prog_5_method_22_code 22 = .ok (.aload_n 0, 1) := by decide +kernel
theorem d_T_repeatsAnEarlierOne_23 : decode prog_5_method_22_code 23 = .ok (.getfield 15, 3) := by decide +kernel
theorem d_T_repeatsAnEarlierOne_26 : decode prog_5_method_22_code 26 = .ok (.iload_n 2, 1) := by decide +kernel
theorem d_T_repeatsAnEarlierOne_27 : decode prog_5_method_22_code 27 = .ok (.iaload, 1) := by decide +kernel
theorem d_T_repeatsAnEarlierOne_28 : decode prog_5_method_22_code 28 = .ok (.aload_n 0, 1) := by decide +kernel
theorem d_T_repeatsAnEarlierOne_29 : decode prog_5_method_22_code 29 = .ok (.getfield 15, 3) := by decide +kernel
theorem d_T_repeatsAnEarlierOne_32 : decode prog_5_method_22_code 32 = .ok (.iload_n 1, 1) := by decide +kernel
theorem d_T_repeatsAnEarlierOne_33 : decode prog_5_method_22_code 33 = .ok (.iaload, 1) := by decide +kernel
theorem d_T_repeatsAnEarlierOne_34 : decode prog_5_method_22_code 34 = .ok (.if_icmp .ne 20, 3) := by decide +kernel
theorem d_T_repeatsAnEarlierOne_37 : decode prog_5_method_22_code 37 = .ok (.aload_n 0, 1) := by decide +kernel
theorem d_T_repeatsAnEarlierOne_38 : decode prog_5_method_22_code 38 = .ok (.getfield 18, 3) := by decide +kernel
theorem d_T_repeatsAnEarlierOne_41 : decode prog_5_method_22_code 41 = .ok (.iload_n 2, 1) := by decide +kernel
theorem d_T_repeatsAnEarlierOne_42 : decode prog_5_method_22_code 42 = .ok (.iaload, 1) := by decide +kernel
theorem d_T_repeatsAnEarlierOne_43 : decode prog_5_method_22_code 43 = .ok (.aload_n 0, 1) := by decide +kernel
theorem d_T_repeatsAnEarlierOne_44 : decode prog_5_method_22_code 44 = .ok (.getfield 18, 3) := by decide +kernel
theorem d_T_repeatsAnEarlierOne_47 : decode prog_5_method_22_code 47 = .ok (.iload_n 1, 1) := by decide +kernel
theorem d_T_repeatsAnEarlierOne_48 : decode prog_5_method_22_code 48 = .ok (.iaload, 1) := by decide +kernel
theorem d_T_repeatsAnEarlierOne_49 : decode prog_5_method_22_code 49 = .ok (.if_icmp .ne 5, 3) := by decide +kernel
theorem d_T_repeatsAnEarlierOne_52 : decode prog_5_method_22_code 52 = .ok (.iconst 1, 1) := by decide +kernel
theorem d_T_repeatsAnEarlierOne_53 : decode prog_5_method_22_code 53 = .ok (.ireturn, 1) := by decide +kernel
theorem d_T_repeatsAnEarlierOne_54 : decode prog_5_method_22_code 54 = .ok (.iinc 2 1, 3) := by decide +kernel
theorem d_T_repeatsAnEarlierOne_57 : decode prog_5_method_22_code 57 = .ok (.goto (-55), 3) := by decide +kernel
theorem d_T_repeatsAnEarlierOne_60 : decode prog_5_method_22_code 60 = .ok (.iconst 0, 1) := by decide +kernel
theorem d_T_repeatsAnEarlierOne_61 : decode prog_5_method_22_code 61 = .ok (.ireturn, 1) := by decide +kernel
abbrev y_X_add : MethodName := ⟨"FrameTables$Text", "add", "(C)V"⟩
abbrev m_X_add : MethodName × ByteArray × Nat × Option FieldType := (y_X_add, prog_6_method_6_code, 2, none)
theorem mi_X_add : .code y_X_add prog_6_method_6_code 2 none ∈ wT := wT_m 405 (by decide +kernel) rfl
theorem d_X_add_0 : decode prog_6_method_6_code 0 = .ok (.aload_n 0, 1) := by decide +kernel
theorem d_X_add_1 : decode prog_6_method_6_code 1 = .ok (.getfield 15, 3) := by decide +kernel
theorem d_X_add_4 : decode prog_6_method_6_code 4 = .ok (.sipush 2000, 3) := by decide +kernel
theorem d_X_add_7 : decode prog_6_method_6_code 7 = .ok (.if_icmp .lt 9, 3) := by decide +kernel
theorem d_X_add_10 : decode prog_6_method_6_code 10 = .ok (.aload_n 0, 1) := by decide +kernel
theorem d_X_add_11 : decode prog_6_method_6_code 11 = .ok (.iconst 1, 1) := by decide +kernel
theorem d_X_add_12 : decode prog_6_method_6_code 12 = .ok (.putfield 19, 3) := by decide +kernel
theorem d_X_add_15 : decode prog_6_method_6_code 15 = .ok (.return_, 1) := by decide +kernel
theorem d_X_add_16 : decode prog_6_method_6_code 16 = .ok (.aload_n 0, 1) := by decide +kernel
theorem d_X_add_17 : decode prog_6_method_6_code 17 = .ok (.getfield 9, 3) := by decide +kernel
theorem d_X_add_20 : decode prog_6_method_6_code 20 = .ok (.aload_n 0, 1) := by decide +kernel
theorem d_X_add_21 : decode prog_6_method_6_code 21 = .ok (.getfield 15, 3) := by decide +kernel
theorem d_X_add_24 : decode prog_6_method_6_code 24 = .ok (.iload_n 1, 1) := by decide +kernel
theorem d_X_add_25 : decode prog_6_method_6_code 25 = .ok (.castore, 1) := by decide +kernel
theorem d_X_add_26 : decode prog_6_method_6_code 26 = .ok (.aload_n 0, 1) := by decide +kernel
theorem d_X_add_27 : decode prog_6_method_6_code 27 = .ok (.dup, 1) := by decide +kernel
theorem d_X_add_28 : decode prog_6_method_6_code 28 = .ok (.getfield 15, 3) := by decide +kernel
theorem d_X_add_31 : decode prog_6_method_6_code 31 = .ok (.iconst 1, 1) := by decide +kernel
theorem d_X_add_32 : decode prog_6_method_6_code 32 = .ok (.iadd, 1) := by decide +kernel
theorem d_X_add_33 : decode prog_6_method_6_code 33 = .ok (.putfield 15, 3) := by decide +kernel
theorem d_X_add_36 : decode prog_6_method_6_code 36 = .ok (.return_, 1) := by decide +kernel
abbrev y_T_clear : MethodName := ⟨"FrameTables$Table", "clear", "()V"⟩
abbrev m_T_clear : MethodName × ByteArray × Nat × Option FieldType := (y_T_clear, prog_5_method_2_code, 1, none)
theorem mi_T_clear : .code y_T_clear prog_5_method_2_code 1 none ∈ wT := wT_m 417 (by decide +kernel) rfl
theorem d_T_clear_0 : decode prog_5_method_2_code 0 = .ok (.aload_n 0, 1) := by decide +kernel
theorem d_T_clear_1 : decode prog_5_method_2_code 1 = .ok (.iconst 0, 1) := by decide +kernel
theorem d_T_clear_2 : decode prog_5_method_2_code 2 = .ok (.putfield 30, 3) := by decide +kernel
theorem d_T_clear_5 : decode prog_5_method_2_code 5 = .ok (.return_, 1) := by decide +kernel
abbrev y_X_length : MethodName := ⟨"FrameTables$Text", "length", "()I"⟩
abbrev m_X_length : MethodName × ByteArray × Nat × Option FieldType := (y_X_length, prog_6_method_3_code, 1, some .int)
theorem mi_X_length : .code y_X_length prog_6_method_3_code 1 (some .int) ∈ wT := wT_m 421 (by decide +kernel) rfl
theorem d_X_length_0 : decode prog_6_method_3_code 0 = .ok (.aload_n 0, 1) := by decide +kernel
theorem d_X_length_1 : decode prog_6_method_3_code 1 = .ok (.getfield 15, 3) := by decide +kernel
theorem d_X_length_4 : decode prog_6_method_3_code 4 = .ok (.ireturn, 1) := by decide +kernel
abbrev y_X_signAt : MethodName := ⟨"FrameTables$Text", "signAt", "(I)I"⟩
abbrev m_X_signAt : MethodName × ByteArray × Nat × Option FieldType := (y_X_signAt, prog_6_method_5_code, 2, some .int)
theorem mi_X_signAt : .code y_X_signAt prog_6_method_5_code 2 (some .int) ∈ wT := wT_m 425 (by decide +kernel) rfl
theorem d_X_signAt_0 : decode prog_6_method_5_code 0 = .ok (.iload_n 1, 1) := by decide +kernel
theorem d_X_signAt_1 : decode prog_6_method_5_code 1 = .ok (.ifCond .lt 20, 3) := by decide +kernel
theorem d_X_signAt_4 : decode prog_6_method_5_code 4 = .ok (.iload_n 1, 1) := by decide +kernel
theorem d_X_signAt_5 : decode prog_6_method_5_code 5 = .ok (.aload_n 0, 1) := by decide +kernel
theorem d_X_signAt_6 : decode prog_6_method_5_code 6 = .ok (.getfield 15, 3) := by decide +kernel
theorem d_X_signAt_9 : decode prog_6_method_5_code 9 = .ok (.if_icmp .ge 12, 3) := by decide +kernel
theorem d_X_signAt_12 : decode prog_6_method_5_code 12 = .ok (.aload_n 0, 1) := by decide +kernel
theorem d_X_signAt_13 : decode prog_6_method_5_code 13 = .ok (.getfield 9, 3) := by decide +kernel
theorem d_X_signAt_16 : decode prog_6_method_5_code 16 = .ok (.iload_n 1, 1) := by decide +kernel
theorem d_X_signAt_17 : decode prog_6_method_5_code 17 = .ok (.caload, 1) := by decide +kernel
theorem d_X_signAt_18 : decode prog_6_method_5_code 18 = .ok (.goto 4, 3) := by decide +kernel
theorem d_X_signAt_21 : decode prog_6_method_5_code 21 = .ok (.iconst (-1), 1) := by decide +kernel
theorem d_X_signAt_22 : decode prog_6_method_5_code 22 = .ok (.ireturn, 1) := by decide +kernel
abbrev y_K_length : MethodName := ⟨"java/lang/String", "length", "()I"⟩
abbrev m_K_length : MethodName × ByteArray × Nat × Option FieldType := (y_K_length, prog_10_method_54_code, 1, some .int)
theorem mi_K_length : .code y_K_length prog_10_method_54_code 1 (some .int) ∈ wT := wT_m 442 (by decide +kernel) rfl
theorem d_K_length_0 : decode prog_10_method_54_code 0 = .ok (.aload_n 0, 1) := by decide +kernel
theorem d_K_length_1 : decode prog_10_method_54_code 1 = .ok (.getfield 9, 3) := by decide +kernel
theorem d_K_length_4 : decode prog_10_method_54_code 4 = .ok (.arraylength, 1) := by decide +kernel
theorem d_K_length_5 : decode prog_10_method_54_code 5 = .ok (.aload_n 0, 1) := by decide +kernel
theorem d_K_length_6 : decode prog_10_method_54_code 6 = .ok (.invokevirtual 335, 3) := by decide +kernel
theorem d_K_length_9 : decode prog_10_method_54_code 9 = .ok (.ishr, 1) := by decide +kernel
theorem d_K_length_10 : decode prog_10_method_54_code 10 = .ok (.ireturn, 1) := by decide +kernel
abbrev y_K_coder : MethodName := ⟨"java/lang/String", "coder", "()B"⟩
abbrev m_K_coder : MethodName × ByteArray × Nat × Option FieldType := (y_K_coder, prog_10_method_152_code, 1, some .byte)
theorem mi_K_coder : .code y_K_coder prog_10_method_152_code 1 (some .byte) ∈ wT := wT_m 446 (by decide +kernel) rfl
theorem d_K_coder_0 : decode prog_10_method_152_code 0 = .ok (.getstatic 38, 3) := by decide +kernel
theorem d_K_coder_3 : decode prog_10_method_152_code 3 = .ok (.ifCond .eq 10, 3) := by decide +kernel
theorem d_K_coder_6 : decode prog_10_method_152_code 6 = .ok (.aload_n 0, 1) := by decide +kernel
theorem d_K_coder_7 : decode prog_10_method_152_code 7 = .ok (.getfield 15, 3) := by decide +kernel
theorem d_K_coder_10 : decode prog_10_method_152_code 10 = .ok (.goto 4, 3) := by decide +kernel
theorem d_K_coder_13 : decode prog_10_method_152_code 13 = .ok (.iconst 1, 1) := by decide +kernel
theorem d_K_coder_14 : decode prog_10_method_152_code 14 = .ok (.ireturn, 1) := by decide +kernel
abbrev y_K_charAt : MethodName := ⟨"java/lang/String", "charAt", "(I)C"⟩
abbrev m_K_charAt : MethodName × ByteArray × Nat × Option FieldType := (y_K_charAt, prog_10_method_56_code, 2, some .char)
theorem mi_K_charAt : .code y_K_charAt prog_10_method_56_code 2 (some .char) ∈ wT := wT_m 452 (by decide +kernel) rfl
theorem d_K_charAt_0 : decode prog_10_method_56_code 0 = .ok (.aload_n 0, 1) := by decide +kernel
theorem d_K_charAt_1 : decode prog_10_method_56_code 1 = .ok (.invokevirtual 492, 3) := by decide +kernel
theorem d_K_charAt_4 : decode prog_10_method_56_code 4 = .ok (.ifCond .eq 12, 3) := by decide +kernel
theorem d_K_charAt_7 : decode prog_10_method_56_code 7 = .ok (.aload_n 0, 1) := by decide +kernel
theorem d_K_charAt_8 : decode prog_10_method_56_code 8 = .ok (.getfield 9, 3) := by decide +kernel
theorem d_K_charAt_11 : decode prog_10_method_56_code 11 = .ok (.iload_n 1, 1) := by decide +kernel
theorem d_K_charAt_12 : decode prog_10_method_56_code 12 = .ok (.invokestatic 495, 3) := by decide +kernel
theorem d_K_charAt_15 : decode prog_10_method_56_code 15 = .ok (.ireturn, 1) := by decide +kernel
theorem d_K_charAt_16 : decode prog_10_method_56_code 16 = .ok (.aload_n 0, 1) := by decide +kernel
theorem d_K_charAt_17 : decode prog_10_method_56_code 17 = .ok (.getfield 9, 3) := by decide +kernel
theorem d_K_charAt_20 : decode prog_10_method_56_code 20 = .ok (.iload_n 1, 1) := by decide +kernel
theorem d_K_charAt_21 : decode prog_10_method_56_code 21 = .ok (.invokestatic 498, 3) := by decide +kernel
theorem d_K_charAt_24 : decode prog_10_method_56_code 24 = .ok (.ireturn, 1) := by decide +kernel
abbrev y_K_isLatin1 : MethodName := ⟨"java/lang/String", "isLatin1", "()Z"⟩
abbrev m_K_isLatin1 : MethodName × ByteArray × Nat × Option FieldType := (y_K_isLatin1, prog_10_method_154_code, 1, some .boolean)
theorem mi_K_isLatin1 : .code y_K_isLatin1 prog_10_method_154_code 1 (some .boolean) ∈ wT := wT_m 456 (by decide +kernel) rfl
theorem d_K_isLatin1_0 : decode prog_10_method_154_code 0 = .ok (.getstatic 38, 3) := by decide +kernel
theorem d_K_isLatin1_3 : decode prog_10_method_154_code 3 = .ok (.ifCond .eq 14, 3) := by decide +kernel
theorem d_K_isLatin1_6 : decode prog_10_method_154_code 6 = .ok (.aload_n 0, 1) := by decide +kernel
theorem d_K_isLatin1_7 : decode prog_10_method_154_code 7 = .ok (.getfield 15, 3) := by decide +kernel
theorem d_K_isLatin1_10 : decode prog_10_method_154_code 10 = .ok (.ifCond .ne 7, 3) := by decide +kernel
theorem d_K_isLatin1_13 : decode prog_10_method_154_code 13 = .ok (.iconst 1, 1) := by decide +kernel
theorem d_K_isLatin1_14 : decode prog_10_method_154_code 14 = .ok (.goto 4, 3) := by decide +kernel
theorem d_K_isLatin1_17 : decode prog_10_method_154_code 17 = .ok (.iconst 0, 1) := by decide +kernel
theorem d_K_isLatin1_18 : decode prog_10_method_154_code 18 = .ok (.ireturn, 1) := by decide +kernel
abbrev y_L_charAt : MethodName := ⟨"java/lang/StringLatin1", "charAt", "([BI)C"⟩
abbrev m_L_charAt : MethodName × ByteArray × Nat × Option FieldType := (y_L_charAt, prog_11_method_2_code, 2, some .char)
theorem mi_L_charAt : .code y_L_charAt prog_11_method_2_code 2 (some .char) ∈ wT := wT_m 459 (by decide +kernel) rfl
theorem d_L_charAt_0 : decode prog_11_method_2_code 0 = .ok (.iload_n 1, 1) := by decide +kernel
theorem d_L_charAt_1 : decode prog_11_method_2_code 1 = .ok (.aload_n 0, 1) := by decide +kernel
theorem d_L_charAt_2 : decode prog_11_method_2_code 2 = .ok (.arraylength, 1) := by decide +kernel
theorem d_L_charAt_3 : decode prog_11_method_2_code 3 = .ok (.invokestatic 9, 3) := by decide +kernel
theorem d_L_charAt_6 : decode prog_11_method_2_code 6 = .ok (.aload_n 0, 1) := by decide +kernel
theorem d_L_charAt_7 : decode prog_11_method_2_code 7 = .ok (.iload_n 1, 1) := by decide +kernel
theorem d_L_charAt_8 : decode prog_11_method_2_code 8 = .ok (.baload, 1) := by decide +kernel
theorem d_L_charAt_9 : decode prog_11_method_2_code 9 = .ok (.sipush 255, 3) := by decide +kernel
theorem d_L_charAt_12 : decode prog_11_method_2_code 12 = .ok (.iand, 1) := by decide +kernel
theorem d_L_charAt_13 : decode prog_11_method_2_code 13 = .ok (.i2c, 1) := by decide +kernel
theorem d_L_charAt_14 : decode prog_11_method_2_code 14 = .ok (.ireturn, 1) := by decide +kernel
abbrev y_K_checkIndex : MethodName := ⟨"java/lang/String", "checkIndex", "(II)V"⟩
abbrev m_K_checkIndex : MethodName × ByteArray × Nat × Option FieldType := (y_K_checkIndex, prog_10_method_155_code, 2, none)
theorem mi_K_checkIndex : .code y_K_checkIndex prog_10_method_155_code 2 none ∈ wT := wT_m 462 (by decide +kernel) rfl
theorem d_K_checkIndex_0 : decode prog_10_method_155_code 0 = .ok (.iload_n 0, 1) := by decide +kernel
theorem d_K_checkIndex_1 : decode prog_10_method_155_code 1 = .ok (.iload_n 1, 1) := by decide +kernel
theorem d_K_checkIndex_2 : decode prog_10_method_155_code 2 = .ok (.getstatic 1053, 3) := by decide +kernel
theorem d_K_checkIndex_5 : decode prog_10_method_155_code 5 = .ok (.invokestatic 1059, 3) := by decide +kernel
theorem d_K_checkIndex_8 : decode prog_10_method_155_code 8 = .ok (.pop, 1) := by decide +kernel
theorem d_K_checkIndex_9 : decode prog_10_method_155_code 9 = .ok (.return_, 1) := by decide +kernel
abbrev y_J_checkIndex : MethodName := ⟨"jdk/internal/util/Preconditions", "checkIndex", "(IILjava/util/function/BiFunction;)I"⟩
abbrev m_J_checkIndex : MethodName × ByteArray × Nat × Option FieldType := (y_J_checkIndex, prog_13_method_11_code, 3, some .int)
theorem mi_J_checkIndex : .code y_J_checkIndex prog_13_method_11_code 3 (some .int) ∈ wT := wT_m 467 (by decide +kernel) rfl
theorem d_J_checkIndex_0 : decode prog_13_method_11_code 0 = .ok (.iload_n 0, 1) := by decide +kernel
theorem d_J_checkIndex_1 : decode prog_13_method_11_code 1 = .ok (.ifCond .lt 8, 3) := by decide +kernel
theorem d_J_checkIndex_4 : decode prog_13_method_11_code 4 = .ok (.iload_n 0, 1) := by decide +kernel
theorem d_J_checkIndex_5 : decode prog_13_method_11_code 5 = .ok (.iload_n 1, 1) := by decide +kernel
theorem d_J_checkIndex_6 : decode prog_13_method_11_code 6 = .ok (.if_icmp .lt 10, 3) := by decide +kernel
theorem d_J_checkIndex_9 : decode prog_13_method_11_code 9 = .ok (.aload_n 2, 1) := by decide +kernel
theorem d_J_checkIndex_10 : decode prog_13_method_11_code 10 = .ok (.iload_n 0, 1) := by decide +kernel
theorem d_J_checkIndex_11 : decode prog_13_method_11_code 11 = .ok (.iload_n 1, 1) := by decide +kernel
theorem d_J_checkIndex_16 : decode prog_13_method_11_code 16 = .ok (.iload_n 0, 1) := by decide +kernel
theorem d_J_checkIndex_17 : decode prog_13_method_11_code 17 = .ok (.ireturn, 1) := by decide +kernel
abbrev y_X_clear : MethodName := ⟨"FrameTables$Text", "clear", "()V"⟩
abbrev m_X_clear : MethodName × ByteArray × Nat × Option FieldType := (y_X_clear, prog_6_method_2_code, 1, none)
theorem mi_X_clear : .code y_X_clear prog_6_method_2_code 1 none ∈ wT := wT_m 515 (by decide +kernel) rfl
theorem d_X_clear_0 : decode prog_6_method_2_code 0 = .ok (.aload_n 0, 1) := by decide +kernel
theorem d_X_clear_1 : decode prog_6_method_2_code 1 = .ok (.iconst 0, 1) := by decide +kernel
theorem d_X_clear_2 : decode prog_6_method_2_code 2 = .ok (.putfield 15, 3) := by decide +kernel
theorem d_X_clear_5 : decode prog_6_method_2_code 5 = .ok (.aload_n 0, 1) := by decide +kernel
theorem d_X_clear_6 : decode prog_6_method_2_code 6 = .ok (.iconst 0, 1) := by decide +kernel
theorem d_X_clear_7 : decode prog_6_method_2_code 7 = .ok (.putfield 19, 3) := by decide +kernel
theorem d_X_clear_10 : decode prog_6_method_2_code 10 = .ok (.return_, 1) := by decide +kernel
abbrev y_X_addWord : MethodName := ⟨"FrameTables$Text", "addWord", "(Ljava/lang/String;)V"⟩
abbrev m_X_addWord : MethodName × ByteArray × Nat × Option FieldType := (y_X_addWord, prog_6_method_7_code, 3, none)
theorem mi_X_addWord : .code y_X_addWord prog_6_method_7_code 3 none ∈ wT := wT_m 529 (by decide +kernel) rfl
theorem d_X_addWord_0 : decode prog_6_method_7_code 0 = .ok (.iconst 0, 1) := by decide +kernel
theorem d_X_addWord_1 : decode prog_6_method_7_code 1 = .ok (.istore_n 2, 1) := by decide +kernel
theorem d_X_addWord_2 : decode prog_6_method_7_code 2 = .ok (.iload_n 2, 1) := by decide +kernel
theorem d_X_addWord_3 : decode prog_6_method_7_code 3 = .ok (.aload_n 1, 1) := by decide +kernel
theorem d_X_addWord_4 : decode prog_6_method_7_code 4 = .ok (.invokevirtual 23, 3) := by decide +kernel
theorem d_X_addWord_7 : decode prog_6_method_7_code 7 = .ok (.if_icmp .ge 18, 3) := by decide +kernel
theorem d_X_addWord_10 : decode prog_6_method_7_code 10 = .ok (.aload_n 0, 1) := by decide +kernel
theorem d_X_addWord_11 : decode prog_6_method_7_code 11 = .ok (.aload_n 1, 1) := by decide +kernel
theorem d_X_addWord_12 : decode prog_6_method_7_code 12 = .ok (.iload_n 2, 1) := by decide +kernel
theorem d_X_addWord_13 : decode prog_6_method_7_code 13 = .ok (.invokevirtual 28, 3) := by decide +kernel
theorem d_X_addWord_16 : decode prog_6_method_7_code 16 = .ok (.invokevirtual 32, 3) := by decide +kernel
theorem d_X_addWord_19 : decode prog_6_method_7_code 19 = .ok (.iinc 2 1, 3) := by decide +kernel
theorem d_X_addWord_22 : decode prog_6_method_7_code 22 = .ok (.goto (-20), 3) := by decide +kernel
theorem d_X_addWord_25 : decode prog_6_method_7_code 25 = .ok (.return_, 1) := by decide +kernel
abbrev y_X_addNumber : MethodName := ⟨"FrameTables$Text", "addNumber", "(I)V"⟩
abbrev m_X_addNumber : MethodName × ByteArray × Nat × Option FieldType := (y_X_addNumber, prog_6_method_8_code, 4, none)
theorem mi_X_addNumber : .code y_X_addNumber prog_6_method_8_code 4 none ∈ wT := wT_m 536 (by decide +kernel) rfl
theorem d_X_addNumber_0 : decode prog_6_method_8_code 0 = .ok (.aload_n 0, 1) := by decide +kernel
theorem d_X_addNumber_1 : decode prog_6_method_8_code 1 = .ok (.bipush 32, 2) := by decide +kernel
theorem d_X_addNumber_3 : decode prog_6_method_8_code 3 = .ok (.invokevirtual 32, 3) := by decide +kernel
theorem d_X_addNumber_6 : decode prog_6_method_8_code 6 = .ok (.iconst 1, 1) := by decide +kernel
theorem d_X_addNumber_7 : decode prog_6_method_8_code 7 = .ok (.istore_n 2, 1) := by decide +kernel
theorem d_X_addNumber_8 : decode prog_6_method_8_code 8 = .ok (.iload_n 2, 1) := by decide +kernel
theorem d_X_addNumber_9 : decode prog_6_method_8_code 9 = .ok (.iload_n 1, 1) := by decide +kernel
theorem d_X_addNumber_10 : decode prog_6_method_8_code 10 = .ok (.bipush 10, 2) := by decide +kernel
theorem d_X_addNumber_12 : decode prog_6_method_8_code 12 = .ok (.idiv, 1) := by decide +kernel
theorem d_X_addNumber_13 : decode prog_6_method_8_code 13 = .ok (.if_icmp .gt 11, 3) := by decide +kernel
theorem d_X_addNumber_16 : decode prog_6_method_8_code 16 = .ok (.iload_n 2, 1) := by decide +kernel
theorem d_X_addNumber_17 : decode prog_6_method_8_code 17 = .ok (.bipush 10, 2) := by decide +kernel
theorem d_X_addNumber_19 : decode prog_6_method_8_code 19 = .ok (.imul, 1) := by decide +kernel
theorem d_X_addNumber_20 : decode prog_6_method_8_code 20 = .ok (.istore_n 2, 1) := by decide +kernel
theorem d_X_addNumber_21 : decode prog_6_method_8_code 21 = .ok (.goto (-13), 3) := by decide +kernel
theorem d_X_addNumber_24 : decode prog_6_method_8_code 24 = .ok (.iload_n 2, 1) := by decide +kernel
theorem d_X_addNumber_25 : decode prog_6_method_8_code 25 = .ok (.istore_n 3, 1) := by decide +kernel
theorem d_X_addNumber_26 : decode prog_6_method_8_code 26 = .ok (.iload_n 3, 1) := by decide +kernel
theorem d_X_addNumber_27 : decode prog_6_method_8_code 27 = .ok (.ifCond .le 25, 3) := by decide +kernel
theorem d_X_addNumber_30 : decode prog_6_method_8_code 30 = .ok (.aload_n 0, 1) := by decide +kernel
theorem d_X_addNumber_31 : decode prog_6_method_8_code 31 = .ok (.bipush 48, 2) := by decide +kernel
theorem d_X_addNumber_33 : decode prog_6_method_8_code 33 = .ok (.iload_n 1, 1) := by decide +kernel
theorem d_X_addNumber_34 : decode prog_6_method_8_code 34 = .ok (.iload_n 3, 1) := by decide +kernel
theorem d_X_addNumber_35 : decode prog_6_method_8_code 35 = .ok (.idiv, 1) := by decide +kernel
theorem d_X_addNumber_36 : decode prog_6_method_8_code 36 = .ok (.bipush 10, 2) := by decide +kernel
theorem d_X_addNumber_38 : decode prog_6_method_8_code 38 = .ok (.irem, 1) := by decide +kernel
theorem d_X_addNumber_39 : decode prog_6_method_8_code 39 = .ok (.iadd, 1) := by decide +kernel
theorem d_X_addNumber_40 : decode prog_6_method_8_code 40 = .ok (.i2c, 1) := by decide +kernel
theorem d_X_addNumber_41 : decode prog_6_method_8_code 41 = .ok (.invokevirtual 32, 3) := by decide +kernel
theorem d_X_addNumber_44 : decode prog_6_method_8_code 44 = .ok (.iload_n 3, 1) := by decide +kernel
theorem d_X_addNumber_45 : decode prog_6_method_8_code 45 = .ok (.bipush 10, 2) := by decide +kernel
theorem d_X_addNumber_47 : decode prog_6_method_8_code 47 = .ok (.idiv, 1) := by decide +kernel
theorem d_X_addNumber_48 : decode prog_6_method_8_code 48 = .ok (.istore_n 3, 1) := by decide +kernel
theorem d_X_addNumber_49 : decode prog_6_method_8_code 49 = .ok (.goto (-23), 3) := by decide +kernel
theorem d_X_addNumber_52 : decode prog_6_method_8_code 52 = .ok (.return_, 1) := by decide +kernel
abbrev y_T_rankOf : MethodName := ⟨"FrameTables$Table", "rankOf", "(I)I"⟩
abbrev m_T_rankOf : MethodName × ByteArray × Nat × Option FieldType := (y_T_rankOf, prog_5_method_9_code, 2, some .int)
theorem mi_T_rankOf : .code y_T_rankOf prog_5_method_9_code 2 (some .int) ∈ wT := wT_m 540 (by decide +kernel) rfl
theorem d_T_rankOf_0 : decode prog_5_method_9_code 0 = .ok (.aload_n 0, 1) := by decide +kernel
theorem d_T_rankOf_1 : decode prog_5_method_9_code 1 = .ok (.getfield 18, 3) := by decide +kernel
theorem d_T_rankOf_4 : decode prog_5_method_9_code 4 = .ok (.iload_n 1, 1) := by decide +kernel
theorem d_T_rankOf_5 : decode prog_5_method_9_code 5 = .ok (.iaload, 1) := by decide +kernel
theorem d_T_rankOf_6 : decode prog_5_method_9_code 6 = .ok (.ireturn, 1) := by decide +kernel
abbrev y_T_gapOf : MethodName := ⟨"FrameTables$Table", "gapOf", "(I)I"⟩
abbrev m_T_gapOf : MethodName × ByteArray × Nat × Option FieldType := (y_T_gapOf, prog_5_method_11_code, 2, some .int)
theorem mi_T_gapOf : .code y_T_gapOf prog_5_method_11_code 2 (some .int) ∈ wT := wT_m 544 (by decide +kernel) rfl
theorem d_T_gapOf_0 : decode prog_5_method_11_code 0 = .ok (.aload_n 0, 1) := by decide +kernel
theorem d_T_gapOf_1 : decode prog_5_method_11_code 1 = .ok (.getfield 21, 3) := by decide +kernel
theorem d_T_gapOf_4 : decode prog_5_method_11_code 4 = .ok (.iload_n 1, 1) := by decide +kernel
theorem d_T_gapOf_5 : decode prog_5_method_11_code 5 = .ok (.iaload, 1) := by decide +kernel
theorem d_T_gapOf_6 : decode prog_5_method_11_code 6 = .ok (.ireturn, 1) := by decide +kernel
abbrev y_X_hasLostSigns : MethodName := ⟨"FrameTables$Text", "hasLostSigns", "()Z"⟩
abbrev m_X_hasLostSigns : MethodName × ByteArray × Nat × Option FieldType := (y_X_hasLostSigns, prog_6_method_4_code, 1, some .boolean)
theorem mi_X_hasLostSigns : .code y_X_hasLostSigns prog_6_method_4_code 1 (some .boolean) ∈ wT := wT_m 551 (by decide +kernel) rfl
theorem d_X_hasLostSigns_0 : decode prog_6_method_4_code 0 = .ok (.aload_n 0, 1) := by decide +kernel
theorem d_X_hasLostSigns_1 : decode prog_6_method_4_code 1 = .ok (.getfield 19, 3) := by decide +kernel
theorem d_X_hasLostSigns_4 : decode prog_6_method_4_code 4 = .ok (.ireturn, 1) := by decide +kernel
abbrev y_T_touches : MethodName := ⟨"FrameTables$Table", "touches", "(II)Z"⟩
abbrev m_T_touches : MethodName × ByteArray × Nat × Option FieldType := (y_T_touches, prog_5_method_18_code, 3, some .boolean)
theorem mi_T_touches : .code y_T_touches prog_5_method_18_code 3 (some .boolean) ∈ wT := wT_m 565 (by decide +kernel) rfl
theorem d_T_touches_0 : decode prog_5_method_18_code 0 = .ok (.aload_n 0, 1) := by decide +kernel
theorem d_T_touches_1 : decode prog_5_method_18_code 1 = .ok (.getfield 9, 3) := by decide +kernel
theorem d_T_touches_4 : decode prog_5_method_18_code 4 = .ok (.iload_n 1, 1) := by decide +kernel
theorem d_T_touches_5 : decode prog_5_method_18_code 5 = .ok (.iaload, 1) := by decide +kernel
theorem d_T_touches_6 : decode prog_5_method_18_code 6 = .ok (.iload_n 2, 1) := by decide +kernel
theorem d_T_touches_7 : decode prog_5_method_18_code 7 = .ok (.if_icmp .eq 12, 3) := by decide +kernel
theorem d_T_touches_10 : decode prog_5_method_18_code 10 = .ok (.aload_n 0, 1) := by decide +kernel
theorem d_T_touches_11 : decode prog_5_method_18_code 11 = .ok (.iload_n 1, 1) := by decide +kernel
theorem d_T_touches_12 : decode prog_5_method_18_code 12 = .ok (.iload_n 2, 1) := by decide +kernel
theorem d_T_touches_13 : decode prog_5_method_18_code 13 = .ok (.invokevirtual 46, 3) := by decide +kernel
theorem d_T_touches_16 : decode prog_5_method_18_code 16 = .ok (.ifCond .eq 7, 3) := by decide +kernel
theorem d_T_touches_19 : decode prog_5_method_18_code 19 = .ok (.iconst 1, 1) := by decide +kernel
theorem d_T_touches_20 : decode prog_5_method_18_code 20 = .ok (.goto 4, 3) := by decide +kernel
theorem d_T_touches_23 : decode prog_5_method_18_code 23 = .ok (.iconst 0, 1) := by decide +kernel
theorem d_T_touches_24 : decode prog_5_method_18_code 24 = .ok (.ireturn, 1) := by decide +kernel
