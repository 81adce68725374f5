abbrev y_F_init : MethodName := ⟨"FrameTables", "<init>", "()V"⟩
abbrev m_F_init : MethodName × ByteArray × Nat × Option FieldType := (y_F_init, prog_1_method_1_code, 1, none)
theorem mi_F_init : .code y_F_init prog_1_method_1_code 1 none ∈ wT := wT_m 57 (by decide +kernel) rfl
theorem d_F_init_0 : decode prog_1_method_1_code 0 = .ok (.aload_n 0, 1) := by decide +kernel
theorem d_F_init_1 : decode prog_1_method_1_code 1 = .ok (.invokespecial 1, 3) := by decide +kernel
theorem d_F_init_4 : decode prog_1_method_1_code 4 = .ok (.aload_n 0, 1) := by decide +kernel
theorem d_F_init_5 : decode prog_1_method_1_code 5 = .ok (.new 7, 3) := by decide +kernel
theorem d_F_init_8 : decode prog_1_method_1_code 8 = .ok (.dup, 1) := by decide +kernel
theorem d_F_init_9 : decode prog_1_method_1_code 9 = .ok (.invokespecial 9, 3) := by decide +kernel
theorem d_F_init_12 : decode prog_1_method_1_code 12 = .ok (.putfield 10, 3) := by decide +kernel
theorem d_F_init_15 : decode prog_1_method_1_code 15 = .ok (.aload_n 0, 1) := by decide +kernel
theorem d_F_init_16 : decode prog_1_method_1_code 16 = .ok (.new 7, 3) := by decide +kernel
theorem d_F_init_19 : decode prog_1_method_1_code 19 = .ok (.dup, 1) := by decide +kernel
theorem d_F_init_20 : decode prog_1_method_1_code 20 = .ok (.invokespecial 9, 3) := by decide +kernel
theorem d_F_init_23 : decode prog_1_method_1_code 23 = .ok (.putfield 16, 3) := by decide +kernel
theorem d_F_init_26 : decode prog_1_method_1_code 26 = .ok (.aload_n 0, 1) := by decide +kernel
theorem d_F_init_27 : decode prog_1_method_1_code 27 = .ok (.new 19, 3) := by decide +kernel
theorem d_F_init_30 : decode prog_1_method_1_code 30 = .ok (.dup, 1) := by decide +kernel
theorem d_F_init_31 : decode prog_1_method_1_code 31 = .ok (.invokespecial 21, 3) := by decide +kernel
theorem d_F_init_34 : decode prog_1_method_1_code 34 = .ok (.putfield 22, 3) := by decide +kernel
theorem d_F_init_37 : decode prog_1_method_1_code 37 = .ok (.aload_n 0, 1) := by decide +kernel
theorem d_F_init_38 : decode prog_1_method_1_code 38 = .ok (.new 26, 3) := by decide +kernel
theorem d_F_init_41 : decode prog_1_method_1_code 41 = .ok (.dup, 1) := by decide +kernel
theorem d_F_init_42 : decode prog_1_method_1_code 42 = .ok (.invokespecial 28, 3) := by decide +kernel
theorem d_F_init_45 : decode prog_1_method_1_code 45 = .ok (.putfield 29, 3) := by decide +kernel
theorem d_F_init_48 : decode prog_1_method_1_code 48 = .ok (.aload_n 0, 1) := by decide +kernel
theorem d_F_init_49 : decode prog_1_method_1_code 49 = .ok (.new 33, 3) := by decide +kernel
theorem d_F_init_52 : decode prog_1_method_1_code 52 = .ok (.dup, 1) := by decide +kernel
theorem d_F_init_53 : decode prog_1_method_1_code 53 = .ok (.aload_n 0, 1) := by decide +kernel
theorem d_F_init_54 : decode prog_1_method_1_code 54 = .ok (.getfield 29, 3) := by decide +kernel
theorem d_F_init_57 : decode prog_1_method_1_code 57 = .ok (.invokespecial 35, 3) := by decide +kernel
theorem d_F_init_60 : decode prog_1_method_1_code 60 = .ok (.putfield 38, 3) := by decide +kernel
theorem d_F_init_63 : decode prog_1_method_1_code 63 = .ok (.aload_n 0, 1) := by decide +kernel
theorem d_F_init_64 : decode prog_1_method_1_code 64 = .ok (.new 42, 3) := by decide +kernel
theorem d_F_init_67 : decode prog_1_method_1_code 67 = .ok (.dup, 1) := by decide +kernel
theorem d_F_init_68 : decode prog_1_method_1_code 68 = .ok (.invokespecial 44, 3) := by decide +kernel
theorem d_F_init_71 : decode prog_1_method_1_code 71 = .ok (.putfield 45, 3) := by decide +kernel
theorem d_F_init_74 : decode prog_1_method_1_code 74 = .ok (.aload_n 0, 1) := by decide +kernel
theorem d_F_init_75 : decode prog_1_method_1_code 75 = .ok (.iconst 0, 1) := by decide +kernel
theorem d_F_init_76 : decode prog_1_method_1_code 76 = .ok (.putfield 49, 3) := by decide +kernel
theorem d_F_init_79 : decode prog_1_method_1_code 79 = .ok (.return_, 1) := by decide +kernel
abbrev y_P_init : MethodName := ⟨"FrameTables$Parser", "<init>", "(LFrameTables$Text;)V"⟩
abbrev m_P_init : MethodName × ByteArray × Nat × Option FieldType := (y_P_init, prog_2_method_1_code, 2, none)
theorem mi_P_init : .code y_P_init prog_2_method_1_code 2 none ∈ wT := wT_m 124 (by decide +kernel) rfl
theorem d_P_init_0 : decode prog_2_method_1_code 0 = .ok (.aload_n 0, 1) := by decide +kernel
theorem d_P_init_1 : decode prog_2_method_1_code 1 = .ok (.invokespecial 3, 3) := by decide +kernel
theorem d_P_init_4 : decode prog_2_method_1_code 4 = .ok (.aload_n 0, 1) := by decide +kernel
theorem d_P_init_5 : decode prog_2_method_1_code 5 = .ok (.iconst 0, 1) := by decide +kernel
theorem d_P_init_6 : decode prog_2_method_1_code 6 = .ok (.putfield 9, 3) := by decide +kernel
theorem d_P_init_9 : decode prog_2_method_1_code 9 = .ok (.aload_n 0, 1) := by decide +kernel
theorem d_P_init_10 : decode prog_2_method_1_code 10 = .ok (.iconst 0, 1) := by decide +kernel
theorem d_P_init_11 : decode prog_2_method_1_code 11 = .ok (.putfield 15, 3) := by decide +kernel
theorem d_P_init_14 : decode prog_2_method_1_code 14 = .ok (.aload_n 0, 1) := by decide +kernel
theorem d_P_init_15 : decode prog_2_method_1_code 15 = .ok (.iconst 0, 1) := by decide +kernel
theorem d_P_init_16 : decode prog_2_method_1_code 16 = .ok (.putfield 18, 3) := by decide +kernel
theorem d_P_init_19 : decode prog_2_method_1_code 19 = .ok (.aload_n 0, 1) := by decide +kernel
theorem d_P_init_20 : decode prog_2_method_1_code 20 = .ok (.aload_n 1, 1) := by decide +kernel
theorem d_P_init_21 : decode prog_2_method_1_code 21 = .ok (.putfield 21, 3) := by decide +kernel
theorem d_P_init_24 : decode prog_2_method_1_code 24 = .ok (.return_, 1) := by decide +kernel
abbrev y_F_frame : MethodName := ⟨"FrameTables", "frame", "(III)I"⟩
abbrev m_F_frame : MethodName × ByteArray × Nat × Option FieldType := (y_F_frame, prog_1_method_2_code, 4, some .int)
theorem mi_F_frame : .code y_F_frame prog_1_method_2_code 4 (some .int) ∈ wT := wT_m 198 (by decide +kernel) rfl
theorem d_F_frame_0 : decode prog_1_method_2_code 0 = .ok (.iload_n 1, 1) := by decide +kernel
theorem d_F_frame_1 : decode prog_1_method_2_code 1 = .ok (.invokestatic 53, 3) := by decide +kernel
theorem d_F_frame_4 : decode prog_1_method_2_code 4 = .ok (.ifCond .eq 17, 3) := by decide +kernel
theorem d_F_frame_7 : decode prog_1_method_2_code 7 = .ok (.iload_n 2, 1) := by decide +kernel
theorem d_F_frame_8 : decode prog_1_method_2_code 8 = .ok (.invokestatic 57, 3) := by decide +kernel
theorem d_F_frame_11 : decode prog_1_method_2_code 11 = .ok (.ifCond .eq 10, 3) := by decide +kernel
theorem d_F_frame_14 : decode prog_1_method_2_code 14 = .ok (.iload_n 3, 1) := by decide +kernel
theorem d_F_frame_15 : decode prog_1_method_2_code 15 = .ok (.invokestatic 60, 3) := by decide +kernel
theorem d_F_frame_18 : decode prog_1_method_2_code 18 = .ok (.ifCond .ne 6, 3) := by decide +kernel
theorem d_F_frame_21 : decode prog_1_method_2_code 21 = .ok (.bipush (-2), 2) := by decide +kernel
theorem d_F_frame_23 : decode prog_1_method_2_code 23 = .ok (.ireturn, 1) := by decide +kernel
theorem d_F_frame_24 : decode prog_1_method_2_code 24 = .ok (.aload_n 0, 1) := by decide +kernel
theorem d_F_frame_25 : decode prog_1_method_2_code 25 = .ok (.getfield 10, 3) := by decide +kernel
theorem d_F_frame_28 : decode prog_1_method_2_code 28 = .ok (.invokevirtual 63, 3) := by decide +kernel
theorem d_F_frame_31 : decode prog_1_method_2_code 31 = .ok (.ifCond .eq 6, 3) := by decide +kernel
theorem d_F_frame_34 : decode prog_1_method_2_code 34 = .ok (.bipush (-4), 2) := by decide +kernel
theorem d_F_frame_36 : decode prog_1_method_2_code 36 = .ok (.ireturn, 1) := by decide +kernel
theorem d_F_frame_37 : decode prog_1_method_2_code 37 = .ok (.aload_n 0, 1) := by decide +kernel
theorem d_F_frame_38 : decode prog_1_method_2_code 38 = .ok (.iconst 0, 1) := by decide +kernel
theorem d_F_frame_39 : decode prog_1_method_2_code 39 = .ok (.putfield 49, 3) := by decide +kernel
theorem d_F_frame_42 : decode prog_1_method_2_code 42 = .ok (.aload_n 0, 1) := by decide +kernel
theorem d_F_frame_43 : decode prog_1_method_2_code 43 = .ok (.getfield 10, 3) := by decide +kernel
theorem d_F_frame_46 : decode prog_1_method_2_code 46 = .ok (.iload_n 1, 1) := by decide +kernel
theorem d_F_frame_47 : decode prog_1_method_2_code 47 = .ok (.iload_n 2, 1) := by decide +kernel
theorem d_F_frame_48 : decode prog_1_method_2_code 48 = .ok (.iload_n 3, 1) := by decide +kernel
theorem d_F_frame_49 : decode prog_1_method_2_code 49 = .ok (.iconst 0, 1) := by decide +kernel
theorem d_F_frame_50 : decode prog_1_method_2_code 50 = .ok (.invokevirtual 67, 3) := by decide +kernel
theorem d_F_frame_53 : decode prog_1_method_2_code 53 = .ok (.ireturn, 1) := by decide +kernel
abbrev y_F_isNode : MethodName := ⟨"FrameTables", "isNode", "(I)Z"⟩
abbrev m_F_isNode : MethodName × ByteArray × Nat × Option FieldType := (y_F_isNode, prog_1_method_16_code, 1, some .boolean)
theorem mi_F_isNode : .code y_F_isNode prog_1_method_16_code 1 (some .boolean) ∈ wT := wT_m 201 (by decide +kernel) rfl
theorem d_F_isNode_0 : decode prog_1_method_16_code 0 = .ok (.iload_n 0, 1) := by decide +kernel
theorem d_F_isNode_1 : decode prog_1_method_16_code 1 = .ok (.iconst 1, 1) := by decide +kernel
theorem d_F_isNode_2 : decode prog_1_method_16_code 2 = .ok (.if_icmp .lt 13, 3) := by decide +kernel
theorem d_F_isNode_5 : decode prog_1_method_16_code 5 = .ok (.iload_n 0, 1) := by decide +kernel
theorem d_F_isNode_6 : decode prog_1_method_16_code 6 = .ok (.bipush 20, 2) := by decide +kernel
theorem d_F_isNode_8 : decode prog_1_method_16_code 8 = .ok (.if_icmp .gt 7, 3) := by decide +kernel
theorem d_F_isNode_11 : decode prog_1_method_16_code 11 = .ok (.iconst 1, 1) := by decide +kernel
theorem d_F_isNode_12 : decode prog_1_method_16_code 12 = .ok (.goto 4, 3) := by decide +kernel
theorem d_F_isNode_15 : decode prog_1_method_16_code 15 = .ok (.iconst 0, 1) := by decide +kernel
theorem d_F_isNode_16 : decode prog_1_method_16_code 16 = .ok (.ireturn, 1) := by decide +kernel
abbrev y_F_isPeriod : MethodName := ⟨"FrameTables", "isPeriod", "(I)Z"⟩
abbrev m_F_isPeriod : MethodName × ByteArray × Nat × Option FieldType := (y_F_isPeriod, prog_1_method_17_code, 1, some .boolean)
theorem mi_F_isPeriod : .code y_F_isPeriod prog_1_method_17_code 1 (some .boolean) ∈ wT := wT_m 204 (by decide +kernel) rfl
theorem d_F_isPeriod_0 : decode prog_1_method_17_code 0 = .ok (.iload_n 0, 1) := by decide +kernel
theorem d_F_isPeriod_1 : decode prog_1_method_17_code 1 = .ok (.iconst 1, 1) := by decide +kernel
theorem d_F_isPeriod_2 : decode prog_1_method_17_code 2 = .ok (.if_icmp .lt 13, 3) := by decide +kernel
theorem d_F_isPeriod_5 : decode prog_1_method_17_code 5 = .ok (.iload_n 0, 1) := by decide +kernel
theorem d_F_isPeriod_6 : decode prog_1_method_17_code 6 = .ok (.bipush 60, 2) := by decide +kernel
theorem d_F_isPeriod_8 : decode prog_1_method_17_code 8 = .ok (.if_icmp .gt 7, 3) := by decide +kernel
theorem d_F_isPeriod_11 : decode prog_1_method_17_code 11 = .ok (.iconst 1, 1) := by decide +kernel
theorem d_F_isPeriod_12 : decode prog_1_method_17_code 12 = .ok (.goto 4, 3) := by decide +kernel
theorem d_F_isPeriod_15 : decode prog_1_method_17_code 15 = .ok (.iconst 0, 1) := by decide +kernel
theorem d_F_isPeriod_16 : decode prog_1_method_17_code 16 = .ok (.ireturn, 1) := by decide +kernel
abbrev y_F_isRank : MethodName := ⟨"FrameTables", "isRank", "(I)Z"⟩
abbrev m_F_isRank : MethodName × ByteArray × Nat × Option FieldType := (y_F_isRank, prog_1_method_18_code, 1, some .boolean)
theorem mi_F_isRank : .code y_F_isRank prog_1_method_18_code 1 (some .boolean) ∈ wT := wT_m 207 (by decide +kernel) rfl
theorem d_F_isRank_0 : decode prog_1_method_18_code 0 = .ok (.iload_n 0, 1) := by decide +kernel
theorem d_F_isRank_1 : decode prog_1_method_18_code 1 = .ok (.ifCond .lt 13, 3) := by decide +kernel
theorem d_F_isRank_4 : decode prog_1_method_18_code 4 = .ok (.iload_n 0, 1) := by decide +kernel
theorem d_F_isRank_5 : decode prog_1_method_18_code 5 = .ok (.bipush 99, 2) := by decide +kernel
theorem d_F_isRank_7 : decode prog_1_method_18_code 7 = .ok (.if_icmp .gt 7, 3) := by decide +kernel
theorem d_F_isRank_10 : decode prog_1_method_18_code 10 = .ok (.iconst 1, 1) := by decide +kernel
theorem d_F_isRank_11 : decode prog_1_method_18_code 11 = .ok (.goto 4, 3) := by decide +kernel
theorem d_F_isRank_14 : decode prog_1_method_18_code 14 = .ok (.iconst 0, 1) := by decide +kernel
theorem d_F_isRank_15 : decode prog_1_method_18_code 15 = .ok (.ireturn, 1) := by decide +kernel
abbrev y_F_reader : MethodName := ⟨"FrameTables", "reader", "(III)I"⟩
abbrev m_F_reader : MethodName × ByteArray × Nat × Option FieldType := (y_F_reader, prog_1_method_3_code, 4, some .int)
theorem mi_F_reader : .code y_F_reader prog_1_method_3_code 4 (some .int) ∈ wT := wT_m 224 (by decide +kernel) rfl
theorem d_F_reader_0 : decode prog_1_method_3_code 0 = .ok (.aload_n 0, 1) := by decide +kernel
theorem d_F_reader_1 : decode prog_1_method_3_code 1 = .ok (.getfield 10, 3) := by decide +kernel
theorem d_F_reader_4 : decode prog_1_method_3_code 4 = .ok (.iload_n 1, 1) := by decide +kernel
theorem d_F_reader_5 : decode prog_1_method_3_code 5 = .ok (.invokevirtual 71, 3) := by decide +kernel
theorem d_F_reader_8 : decode prog_1_method_3_code 8 = .ok (.ifCond .eq 10, 3) := by decide +kernel
theorem d_F_reader_11 : decode prog_1_method_3_code 11 = .ok (.iload_n 2, 1) := by decide +kernel
theorem d_F_reader_12 : decode prog_1_method_3_code 12 = .ok (.invokestatic 53, 3) := by decide +kernel
theorem d_F_reader_15 : decode prog_1_method_3_code 15 = .ok (.ifCond .ne 5, 3) := by decide +kernel
theorem d_F_reader_18 : decode prog_1_method_3_code 18 = .ok (.iconst (-1), 1) := by decide +kernel
theorem d_F_reader_19 : decode prog_1_method_3_code 19 = .ok (.ireturn, 1) := by decide +kernel
theorem d_F_reader_20 : decode prog_1_method_3_code 20 = .ok (.iload_n 3, 1) := by decide +kernel
theorem d_F_reader_21 : decode prog_1_method_3_code 21 = .ok (.ifCond .lt 10, 3) := by decide +kernel
theorem d_F_reader_24 : decode prog_1_method_3_code 24 = .ok (.iload_n 3, 1) := by decide +kernel
theorem d_F_reader_25 : decode prog_1_method_3_code 25 = .ok (.sipush 10000, 3) := by decide +kernel
theorem d_F_reader_28 : decode prog_1_method_3_code 28 = .ok (.if_icmp .le 6, 3) := by decide +kernel
theorem d_F_reader_31 : decode prog_1_method_3_code 31 = .ok (.bipush (-2), 2) := by decide +kernel
theorem d_F_reader_33 : decode prog_1_method_3_code 33 = .ok (.ireturn, 1) := by decide +kernel
theorem d_F_reader_34 : decode prog_1_method_3_code 34 = .ok (.aload_n 0, 1) := by decide +kernel
theorem d_F_reader_35 : decode prog_1_method_3_code 35 = .ok (.getfield 10, 3) := by decide +kernel
theorem d_F_reader_38 : decode prog_1_method_3_code 38 = .ok (.iload_n 1, 1) := by decide +kernel
theorem d_F_reader_39 : decode prog_1_method_3_code 39 = .ok (.invokevirtual 74, 3) := by decide +kernel
theorem d_F_reader_42 : decode prog_1_method_3_code 42 = .ok (.iload_n 2, 1) := by decide +kernel
theorem d_F_reader_43 : decode prog_1_method_3_code 43 = .ok (.if_icmp .ne 6, 3) := by decide +kernel
theorem d_F_reader_46 : decode prog_1_method_3_code 46 = .ok (.bipush (-3), 2) := by decide +kernel
theorem d_F_reader_48 : decode prog_1_method_3_code 48 = .ok (.ireturn, 1) := by decide +kernel
theorem d_F_reader_49 : decode prog_1_method_3_code 49 = .ok (.aload_n 0, 1) := by decide +kernel
theorem d_F_reader_50 : decode prog_1_method_3_code 50 = .ok (.getfield 10, 3) := by decide +kernel
theorem d_F_reader_53 : decode prog_1_method_3_code 53 = .ok (.iload_n 1, 1) := by decide +kernel
theorem d_F_reader_54 : decode prog_1_method_3_code 54 = .ok (.iload_n 2, 1) := by decide +kernel
theorem d_F_reader_55 : decode prog_1_method_3_code 55 = .ok (.iload_n 3, 1) := by decide +kernel
theorem d_F_reader_56 : decode prog_1_method_3_code 56 = .ok (.invokevirtual 78, 3) := by decide +kernel
theorem d_F_reader_59 : decode prog_1_method_3_code 59 = .ok (.aload_n 0, 1) := by decide +kernel
theorem d_F_reader_60 : decode prog_1_method_3_code 60 = .ok (.getfield 10, 3) := by decide +kernel
theorem d_F_reader_63 : decode prog_1_method_3_code 63 = .ok (.iload_n 1, 1) := by decide +kernel
theorem d_F_reader_64 : decode prog_1_method_3_code 64 = .ok (.invokevirtual 82, 3) := by decide +kernel
theorem d_F_reader_67 : decode prog_1_method_3_code 67 = .ok (.ireturn, 1) := by decide +kernel
abbrev y_F_identifier : MethodName := ⟨"FrameTables", "identifier", "(I)I"⟩
abbrev m_F_identifier : MethodName × ByteArray × Nat × Option FieldType := (y_F_identifier, prog_1_method_4_code, 3, some .int)
theorem mi_F_identifier : .code y_F_identifier prog_1_method_4_code 3 (some .int) ∈ wT := wT_m 249 (by decide +kernel) rfl
theorem d_F_identifier_0 : decode prog_1_method_4_code 0 = .ok (.aload_n 0, 1) := by decide +kernel
theorem d_F_identifier_1 : decode prog_1_method_4_code 1 = .ok (.getfield 10, 3) := by decide +kernel
theorem d_F_identifier_4 : decode prog_1_method_4_code 4 = .ok (.iload_n 1, 1) := by decide +kernel
theorem d_F_identifier_5 : decode prog_1_method_4_code 5 = .ok (.invokevirtual 71, 3) := by decide +kernel
theorem d_F_identifier_8 : decode prog_1_method_4_code 8 = .ok (.ifCond .ne 5, 3) := by decide +kernel
theorem d_F_identifier_11 : decode prog_1_method_4_code 11 = .ok (.iconst (-1), 1) := by decide +kernel
theorem d_F_identifier_12 : decode prog_1_method_4_code 12 = .ok (.ireturn, 1) := by decide +kernel
theorem d_F_identifier_13 : decode prog_1_method_4_code 13 = .ok (.aload_n 0, 1) := by decide +kernel
theorem d_F_identifier_14 : decode prog_1_method_4_code 14 = .ok (.iload_n 1, 1) := by decide +kernel
theorem d_F_identifier_15 : decode prog_1_method_4_code 15 = .ok (.invokevirtual 85, 3) := by decide +kernel
theorem d_F_identifier_18 : decode prog_1_method_4_code 18 = .ok (.istore_n 2, 1) := by decide +kernel
theorem d_F_identifier_19 : decode prog_1_method_4_code 19 = .ok (.iload_n 2, 1) := by decide +kernel
theorem d_F_identifier_20 : decode prog_1_method_4_code 20 = .ok (.iconst (-1), 1) := by decide +kernel
theorem d_F_identifier_21 : decode prog_1_method_4_code 21 = .ok (.if_icmp .ne 8, 3) := by decide +kernel
theorem d_F_identifier_24 : decode prog_1_method_4_code 24 = .ok (.bipush (-4), 2) := by decide +kernel
theorem d_F_identifier_26 : decode prog_1_method_4_code 26 = .ok (.goto 4, 3) := by decide +kernel
theorem d_F_identifier_29 : decode prog_1_method_4_code 29 = .ok (.iload_n 2, 1) := by decide +kernel
theorem d_F_identifier_30 : decode prog_1_method_4_code 30 = .ok (.ireturn, 1) := by decide +kernel
abbrev y_F_identifierOf : MethodName := ⟨"FrameTables", "identifierOf", "(I)I"⟩
abbrev m_F_identifierOf : MethodName × ByteArray × Nat × Option FieldType := (y_F_identifierOf, prog_1_method_20_code, 2, some .int)
theorem mi_F_identifierOf : .code y_F_identifierOf prog_1_method_20_code 2 (some .int) ∈ wT := wT_m 253 (by decide +kernel) rfl
theorem d_F_identifierOf_0 : decode prog_1_method_20_code 0 = .ok (.aload_n 0, 1) := by decide +kernel
theorem d_F_identifierOf_1 : decode prog_1_method_20_code 1 = .ok (.getfield 22, 3) := by decide +kernel
theorem d_F_identifierOf_4 : decode prog_1_method_20_code 4 = .ok (.aload_n 0, 1) := by decide +kernel
theorem d_F_identifierOf_5 : decode prog_1_method_20_code 5 = .ok (.getfield 10, 3) := by decide +kernel
theorem d_F_identifierOf_8 : decode prog_1_method_20_code 8 = .ok (.iload_n 1, 1) := by decide +kernel
theorem d_F_identifierOf_9 : decode prog_1_method_20_code 9 = .ok (.invokevirtual 161, 3) := by decide +kernel
theorem d_F_identifierOf_12 : decode prog_1_method_20_code 12 = .ok (.aload_n 0, 1) := by decide +kernel
theorem d_F_identifierOf_13 : decode prog_1_method_20_code 13 = .ok (.getfield 10, 3) := by decide +kernel
theorem d_F_identifierOf_16 : decode prog_1_method_20_code 16 = .ok (.iload_n 1, 1) := by decide +kernel
theorem d_F_identifierOf_17 : decode prog_1_method_20_code 17 = .ok (.invokevirtual 164, 3) := by decide +kernel
theorem d_F_identifierOf_20 : decode prog_1_method_20_code 20 = .ok (.invokevirtual 167, 3) := by decide +kernel
theorem d_F_identifierOf_23 : decode prog_1_method_20_code 23 = .ok (.ireturn, 1) := by decide +kernel
abbrev y_F_span : MethodName := ⟨"FrameTables", "span", "(III)I"⟩
abbrev m_F_span : MethodName × ByteArray × Nat × Option FieldType := (y_F_span, prog_1_method_5_code, 4, some .int)
theorem mi_F_span : .code y_F_span prog_1_method_5_code 4 (some .int) ∈ wT := wT_m 274 (by decide +kernel) rfl
theorem d_F_span_0 : decode prog_1_method_5_code 0 = .ok (.iload_n 1, 1) := by decide +kernel
theorem d_F_span_1 : decode prog_1_method_5_code 1 = .ok (.ifCond .lt 8, 3) := by decide +kernel
theorem d_F_span_4 : decode prog_1_method_5_code 4 = .ok (.iload_n 1, 1) := by decide +kernel
theorem d_F_span_5 : decode prog_1_method_5_code 5 = .ok (.iconst 4, 1) := by decide +kernel
theorem d_F_span_6 : decode prog_1_method_5_code 6 = .ok (.if_icmp .lt 5, 3) := by decide +kernel
theorem d_F_span_9 : decode prog_1_method_5_code 9 = .ok (.iconst (-1), 1) := by decide +kernel
theorem d_F_span_10 : decode prog_1_method_5_code 10 = .ok (.ireturn, 1) := by decide +kernel
theorem d_F_span_11 : decode prog_1_method_5_code 11 = .ok (.iload_n 2, 1) := by decide +kernel
theorem d_F_span_12 : decode prog_1_method_5_code 12 = .ok (.invokestatic 88, 3) := by decide +kernel
theorem d_F_span_15 : decode prog_1_method_5_code 15 = .ok (.ifCond .eq 15, 3) := by decide +kernel
theorem d_F_span_18 : decode prog_1_method_5_code 18 = .ok (.iload_n 3, 1) := by decide +kernel
theorem d_F_span_19 : decode prog_1_method_5_code 19 = .ok (.invokestatic 88, 3) := by decide +kernel
theorem d_F_span_22 : decode prog_1_method_5_code 22 = .ok (.ifCond .eq 8, 3) := by decide +kernel
theorem d_F_span_25 : decode prog_1_method_5_code 25 = .ok (.iload_n 3, 1) := by decide +kernel
theorem d_F_span_26 : decode prog_1_method_5_code 26 = .ok (.iload_n 2, 1) := by decide +kernel
theorem d_F_span_27 : decode prog_1_method_5_code 27 = .ok (.if_icmp .ge 6, 3) := by decide +kernel
theorem d_F_span_30 : decode prog_1_method_5_code 30 = .ok (.bipush (-2), 2) := by decide +kernel
theorem d_F_span_32 : decode prog_1_method_5_code 32 = .ok (.ireturn, 1) := by decide +kernel
theorem d_F_span_33 : decode prog_1_method_5_code 33 = .ok (.aload_n 0, 1) := by decide +kernel
theorem d_F_span_34 : decode prog_1_method_5_code 34 = .ok (.getfield 22, 3) := by decide +kernel
theorem d_F_span_37 : decode prog_1_method_5_code 37 = .ok (.iload_n 1, 1) := by decide +kernel
theorem d_F_span_38 : decode prog_1_method_5_code 38 = .ok (.iload_n 2, 1) := by decide +kernel
theorem d_F_span_39 : decode prog_1_method_5_code 39 = .ok (.iload_n 3, 1) := by decide +kernel
theorem d_F_span_40 : decode prog_1_method_5_code 40 = .ok (.invokevirtual 91, 3) := by decide +kernel
theorem d_F_span_43 : decode prog_1_method_5_code 43 = .ok (.ifCond .eq 6, 3) := by decide +kernel
theorem d_F_span_46 : decode prog_1_method_5_code 46 = .ok (.bipush (-3), 2) := by decide +kernel
theorem d_F_span_48 : decode prog_1_method_5_code 48 = .ok (.ireturn, 1) := by decide +kernel
theorem d_F_span_49 : decode prog_1_method_5_code 49 = .ok (.aload_n 0, 1) := by decide +kernel
theorem d_F_span_50 : decode prog_1_method_5_code 50 = .ok (.getfield 22, 3) := by decide +kernel
theorem d_F_span_53 : decode prog_1_method_5_code 53 = .ok (.iload_n 1, 1) := by decide +kernel
theorem d_F_span_54 : decode prog_1_method_5_code 54 = .ok (.iload_n 2, 1) := by decide +kernel
theorem d_F_span_55 : decode prog_1_method_5_code 55 = .ok (.iload_n 3, 1) := by decide +kernel
theorem d_F_span_56 : decode prog_1_method_5_code 56 = .ok (.invokevirtual 95, 3) := by decide +kernel
theorem d_F_span_59 : decode prog_1_method_5_code 59 = .ok (.iload_n 3, 1) := by decide +kernel
theorem d_F_span_60 : decode prog_1_method_5_code 60 = .ok (.iload_n 2, 1) := by decide +kernel
theorem d_F_span_61 : decode prog_1_method_5_code 61 = .ok (.isub, 1) := by decide +kernel
theorem d_F_span_62 : decode prog_1_method_5_code 62 = .ok (.iconst 1, 1) := by decide +kernel
theorem d_F_span_63 : decode prog_1_method_5_code 63 = .ok (.iadd, 1) := by decide +kernel
theorem d_F_span_64 : decode prog_1_method_5_code 64 = .ok (.ireturn, 1) := by decide +kernel
abbrev y_F_isIdentifier : MethodName := ⟨"FrameTables", "isIdentifier", "(I)Z"⟩
abbrev m_F_isIdentifier : MethodName × ByteArray × Nat × Option FieldType := (y_F_isIdentifier, prog_1_method_19_code, 1, some .boolean)
theorem mi_F_isIdentifier : .code y_F_isIdentifier prog_1_method_19_code 1 (some .boolean) ∈ wT := wT_m 277 (by decide +kernel) rfl
theorem d_F_isIdentifier_0 : decode prog_1_method_19_code 0 = .ok (.iload_n 0, 1) := by decide +kernel
theorem d_F_isIdentifier_1 : decode prog_1_method_19_code 1 = .ok (.ifCond .lt 14, 3) := by decide +kernel
theorem d_F_isIdentifier_4 : decode prog_1_method_19_code 4 = .ok (.iload_n 0, 1) := by decide +kernel
theorem d_F_isIdentifier_5 : decode prog_1_method_19_code 5 = .ok (.sipush 2048, 3) := by decide +kernel
theorem d_F_isIdentifier_8 : decode prog_1_method_19_code 8 = .ok (.if_icmp .ge 7, 3) := by decide +kernel
theorem d_F_isIdentifier_11 : decode prog_1_method_19_code 11 = .ok (.iconst 1, 1) := by decide +kernel
theorem d_F_isIdentifier_12 : decode prog_1_method_19_code 12 = .ok (.goto 4, 3) := by decide +kernel
theorem d_F_isIdentifier_15 : decode prog_1_method_19_code 15 = .ok (.iconst 0, 1) := by decide +kernel
theorem d_F_isIdentifier_16 : decode prog_1_method_19_code 16 = .ok (.ireturn, 1) := by decide +kernel
abbrev y_F_offset : MethodName := ⟨"FrameTables", "offset", "(J)I"⟩
abbrev m_F_offset : MethodName × ByteArray × Nat × Option FieldType := (y_F_offset, prog_1_method_6_code, 5, some .int)
theorem mi_F_offset : .code y_F_offset prog_1_method_6_code 5 (some .int) ∈ wT := wT_m 289 (by decide +kernel) rfl
theorem d_F_offset_0 : decode prog_1_method_6_code 0 = .ok (.lload_n 1, 1) := by decide +kernel
theorem d_F_offset_1 : decode prog_1_method_6_code 1 = .ok (.lconst 0, 1) := by decide +kernel
theorem d_F_offset_2 : decode prog_1_method_6_code 2 = .ok (.lcmp, 1) := by decide +kernel
theorem d_F_offset_3 : decode prog_1_method_6_code 3 = .ok (.ifCond .lt 11, 3) := by decide +kernel
theorem d_F_offset_6 : decode prog_1_method_6_code 6 = .ok (.lload_n 1, 1) := by decide +kernel
theorem d_F_offset_7 : decode prog_1_method_6_code 7 = .ok (.ldc2_w 98, 3) := by decide +kernel
theorem d_F_offset_10 : decode prog_1_method_6_code 10 = .ok (.lcmp, 1) := by decide +kernel
theorem d_F_offset_11 : decode prog_1_method_6_code 11 = .ok (.ifCond .le 6, 3) := by decide +kernel
theorem d_F_offset_14 : decode prog_1_method_6_code 14 = .ok (.bipush (-2), 2) := by decide +kernel
theorem d_F_offset_16 : decode prog_1_method_6_code 16 = .ok (.ireturn, 1) := by decide +kernel
theorem d_F_offset_17 : decode prog_1_method_6_code 17 = .ok (.aload_n 0, 1) := by decide +kernel
theorem d_F_offset_18 : decode prog_1_method_6_code 18 = .ok (.getfield 45, 3) := by decide +kernel
theorem d_F_offset_21 : decode prog_1_method_6_code 21 = .ok (.aload_n 0, 1) := by decide +kernel
theorem d_F_offset_22 : decode prog_1_method_6_code 22 = .ok (.getfield 10, 3) := by decide +kernel
theorem d_F_offset_25 : decode prog_1_method_6_code 25 = .ok (.invokevirtual 100, 3) := by decide +kernel
theorem d_F_offset_28 : decode prog_1_method_6_code 28 = .ok (.lconst 0, 1) := by decide +kernel
theorem d_F_offset_29 : decode prog_1_method_6_code 29 = .ok (.lstore_n 3, 1) := by decide +kernel
theorem d_F_offset_30 : decode prog_1_method_6_code 30 = .ok (.lload_n 3, 1) := by decide +kernel
theorem d_F_offset_31 : decode prog_1_method_6_code 31 = .ok (.lload_n 1, 1) := by decide +kernel
theorem d_F_offset_32 : decode prog_1_method_6_code 32 = .ok (.lcmp, 1) := by decide +kernel
theorem d_F_offset_33 : decode prog_1_method_6_code 33 = .ok (.ifCond .ge 27, 3) := by decide +kernel
theorem d_F_offset_36 : decode prog_1_method_6_code 36 = .ok (.aload_n 0, 1) := by decide +kernel
theorem d_F_offset_37 : decode prog_1_method_6_code 37 = .ok (.getfield 45, 3) := by decide +kernel
theorem d_F_offset_40 : decode prog_1_method_6_code 40 = .ok (.invokevirtual 104, 3) := by decide +kernel
theorem d_F_offset_43 : decode prog_1_method_6_code 43 = .ok (.ifCond .ne 17, 3) := by decide +kernel
theorem d_F_offset_46 : decode prog_1_method_6_code 46 = .ok (.aload_n 0, 1) := by decide +kernel
theorem d_F_offset_47 : decode prog_1_method_6_code 47 = .ok (.getfield 45, 3) := by decide +kernel
theorem d_F_offset_50 : decode prog_1_method_6_code 50 = .ok (.invokevirtual 107, 3) := by decide +kernel
theorem d_F_offset_53 : decode prog_1_method_6_code 53 = .ok (.lload_n 3, 1) := by decide +kernel
theorem d_F_offset_54 : decode prog_1_method_6_code 54 = .ok (.lconst 1, 1) := by decide +kernel
theorem d_F_offset_55 : decode prog_1_method_6_code 55 = .ok (.ladd, 1) := by decide +kernel
theorem d_F_offset_56 : decode prog_1_method_6_code 56 = .ok (.lstore_n 3, 1) := by decide +kernel
theorem d_F_offset_57 : decode prog_1_method_6_code 57 = .ok (.goto (-27), 3) := by decide +kernel
theorem d_F_offset_60 : decode prog_1_method_6_code 60 = .ok (.aload_n 0, 1) := by decide +kernel
theorem d_F_offset_61 : decode prog_1_method_6_code 61 = .ok (.getfield 45, 3) := by decide +kernel
theorem d_F_offset_64 : decode prog_1_method_6_code 64 = .ok (.aload_n 0, 1) := by decide +kernel
theorem d_F_offset_65 : decode prog_1_method_6_code 65 = .ok (.getfield 10, 3) := by decide +kernel
theorem d_F_offset_68 : decode prog_1_method_6_code 68 = .ok (.invokevirtual 110, 3) := by decide +kernel
theorem d_F_offset_71 : decode prog_1_method_6_code 71 = .ok (.aload_n 0, 1) := by decide +kernel
theorem d_F_offset_72 : decode prog_1_method_6_code 72 = .ok (.aload_n 0, 1) := by decide +kernel
theorem d_F_offset_73 : decode prog_1_method_6_code 73 = .ok (.getfield 45, 3) := by decide +kernel
theorem d_F_offset_76 : decode prog_1_method_6_code 76 = .ok (.invokevirtual 104, 3) := by decide +kernel
theorem d_F_offset_79 : decode prog_1_method_6_code 79 = .ok (.putfield 49, 3) := by decide +kernel
theorem d_F_offset_82 : decode prog_1_method_6_code 82 = .ok (.aload_n 0, 1) := by decide +kernel
theorem d_F_offset_83 : decode prog_1_method_6_code 83 = .ok (.getfield 45, 3) := by decide +kernel
theorem d_F_offset_86 : decode prog_1_method_6_code 86 = .ok (.aload_n 0, 1) := by decide +kernel
theorem d_F_offset_87 : decode prog_1_method_6_code 87 = .ok (.getfield 10, 3) := by decide +kernel
theorem d_F_offset_90 : decode prog_1_method_6_code 90 = .ok (.invokevirtual 113, 3) := by decide +kernel
theorem d_F_offset_93 : decode prog_1_method_6_code 93 = .ok (.ireturn, 1) := by decide +kernel
abbrev y_F_at : MethodName := ⟨"FrameTables", "at", "(I)I"⟩
abbrev m_F_at : MethodName × ByteArray × Nat × Option FieldType := (y_F_at, prog_1_method_7_code, 2, some .int)
theorem mi_F_at : .code y_F_at prog_1_method_7_code 2 (some .int) ∈ wT := wT_m 366 (by decide +kernel) rfl
theorem d_F_at_0 : decode prog_1_method_7_code 0 = .ok (.aload_n 0, 1) := by decide +kernel
theorem d_F_at_1 : decode prog_1_method_7_code 1 = .ok (.getfield 10, 3) := by decide +kernel
theorem d_F_at_4 : decode prog_1_method_7_code 4 = .ok (.iload_n 1, 1) := by decide +kernel
theorem d_F_at_5 : decode prog_1_method_7_code 5 = .ok (.invokevirtual 71, 3) := by decide +kernel
theorem d_F_at_8 : decode prog_1_method_7_code 8 = .ok (.ifCond .eq 14, 3) := by decide +kernel
theorem d_F_at_11 : decode prog_1_method_7_code 11 = .ok (.aload_n 0, 1) := by decide +kernel
theorem d_F_at_12 : decode prog_1_method_7_code 12 = .ok (.getfield 10, 3) := by decide +kernel
theorem d_F_at_15 : decode prog_1_method_7_code 15 = .ok (.iload_n 1, 1) := by decide +kernel
theorem d_F_at_16 : decode prog_1_method_7_code 16 = .ok (.invokevirtual 117, 3) := by decide +kernel
theorem d_F_at_19 : decode prog_1_method_7_code 19 = .ok (.goto 4, 3) := by decide +kernel
theorem d_F_at_22 : decode prog_1_method_7_code 22 = .ok (.iconst (-1), 1) := by decide +kernel
theorem d_F_at_23 : decode prog_1_method_7_code 23 = .ok (.ireturn, 1) := by decide +kernel
abbrev y_F_exact : MethodName := ⟨"FrameTables", "exact", "()Z"⟩
abbrev m_F_exact : MethodName × ByteArray × Nat × Option FieldType := (y_F_exact, prog_1_method_8_code, 1, some .boolean)
theorem mi_F_exact : .code y_F_exact prog_1_method_8_code 1 (some .boolean) ∈ wT := wT_m 371 (by decide +kernel) rfl
theorem d_F_exact_0 : decode prog_1_method_8_code 0 = .ok (.aload_n 0, 1) := by decide +kernel
theorem d_F_exact_1 : decode prog_1_method_8_code 1 = .ok (.getfield 49, 3) := by decide +kernel
theorem d_F_exact_4 : decode prog_1_method_8_code 4 = .ok (.ireturn, 1) := by decide +kernel
abbrev y_F_gap : MethodName := ⟨"FrameTables", "gap", "(II)I"⟩
abbrev m_F_gap : MethodName × ByteArray × Nat × Option FieldType := (y_F_gap, prog_1_method_9_code, 3, some .int)
theorem mi_F_gap : .code y_F_gap prog_1_method_9_code 3 (some .int) ∈ wT := wT_m 375 (by decide +kernel) rfl
theorem d_F_gap_0 : decode prog_1_method_9_code 0 = .ok (.aload_n 0, 1) := by decide +kernel
theorem d_F_gap_1 : decode prog_1_method_9_code 1 = .ok (.getfield 10, 3) := by decide +kernel
theorem d_F_gap_4 : decode prog_1_method_9_code 4 = .ok (.iload_n 1, 1) := by decide +kernel
theorem d_F_gap_5 : decode prog_1_method_9_code 5 = .ok (.invokevirtual 71, 3) := by decide +kernel
theorem d_F_gap_8 : decode prog_1_method_9_code 8 = .ok (.ifCond .ne 5, 3) := by decide +kernel
theorem d_F_gap_11 : decode prog_1_method_9_code 11 = .ok (.iconst (-1), 1) := by decide +kernel
theorem d_F_gap_12 : decode prog_1_method_9_code 12 = .ok (.ireturn, 1) := by decide +kernel
theorem d_F_gap_13 : decode prog_1_method_9_code 13 = .ok (.iload_n 2, 1) := by decide +kernel
theorem d_F_gap_14 : decode prog_1_method_9_code 14 = .ok (.ifCond .lt 15, 3) := by decide +kernel
theorem d_F_gap_17 : decode prog_1_method_9_code 17 = .ok (.iload_n 2, 1) := by decide +kernel
theorem d_F_gap_18 : decode prog_1_method_9_code 18 = .ok (.aload_n 0, 1) := by decide +kernel
theorem d_F_gap_19 : decode prog_1_method_9_code 19 = .ok (.getfield 10, 3) := by decide +kernel
theorem d_F_gap_22 : decode prog_1_method_9_code 22 = .ok (.iload_n 1, 1) := by decide +kernel
theorem d_F_gap_23 : decode prog_1_method_9_code 23 = .ok (.invokevirtual 120, 3) := by decide +kernel
theorem d_F_gap_26 : decode prog_1_method_9_code 26 = .ok (.if_icmp .le 6, 3) := by decide +kernel
theorem d_F_gap_29 : decode prog_1_method_9_code 29 = .ok (.bipush (-2), 2) := by decide +kernel
theorem d_F_gap_31 : decode prog_1_method_9_code 31 = .ok (.ireturn, 1) := by decide +kernel
theorem d_F_gap_32 : decode prog_1_method_9_code 32 = .ok (.aload_n 0, 1) := by decide +kernel
theorem d_F_gap_33 : decode prog_1_method_9_code 33 = .ok (.getfield 10, 3) := by decide +kernel
theorem d_F_gap_36 : decode prog_1_method_9_code 36 = .ok (.iload_n 1, 1) := by decide +kernel
theorem d_F_gap_37 : decode prog_1_method_9_code 37 = .ok (.iload_n 2, 1) := by decide +kernel
theorem d_F_gap_38 : decode prog_1_method_9_code 38 = .ok (.invokevirtual 123, 3) := by decide +kernel
theorem d_F_gap_41 : decode prog_1_method_9_code 41 = .ok (.iconst 1, 1) := by decide +kernel
theorem d_F_gap_42 : decode prog_1_method_9_code 42 = .ok (.ireturn, 1) := by decide +kernel
abbrev y_F_check : MethodName := ⟨"FrameTables", "check", "()I"⟩
abbrev m_F_check : MethodName × ByteArray × Nat × Option FieldType := (y_F_check, prog_1_method_10_code, 3, some .int)
theorem mi_F_check : .code y_F_check prog_1_method_10_code 3 (some .int) ∈ wT := wT_m 384 (by decide +kernel) rfl
theorem d_F_check_0 : decode prog_1_method_10_code 0 = .ok (.iconst 1, 1) := by decide +kernel
theorem d_F_check_1 : decode prog_1_method_10_code 1 = .ok (.istore_n 1, 1) := by decide +kernel
theorem d_F_check_2 : decode prog_1_method_10_code 2 = .ok (.iload_n 1, 1) := by decide +kernel
theorem d_F_check_3 : decode prog_1_method_10_code 3 = .ok (.iconst 4, 1) := by decide +kernel
theorem d_F_check_4 : decode prog_1_method_10_code 4 = .ok (.if_icmp .gt 45, 3) := by decide +kernel
theorem d_F_check_7 : decode prog_1_method_10_code 7 = .ok (.iconst 1, 1) := by decide +kernel
theorem d_F_check_8 : decode prog_1_method_10_code 8 = .ok (.istore_n 2, 1) := by decide +kernel
theorem d_F_check_9 : decode prog_1_method_10_code 9 = .ok (.iload_n 2, 1) := by decide +kernel
theorem d_F_check_10 : decode prog_1_method_10_code 10 = .ok (.aload_n 0, 1) := by decide +kernel
theorem d_F_check_11 : decode prog_1_method_10_code 11 = .ok (.getfield 10, 3) := by decide +kernel
theorem d_F_check_14 : decode prog_1_method_10_code 14 = .ok (.invokevirtual 127, 3) := by decide +kernel
theorem d_F_check_17 : decode prog_1_method_10_code 17 = .ok (.if_icmp .gt 26, 3) := by decide +kernel
theorem d_F_check_20 : decode prog_1_method_10_code 20 = .ok (.aload_n 0, 1) := by decide +kernel
theorem d_F_check_21 : decode prog_1_method_10_code 21 = .ok (.iload_n 1, 1) := by decide +kernel
theorem d_F_check_22 : decode prog_1_method_10_code 22 = .ok (.iload_n 2, 1) := by decide +kernel
theorem d_F_check_23 : decode prog_1_method_10_code 23 = .ok (.invokevirtual 131, 3) := by decide +kernel
theorem d_F_check_26 : decode prog_1_method_10_code 26 = .ok (.ifCond .eq 11, 3) := by decide +kernel
theorem d_F_check_29 : decode prog_1_method_10_code 29 = .ok (.sipush 1000, 3) := by decide +kernel
theorem d_F_check_32 : decode prog_1_method_10_code 32 = .ok (.iload_n 1, 1) := by decide +kernel
theorem d_F_check_33 : decode prog_1_method_10_code 33 = .ok (.imul, 1) := by decide +kernel
theorem d_F_check_34 : decode prog_1_method_10_code 34 = .ok (.iload_n 2, 1) := by decide +kernel
theorem d_F_check_35 : decode prog_1_method_10_code 35 = .ok (.iadd, 1) := by decide +kernel
theorem d_F_check_36 : decode prog_1_method_10_code 36 = .ok (.ireturn, 1) := by decide +kernel
theorem d_F_check_37 : decode prog_1_method_10_code 37 = .ok (.iinc 2 1, 3) := by decide +kernel
theorem d_F_check_40 : decode prog_1_method_10_code 40 = .ok (.goto (-31), 3) := by decide +kernel
theorem d_F_check_43 : decode prog_1_method_10_code 43 = .ok (.iinc 1 1, 3) := by decide +kernel
theorem d_F_check_46 : decode prog_1_method_10_code 46 = .ok (.goto (-44), 3) := by decide +kernel
theorem d_F_check_49 : decode prog_1_method_10_code 49 = .ok (.iconst 0, 1) := by decide +kernel
theorem d_F_check_50 : decode prog_1_method_10_code 50 = .ok (.ireturn, 1) := by decide +kernel
abbrev y_F_breaks : MethodName := ⟨"FrameTables", "breaks", "(II)Z"⟩
abbrev m_F_breaks : MethodName × ByteArray × Nat × Option FieldType := (y_F_breaks, prog_1_method_21_code, 3, some .boolean)
theorem mi_F_breaks : .code y_F_breaks prog_1_method_21_code 3 (some .boolean) ∈ wT := wT_m 389 (by decide +kernel) rfl
theorem d_F_breaks_0 : decode prog_1_method_21_code 0 = .ok (.iload_n 1, 1) := by decide +kernel
theorem d_F_breaks_1 : decode prog_1_method_21_code 1 = .ok (.tableswitch 81 1 4 #[31, 46, 63, 72], 31) := by decide +kernel
theorem d_F_breaks_32 : decode prog_1_method_21_code 32 = .ok (.aload_n 0, 1) := by decide +kernel
theorem d_F_breaks_33 : decode prog_1_method_21_code 33 = .ok (.iload_n 2, 1) := by decide +kernel
theorem d_F_breaks_34 : decode prog_1_method_21_code 34 = .ok (.invokevirtual 85, 3) := by decide +kernel
theorem d_F_breaks_37 : decode prog_1_method_21_code 37 = .ok (.iconst (-1), 1) := by decide +kernel
theorem d_F_breaks_38 : decode prog_1_method_21_code 38 = .ok (.if_icmp .ne 7, 3) := by decide +kernel
theorem d_F_breaks_41 : decode prog_1_method_21_code 41 = .ok (.iconst 1, 1) := by decide +kernel
theorem d_F_breaks_42 : decode prog_1_method_21_code 42 = .ok (.goto 4, 3) := by decide +kernel
theorem d_F_breaks_45 : decode prog_1_method_21_code 45 = .ok (.iconst 0, 1) := by decide +kernel
theorem d_F_breaks_46 : decode prog_1_method_21_code 46 = .ok (.ireturn, 1) := by decide +kernel
theorem d_F_breaks_47 : decode prog_1_method_21_code 47 = .ok (.aload_n 0, 1) := by decide +kernel
theorem d_F_breaks_48 : decode prog_1_method_21_code 48 = .ok (.getfield 10, 3) := by decide +kernel
theorem d_F_breaks_51 : decode prog_1_method_21_code 51 = .ok (.iload_n 2, 1) := by decide +kernel
theorem d_F_breaks_52 : decode prog_1_method_21_code 52 = .ok (.invokevirtual 82, 3) := by decide +kernel
theorem d_F_breaks_55 : decode prog_1_method_21_code 55 = .ok (.ifCond .ne 7, 3) := by decide +kernel
theorem d_F_breaks_58 : decode prog_1_method_21_code 58 = .ok (.iconst 1, 1) := by decide +kernel
theorem d_F_breaks_59 : decode prog_1_method_21_code 59 = .ok (.goto 4, 3) := by decide +kernel
theorem d_F_breaks_62 : decode prog_1_method_21_code 62 = .ok (.iconst 0, 1) := by decide +kernel
theorem d_F_breaks_63 : decode prog_1_method_21_code 63 = .ok (.ireturn, 1) := by decide +kernel
theorem d_F_breaks_64 : decode prog_1_method_21_code 64 = .ok (.aload_n 0, 1) := by decide +kernel
theorem d_F_breaks_65 : decode prog_1_method_21_code 65 = .ok (.getfield 10, 3) := by decide +kernel
theorem d_F_breaks_68 : decode prog_1_method_21_code 68 = .ok (.iload_n 2, 1) := by decide +kernel
theorem d_F_breaks_69 : decode prog_1_method_21_code 69 = .ok (.invokevirtual 171, 3) := by decide +kernel
theorem d_F_breaks_72 : decode prog_1_method_21_code 72 = .ok (.ireturn, 1) := by decide +kernel
theorem d_F_breaks_73 : decode prog_1_method_21_code 73 = .ok (.aload_n 0, 1) := by decide +kernel
theorem d_F_breaks_74 : decode prog_1_method_21_code 74 = .ok (.getfield 10, 3) := by decide +kernel
theorem d_F_breaks_77 : decode prog_1_method_21_code 77 = .ok (.iload_n 2, 1) := by decide +kernel
theorem d_F_breaks_78 : decode prog_1_method_21_code 78 = .ok (.invokevirtual 174, 3) := by decide +kernel
theorem d_F_breaks_81 : decode prog_1_method_21_code 81 = .ok (.ireturn, 1) := by decide +kernel
theorem d_F_breaks_82 : decode prog_1_method_21_code 82 = .ok (.iconst 0, 1) := by decide +kernel
theorem d_F_breaks_83 : decode prog_1_method_21_code 83 = .ok (.ireturn, 1) := by decide +kernel
abbrev y_F_sign : MethodName := ⟨"FrameTables", "sign", "(I)V"⟩
abbrev m_F_sign : MethodName × ByteArray × Nat × Option FieldType := (y_F_sign, prog_1_method_11_code, 4, none)
theorem mi_F_sign : .code y_F_sign prog_1_method_11_code 4 none ∈ wT := wT_m 401 (by decide +kernel) rfl
theorem d_F_sign_0 : decode prog_1_method_11_code 0 = .ok (.bipush 24, 2) := by decide +kernel
theorem d_F_sign_2 : decode prog_1_method_11_code 2 = .ok (.istore_n 2, 1) := by decide +kernel
theorem d_F_sign_3 : decode prog_1_method_11_code 3 = .ok (.iload_n 2, 1) := by decide +kernel
theorem d_F_sign_4 : decode prog_1_method_11_code 4 = .ok (.ifCond .lt 30, 3) := by decide +kernel
theorem d_F_sign_7 : decode prog_1_method_11_code 7 = .ok (.iload_n 1, 1) := by decide +kernel
theorem d_F_sign_8 : decode prog_1_method_11_code 8 = .ok (.iload_n 2, 1) := by decide +kernel
theorem d_F_sign_9 : decode prog_1_method_11_code 9 = .ok (.iushr, 1) := by decide +kernel
theorem d_F_sign_10 : decode prog_1_method_11_code 10 = .ok (.sipush 255, 3) := by decide +kernel
theorem d_F_sign_13 : decode prog_1_method_11_code 13 = .ok (.iand, 1) := by decide +kernel
theorem d_F_sign_14 : decode prog_1_method_11_code 14 = .ok (.istore_n 3, 1) := by decide +kernel
theorem d_F_sign_15 : decode prog_1_method_11_code 15 = .ok (.iload_n 3, 1) := by decide +kernel
theorem d_F_sign_16 : decode prog_1_method_11_code 16 = .ok (.ifCond .eq 12, 3) := by decide +kernel
theorem d_F_sign_19 : decode prog_1_method_11_code 19 = .ok (.aload_n 0, 1) := by decide +kernel
theorem d_F_sign_20 : decode prog_1_method_11_code 20 = .ok (.getfield 29, 3) := by decide +kernel
theorem d_F_sign_23 : decode prog_1_method_11_code 23 = .ok (.iload_n 3, 1) := by decide +kernel
theorem d_F_sign_24 : decode prog_1_method_11_code 24 = .ok (.i2c, 1) := by decide +kernel
theorem d_F_sign_25 : decode prog_1_method_11_code 25 = .ok (.invokevirtual 135, 3) := by decide +kernel
theorem d_F_sign_28 : decode prog_1_method_11_code 28 = .ok (.iinc 2 (-8), 3) := by decide +kernel
theorem d_F_sign_31 : decode prog_1_method_11_code 31 = .ok (.goto (-28), 3) := by decide +kernel
theorem d_F_sign_34 : decode prog_1_method_11_code 34 = .ok (.return_, 1) := by decide +kernel
abbrev y_F_read : MethodName := ⟨"FrameTables", "read", "()I"⟩
abbrev m_F_read : MethodName × ByteArray × Nat × Option FieldType := (y_F_read, prog_1_method_12_code, 3, some .int)
theorem mi_F_read : .code y_F_read prog_1_method_12_code 3 (some .int) ∈ wT := wT_m 409 (by decide +kernel) rfl
theorem d_F_read_0 : decode prog_1_method_12_code 0 = .ok (.aload_n 0, 1) := by decide +kernel
theorem d_F_read_1 : decode prog_1_method_12_code 1 = .ok (.getfield 38, 3) := by decide +kernel
theorem d_F_read_4 : decode prog_1_method_12_code 4 = .ok (.aload_n 0, 1) := by decide +kernel
theorem d_F_read_5 : decode prog_1_method_12_code 5 = .ok (.getfield 16, 3) := by decide +kernel
theorem d_F_read_8 : decode prog_1_method_12_code 8 = .ok (.invokevirtual 139, 3) := by decide +kernel
theorem d_F_read_11 : decode prog_1_method_12_code 11 = .ok (.istore_n 1, 1) := by decide +kernel
theorem d_F_read_12 : decode prog_1_method_12_code 12 = .ok (.aload_n 0, 1) := by decide +kernel
theorem d_F_read_13 : decode prog_1_method_12_code 13 = .ok (.getfield 29, 3) := by decide +kernel
theorem d_F_read_16 : decode prog_1_method_12_code 16 = .ok (.invokevirtual 142, 3) := by decide +kernel
theorem d_F_read_19 : decode prog_1_method_12_code 19 = .ok (.iload_n 1, 1) := by decide +kernel
theorem d_F_read_20 : decode prog_1_method_12_code 20 = .ok (.ifCond .le 6, 3) := by decide +kernel
theorem d_F_read_23 : decode prog_1_method_12_code 23 = .ok (.iload_n 1, 1) := by decide +kernel
theorem d_F_read_24 : decode prog_1_method_12_code 24 = .ok (.ineg, 1) := by decide +kernel
theorem d_F_read_25 : decode prog_1_method_12_code 25 = .ok (.ireturn, 1) := by decide +kernel
theorem d_F_read_26 : decode prog_1_method_12_code 26 = .ok (.aload_n 0, 1) := by decide +kernel
theorem d_F_read_27 : decode prog_1_method_12_code 27 = .ok (.getfield 10, 3) := by decide +kernel
theorem d_F_read_30 : decode prog_1_method_12_code 30 = .ok (.astore_n 2, 1) := by decide +kernel
theorem d_F_read_31 : decode prog_1_method_12_code 31 = .ok (.aload_n 0, 1) := by decide +kernel
theorem d_F_read_32 : decode prog_1_method_12_code 32 = .ok (.aload_n 0, 1) := by decide +kernel
theorem d_F_read_33 : decode prog_1_method_12_code 33 = .ok (.getfield 16, 3) := by decide +kernel
theorem d_F_read_36 : decode prog_1_method_12_code 36 = .ok (.putfield 10, 3) := by decide +kernel
theorem d_F_read_39 : decode prog_1_method_12_code 39 = .ok (.aload_n 0, 1) := by decide +kernel
theorem d_F_read_40 : decode prog_1_method_12_code 40 = .ok (.aload_n 2, 1) := by decide +kernel
theorem d_F_read_41 : decode prog_1_method_12_code 41 = .ok (.putfield 16, 3) := by decide +kernel
theorem d_F_read_44 : decode prog_1_method_12_code 44 = .ok (.aload_n 0, 1) := by decide +kernel
theorem d_F_read_45 : decode prog_1_method_12_code 45 = .ok (.iconst 0, 1) := by decide +kernel
theorem d_F_read_46 : decode prog_1_method_12_code 46 = .ok (.putfield 49, 3) := by decide +kernel
theorem d_F_read_49 : decode prog_1_method_12_code 49 = .ok (.aload_n 0, 1) := by decide +kernel
theorem d_F_read_50 : decode prog_1_method_12_code 50 = .ok (.getfield 10, 3) := by decide +kernel
theorem d_F_read_53 : decode prog_1_method_12_code 53 = .ok (.invokevirtual 127, 3) := by decide +kernel
theorem d_F_read_56 : decode prog_1_method_12_code 56 = .ok (.ireturn, 1) := by decide +kernel
abbrev y_P_fill : MethodName := ⟨"FrameTables$Parser", "fill", "(LFrameTables$Table;)I"⟩
abbrev m_P_fill : MethodName × ByteArray × Nat × Option FieldType := (y_P_fill, prog_2_method_2_code, 5, some .int)
theorem mi_P_fill : .code y_P_fill prog_2_method_2_code 5 (some .int) ∈ wT := wT_m 413 (by decide +kernel) rfl
theorem d_P_fill_0 : decode prog_2_method_2_code 0 = .ok (.aload_n 1, 1) := by decide +kernel
theorem d_P_fill_1 : decode prog_2_method_2_code 1 = .ok (.invokevirtual 25, 3) := by decide +kernel
theorem d_P_fill_4 : decode prog_2_method_2_code 4 = .ok (.iconst 1, 1) := by decide +kernel
theorem d_P_fill_5 : decode prog_2_method_2_code 5 = .ok (.istore_n 2, 1) := by decide +kernel
theorem d_P_fill_6 : decode prog_2_method_2_code 6 = .ok (.iconst 0, 1) := by decide +kernel
theorem d_P_fill_7 : decode prog_2_method_2_code 7 = .ok (.istore_n 3, 1) := by decide +kernel
theorem d_P_fill_8 : decode prog_2_method_2_code 8 = .ok (.iconst 0, 1) := by decide +kernel
theorem d_P_fill_9 : decode prog_2_method_2_code 9 = .ok (.istore 4, 2) := by decide +kernel
theorem d_P_fill_11 : decode prog_2_method_2_code 11 = .ok (.iload 4, 2) := by decide +kernel
theorem d_P_fill_13 : decode prog_2_method_2_code 13 = .ok (.aload_n 0, 1) := by decide +kernel
theorem d_P_fill_14 : decode prog_2_method_2_code 14 = .ok (.getfield 21, 3) := by decide +kernel
theorem d_P_fill_17 : decode prog_2_method_2_code 17 = .ok (.invokevirtual 30, 3) := by decide +kernel
theorem d_P_fill_20 : decode prog_2_method_2_code 20 = .ok (.if_icmp .gt 56, 3) := by decide +kernel
theorem d_P_fill_23 : decode prog_2_method_2_code 23 = .ok (.iload 4, 2) := by decide +kernel
theorem d_P_fill_25 : decode prog_2_method_2_code 25 = .ok (.aload_n 0, 1) := by decide +kernel
theorem d_P_fill_26 : decode prog_2_method_2_code 26 = .ok (.getfield 21, 3) := by decide +kernel
theorem d_P_fill_29 : decode prog_2_method_2_code 29 = .ok (.invokevirtual 30, 3) := by decide +kernel
theorem d_P_fill_32 : decode prog_2_method_2_code 32 = .ok (.if_icmp .eq 17, 3) := by decide +kernel
theorem d_P_fill_35 : decode prog_2_method_2_code 35 = .ok (.aload_n 0, 1) := by decide +kernel
theorem d_P_fill_36 : decode prog_2_method_2_code 36 = .ok (.getfield 21, 3) := by decide +kernel
theorem d_P_fill_39 : decode prog_2_method_2_code 39 = .ok (.iload 4, 2) := by decide +kernel
theorem d_P_fill_41 : decode prog_2_method_2_code 41 = .ok (.invokevirtual 36, 3) := by decide +kernel
theorem d_P_fill_44 : decode prog_2_method_2_code 44 = .ok (.bipush 10, 2) := by decide +kernel
theorem d_P_fill_46 : decode prog_2_method_2_code 46 = .ok (.if_icmp .ne 24, 3) := by decide +kernel
theorem d_P_fill_49 : decode prog_2_method_2_code 49 = .ok (.aload_n 0, 1) := by decide +kernel
theorem d_P_fill_50 : decode prog_2_method_2_code 50 = .ok (.iload_n 3, 1) := by decide +kernel
theorem d_P_fill_51 : decode prog_2_method_2_code 51 = .ok (.iload 4, 2) := by decide +kernel
theorem d_P_fill_53 : decode prog_2_method_2_code 53 = .ok (.aload_n 1, 1) := by decide +kernel
theorem d_P_fill_54 : decode prog_2_method_2_code 54 = .ok (.invokevirtual 40, 3) := by decide +kernel
theorem d_P_fill_57 : decode prog_2_method_2_code 57 = .ok (.ifCond .ne 5, 3) := by decide +kernel
theorem d_P_fill_60 : decode prog_2_method_2_code 60 = .ok (.iload_n 2, 1) := by decide +kernel
theorem d_P_fill_61 : decode prog_2_method_2_code 61 = .ok (.ireturn, 1) := by decide +kernel
theorem d_P_fill_62 : decode prog_2_method_2_code 62 = .ok (.iinc 2 1, 3) := by decide +kernel
theorem d_P_fill_65 : decode prog_2_method_2_code 65 = .ok (.iload 4, 2) := by decide +kernel
theorem d_P_fill_67 : decode prog_2_method_2_code 67 = .ok (.iconst 1, 1) := by decide +kernel
theorem d_P_fill_68 : decode prog_2_method_2_code 68 = .ok (.iadd, 1) := by decide +kernel
theorem d_P_fill_69 : decode prog_2_method_2_code 69 = .ok (.istore_n 3, 1) := by decide +kernel
theorem d_P_fill_70 : decode prog_2_method_2_code 70 = .ok (.iinc 4 1, 3) := by decide +kernel
theorem d_P_fill_73 : decode prog_2_method_2_code 73 = .ok (.goto (-62), 3) := by decide +kernel
theorem d_P_fill_76 : decode prog_2_method_2_code 76 = .ok (.iconst 0, 1) := by decide +kernel
theorem d_P_fill_77 : decode prog_2_method_2_code 77 = .ok (.ireturn, 1) := by decide +kernel
abbrev y_P_takeLine : MethodName := ⟨"FrameTables$Parser", "takeLine", "(IILFrameTables$Table;)Z"⟩
abbrev m_P_takeLine : MethodName × ByteArray × Nat × Option FieldType := (y_P_takeLine, prog_2_method_3_code, 4, some .boolean)
theorem mi_P_takeLine : .code y_P_takeLine prog_2_method_3_code 4 (some .boolean) ∈ wT := wT_m 429 (by decide +kernel) rfl
theorem d_P_takeLine_0 : decode prog_2_method_3_code 0 = .ok (.aload_n 0, 1) := by decide +kernel
theorem d_P_takeLine_1 : decode prog_2_method_3_code 1 = .ok (.iload_n 1, 1) := by decide +kernel
theorem d_P_takeLine_2 : decode prog_2_method_3_code 2 = .ok (.putfield 15, 3) := by decide +kernel
theorem d_P_takeLine_5 : decode prog_2_method_3_code 5 = .ok (.aload_n 0, 1) := by decide +kernel
theorem d_P_takeLine_6 : decode prog_2_method_3_code 6 = .ok (.iload_n 2, 1) := by decide +kernel
theorem d_P_takeLine_7 : decode prog_2_method_3_code 7 = .ok (.putfield 18, 3) := by decide +kernel
theorem d_P_takeLine_10 : decode prog_2_method_3_code 10 = .ok (.aload_n 0, 1) := by decide +kernel
theorem d_P_takeLine_11 : decode prog_2_method_3_code 11 = .ok (.invokevirtual 44, 3) := by decide +kernel
theorem d_P_takeLine_14 : decode prog_2_method_3_code 14 = .ok (.ifCond .ne 5, 3) := by decide +kernel
theorem d_P_takeLine_17 : decode prog_2_method_3_code 17 = .ok (.iconst 1, 1) := by decide +kernel
theorem d_P_takeLine_18 : decode prog_2_method_3_code 18 = .ok (.ireturn, 1) := by decide +kernel
theorem d_P_takeLine_19 : decode prog_2_method_3_code 19 = .ok (.aload_n 0, 1) := by decide +kernel
theorem d_P_takeLine_20 : decode prog_2_method_3_code 20 = .ok (.ldc 48, 2) := by decide +kernel
theorem d_P_takeLine_22 : decode prog_2_method_3_code 22 = .ok (.invokevirtual 50, 3) := by decide +kernel
theorem d_P_takeLine_25 : decode prog_2_method_3_code 25 = .ok (.ifCond .eq 23, 3) := by decide +kernel
theorem d_P_takeLine_28 : decode prog_2_method_3_code 28 = .ok (.aload_n 0, 1) := by decide +kernel
theorem d_P_takeLine_29 : decode prog_2_method_3_code 29 = .ok (.aload_n 3, 1) := by decide +kernel
theorem d_P_takeLine_30 : decode prog_2_method_3_code 30 = .ok (.invokevirtual 54, 3) := by decide +kernel
theorem d_P_takeLine_33 : decode prog_2_method_3_code 33 = .ok (.ifCond .eq 15, 3) := by decide +kernel
theorem d_P_takeLine_36 : decode prog_2_method_3_code 36 = .ok (.aload_n 0, 1) := by decide +kernel
theorem d_P_takeLine_37 : decode prog_2_method_3_code 37 = .ok (.aload_n 3, 1) := by decide +kernel
theorem d_P_takeLine_38 : decode prog_2_method_3_code 38 = .ok (.invokevirtual 58, 3) := by decide +kernel
theorem d_P_takeLine_41 : decode prog_2_method_3_code 41 = .ok (.ifCond .eq 7, 3) := by decide +kernel
theorem d_P_takeLine_44 : decode prog_2_method_3_code 44 = .ok (.iconst 1, 1) := by decide +kernel
theorem d_P_takeLine_45 : decode prog_2_method_3_code 45 = .ok (.goto 4, 3) := by decide +kernel
theorem d_P_takeLine_48 : decode prog_2_method_3_code 48 = .ok (.iconst 0, 1) := by decide +kernel
theorem d_P_takeLine_49 : decode prog_2_method_3_code 49 = .ok (.ireturn, 1) := by decide +kernel
abbrev y_P_nextWord : MethodName := ⟨"FrameTables$Parser", "nextWord", "()Z"⟩
abbrev m_P_nextWord : MethodName × ByteArray × Nat × Option FieldType := (y_P_nextWord, prog_2_method_7_code, 1, some .boolean)
theorem mi_P_nextWord : .code y_P_nextWord prog_2_method_7_code 1 (some .boolean) ∈ wT := wT_m 433 (by decide +kernel) rfl
theorem d_P_nextWord_0 : decode prog_2_method_7_code 0 = .ok (.aload_n 0, 1) := by decide +kernel
theorem d_P_nextWord_1 : decode prog_2_method_7_code 1 = .ok (.aload_n 0, 1) := by decide +kernel
theorem d_P_nextWord_2 : decode prog_2_method_7_code 2 = .ok (.getfield 15, 3) := by decide +kernel
theorem d_P_nextWord_5 : decode prog_2_method_7_code 5 = .ok (.putfield 9, 3) := by decide +kernel
theorem d_P_nextWord_8 : decode prog_2_method_7_code 8 = .ok (.aload_n 0, 1) := by decide +kernel
theorem d_P_nextWord_9 : decode prog_2_method_7_code 9 = .ok (.getfield 9, 3) := by decide +kernel
theorem d_P_nextWord_12 : decode prog_2_method_7_code 12 = .ok (.aload_n 0, 1) := by decide +kernel
theorem d_P_nextWord_13 : decode prog_2_method_7_code 13 = .ok (.getfield 18, 3) := by decide +kernel
theorem d_P_nextWord_16 : decode prog_2_method_7_code 16 = .ok (.if_icmp .ge 32, 3) := by decide +kernel
theorem d_P_nextWord_19 : decode prog_2_method_7_code 19 = .ok (.aload_n 0, 1) := by decide +kernel
theorem d_P_nextWord_20 : decode prog_2_method_7_code 20 = .ok (.getfield 21, 3) := by decide +kernel
theorem d_P_nextWord_23 : decode prog_2_method_7_code 23 = .ok (.aload_n 0, 1) := by decide +kernel
theorem d_P_nextWord_24 : decode prog_2_method_7_code 24 = .ok (.getfield 9, 3) := by decide +kernel
theorem d_P_nextWord_27 : decode prog_2_method_7_code 27 = .ok (.invokevirtual 36, 3) := by decide +kernel
theorem d_P_nextWord_30 : decode prog_2_method_7_code 30 = .ok (.bipush 32, 2) := by decide +kernel
theorem d_P_nextWord_32 : decode prog_2_method_7_code 32 = .ok (.if_icmp .ne 16, 3) := by decide +kernel
theorem d_P_nextWord_35 : decode prog_2_method_7_code 35 = .ok (.aload_n 0, 1) := by decide +kernel
theorem d_P_nextWord_36 : decode prog_2_method_7_code 36 = .ok (.dup, 1) := by decide +kernel
theorem d_P_nextWord_37 : decode prog_2_method_7_code 37 = .ok (.getfield 9, 3) := by decide +kernel
theorem d_P_nextWord_40 : decode prog_2_method_7_code 40 = .ok (.iconst 1, 1) := by decide +kernel
theorem d_P_nextWord_41 : decode prog_2_method_7_code 41 = .ok (.iadd, 1) := by decide +kernel
theorem d_P_nextWord_42 : decode prog_2_method_7_code 42 = .ok (.putfield 9, 3) := by decide +kernel
theorem d_P_nextWord_45 : decode prog_2_method_7_code 45 = .ok (.goto (-37), 3) := by decide +kernel
theorem d_P_nextWord_48 : decode prog_2_method_7_code 48 = .ok (.aload_n 0, 1) := by decide +kernel
theorem d_P_nextWord_49 : decode prog_2_method_7_code 49 = .ok (.aload_n 0, 1) := by decide +kernel
theorem d_P_nextWord_50 : decode prog_2_method_7_code 50 = .ok (.getfield 9, 3) := by decide +kernel
theorem d_P_nextWord_53 : decode prog_2_method_7_code 53 = .ok (.putfield 15, 3) := by decide +kernel
theorem d_P_nextWord_56 : decode prog_2_method_7_code 56 = .ok (.aload_n 0, 1) := by decide +kernel
theorem d_P_nextWord_57 : decode prog_2_method_7_code 57 = .ok (.getfield 15, 3) := by decide +kernel
theorem d_P_nextWord_60 : decode prog_2_method_7_code 60 = .ok (.aload_n 0, 1) := by decide +kernel
theorem d_P_nextWord_61 : decode prog_2_method_7_code 61 = .ok (.getfield 18, 3) := by decide +kernel
theorem d_P_nextWord_64 : decode prog_2_method_7_code 64 = .ok (.if_icmp .ge 32, 3) := by decide +kernel
theorem d_P_nextWord_67 : decode prog_2_method_7_code 67 = .ok (.aload_n 0, 1) := by decide +kernel
theorem d_P_nextWord_68 : decode prog_2_method_7_code 68 = .ok (.getfield 21, 3) := by decide +kernel
theorem d_P_nextWord_71 : decode prog_2_method_7_code 71 = .ok (.aload_n 0, 1) := by decide +kernel
theorem d_P_nextWord_72 : decode prog_2_method_7_code 72 = .ok (.getfield 15, 3) := by decide +kernel
theorem d_P_nextWord_75 : decode prog_2_method_7_code 75 = .ok (.invokevirtual 36, 3) := by decide +kernel
theorem d_P_nextWord_78 : decode prog_2_method_7_code 78 = .ok (.bipush 32, 2) := by decide +kernel
theorem d_P_nextWord_80 : decode prog_2_method_7_code 80 = .ok (.if_icmp .eq 16, 3) := by decide +kernel
theorem d_P_nextWord_83 : decode prog_2_method_7_code 83 = .ok (.aload_n 0, 1) := by decide +kernel
theorem d_P_nextWord_84 : decode prog_2_method_7_code 84 = .ok (.dup, 1) := by decide +kernel
theorem d_P_nextWord_85 : decode prog_2_method_7_code 85 = .ok (.getfield 15, 3) := by decide +kernel
theorem d_P_nextWord_88 : decode prog_2_method_7_code 88 = .ok (.iconst 1, 1) := by decide +kernel
theorem d_P_nextWord_89 : decode prog_2_method_7_code 89 = .ok (.iadd, 1) := by decide +kernel
theorem d_P_nextWord_90 : decode prog_2_method_7_code 90 = .ok (.putfield 15, 3) := by decide +kernel
theorem d_P_nextWord_93 : decode prog_2_method_7_code 93 = .ok (.goto (-37), 3) := by decide +kernel
theorem d_P_nextWord_96 : decode prog_2_method_7_code 96 = .ok (.aload_n 0, 1) := by decide +kernel
theorem d_P_nextWord_97 : decode prog_2_method_7_code 97 = .ok (.getfield 15, 3) := by decide +kernel
theorem d_P_nextWord_100 : decode prog_2_method_7_code 100 = .ok (.aload_n 0, 1) := by decide +kernel
theorem d_P_nextWord_101 : decode prog_2_method_7_code 101 = .ok (.getfield 9, 3) := by decide +kernel
theorem d_P_nextWord_104 : decode prog_2_method_7_code 104 = .ok (.if_icmp .le 7, 3) := by decide +kernel
theorem d_P_nextWord_107 : decode prog_2_method_7_code 107 = .ok (.iconst 1, 1) := by decide +kernel
theorem d_P_nextWord_108 : decode prog_2_method_7_code 108 = .ok (.goto 4, 3) := by decide +kernel
theorem d_P_nextWord_111 : decode prog_2_method_7_code 111 = .ok (.iconst 0, 1) := by decide +kernel
theorem d_P_nextWord_112 : decode prog_2_method_7_code 112 = .ok (.ireturn, 1) := by decide +kernel
abbrev y_P_wordIs : MethodName := ⟨"FrameTables$Parser", "wordIs", "(Ljava/lang/String;)Z"⟩
abbrev m_P_wordIs : MethodName × ByteArray × Nat × Option FieldType := (y_P_wordIs, prog_2_method_8_code, 3, some .boolean)
theorem mi_P_wordIs : .code y_P_wordIs prog_2_method_8_code 3 (some .boolean) ∈ wT := wT_m 438 (by decide +kernel) rfl
theorem d_P_wordIs_0 : decode prog_2_method_8_code 0 = .ok (.aload_n 0, 1) := by decide +kernel
theorem d_P_wordIs_1 : decode prog_2_method_8_code 1 = .ok (.getfield 15, 3) := by decide +kernel
theorem d_P_wordIs_4 : decode prog_2_method_8_code 4 = .ok (.aload_n 0, 1) := by decide +kernel
theorem d_P_wordIs_5 : decode prog_2_method_8_code 5 = .ok (.getfield 9, 3) := by decide +kernel
theorem d_P_wordIs_8 : decode prog_2_method_8_code 8 = .ok (.isub, 1) := by decide +kernel
theorem d_P_wordIs_9 : decode prog_2_method_8_code 9 = .ok (.aload_n 1, 1) := by decide +kernel
theorem d_P_wordIs_10 : decode prog_2_method_8_code 10 = .ok (.invokevirtual 97, 3) := by decide +kernel
theorem d_P_wordIs_13 : decode prog_2_method_8_code 13 = .ok (.if_icmp .eq 5, 3) := by decide +kernel
theorem d_P_wordIs_16 : decode prog_2_method_8_code 16 = .ok (.iconst 0, 1) := by decide +kernel
theorem d_P_wordIs_17 : decode prog_2_method_8_code 17 = .ok (.ireturn, 1) := by decide +kernel
theorem d_P_wordIs_18 : decode prog_2_method_8_code 18 = .ok (.iconst 0, 1) := by decide +kernel
theorem d_P_wordIs_19 : decode prog_2_method_8_code 19 = .ok (.istore_n 2, 1) := by decide +kernel
theorem d_P_wordIs_20 : decode prog_2_method_8_code 20 = .ok (.iload_n 2, 1) := by decide +kernel
theorem d_P_wordIs_21 : decode prog_2_method_8_code 21 = .ok (.aload_n 1, 1) := by decide +kernel
theorem d_P_wordIs_22 : decode prog_2_method_8_code 22 = .ok (.invokevirtual 97, 3) := by decide +kernel
theorem d_P_wordIs_25 : decode prog_2_method_8_code 25 = .ok (.if_icmp .ge 32, 3) := by decide +kernel
theorem d_P_wordIs_28 : decode prog_2_method_8_code 28 = .ok (.aload_n 0, 1) := by decide +kernel
theorem d_P_wordIs_29 : decode prog_2_method_8_code 29 = .ok (.getfield 21, 3) := by decide +kernel
theorem d_P_wordIs_32 : decode prog_2_method_8_code 32 = .ok (.aload_n 0, 1) := by decide +kernel
theorem d_P_wordIs_33 : decode prog_2_method_8_code 33 = .ok (.getfield 9, 3) := by decide +kernel
theorem d_P_wordIs_36 : decode prog_2_method_8_code 36 = .ok (.iload_n 2, 1) := by decide +kernel
theorem d_P_wordIs_37 : decode prog_2_method_8_code 37 = .ok (.iadd, 1) := by decide +kernel
theorem d_P_wordIs_38 : decode prog_2_method_8_code 38 = .ok (.invokevirtual 36, 3) := by decide +kernel
theorem d_P_wordIs_41 : decode prog_2_method_8_code 41 = .ok (.aload_n 1, 1) := by decide +kernel
theorem d_P_wordIs_42 : decode prog_2_method_8_code 42 = .ok (.iload_n 2, 1) := by decide +kernel
theorem d_P_wordIs_43 : decode prog_2_method_8_code 43 = .ok (.invokevirtual 100, 3) := by decide +kernel
theorem d_P_wordIs_46 : decode prog_2_method_8_code 46 = .ok (.if_icmp .eq 5, 3) := by decide +kernel
theorem d_P_wordIs_49 : decode prog_2_method_8_code 49 = .ok (.iconst 0, 1) := by decide +kernel
theorem d_P_wordIs_50 : decode prog_2_method_8_code 50 = .ok (.ireturn, 1) := by decide +kernel
theorem d_P_wordIs_51 : decode prog_2_method_8_code 51 = .ok (.iinc 2 1, 3) := by decide +kernel
theorem d_P_wordIs_54 : decode prog_2_method_8_code 54 = .ok (.goto (-34), 3) := by decide +kernel
theorem d_P_wordIs_57 : decode prog_2_method_8_code 57 = .ok (.iconst 1, 1) := by decide +kernel
theorem d_P_wordIs_58 : decode prog_2_method_8_code 58 = .ok (.ireturn, 1) := by decide +kernel
abbrev y_P_takeFrame : MethodName := ⟨"FrameTables$Parser", "takeFrame", "(LFrameTables$Table;)Z"⟩
abbrev m_P_takeFrame : MethodName × ByteArray × Nat × Option FieldType := (y_P_takeFrame, prog_2_method_4_code, 6, some .boolean)
theorem mi_P_takeFrame : .code y_P_takeFrame prog_2_method_4_code 6 (some .boolean) ∈ wT := wT_m 490 (by decide +kernel) rfl
theorem d_P_takeFrame_0 : decode prog_2_method_4_code 0 = .ok (.aload_n 0, 1) := by decide +kernel
theorem d_P_takeFrame_1 : decode prog_2_method_4_code 1 = .ok (.invokevirtual 61, 3) := by decide +kernel
theorem d_P_takeFrame_4 : decode prog_2_method_4_code 4 = .ok (.istore_n 2, 1) := by decide +kernel
theorem d_P_takeFrame_5 : decode prog_2_method_4_code 5 = .ok (.aload_n 0, 1) := by decide +kernel
theorem d_P_takeFrame_6 : decode prog_2_method_4_code 6 = .ok (.invokevirtual 61, 3) := by decide +kernel
theorem d_P_takeFrame_9 : decode prog_2_method_4_code 9 = .ok (.istore_n 3, 1) := by decide +kernel
theorem d_P_takeFrame_10 : decode prog_2_method_4_code 10 = .ok (.aload_n 0, 1) := by decide +kernel
theorem d_P_takeFrame_11 : decode prog_2_method_4_code 11 = .ok (.invokevirtual 61, 3) := by decide +kernel
theorem d_P_takeFrame_14 : decode prog_2_method_4_code 14 = .ok (.istore 4, 2) := by decide +kernel
theorem d_P_takeFrame_16 : decode prog_2_method_4_code 16 = .ok (.aload_n 0, 1) := by decide +kernel
theorem d_P_takeFrame_17 : decode prog_2_method_4_code 17 = .ok (.invokevirtual 61, 3) := by decide +kernel
theorem d_P_takeFrame_20 : decode prog_2_method_4_code 20 = .ok (.istore 5, 2) := by decide +kernel
theorem d_P_takeFrame_22 : decode prog_2_method_4_code 22 = .ok (.iload_n 2, 1) := by decide +kernel
theorem d_P_takeFrame_23 : decode prog_2_method_4_code 23 = .ok (.invokestatic 64, 3) := by decide +kernel
theorem d_P_takeFrame_26 : decode prog_2_method_4_code 26 = .ok (.ifCond .eq 18, 3) := by decide +kernel
theorem d_P_takeFrame_29 : decode prog_2_method_4_code 29 = .ok (.iload_n 3, 1) := by decide +kernel
theorem d_P_takeFrame_30 : decode prog_2_method_4_code 30 = .ok (.invokestatic 68, 3) := by decide +kernel
theorem d_P_takeFrame_33 : decode prog_2_method_4_code 33 = .ok (.ifCond .eq 11, 3) := by decide +kernel
theorem d_P_takeFrame_36 : decode prog_2_method_4_code 36 = .ok (.iload 4, 2) := by decide +kernel
theorem d_P_takeFrame_38 : decode prog_2_method_4_code 38 = .ok (.invokestatic 71, 3) := by decide +kernel
theorem d_P_takeFrame_41 : decode prog_2_method_4_code 41 = .ok (.ifCond .ne 5, 3) := by decide +kernel
theorem d_P_takeFrame_44 : decode prog_2_method_4_code 44 = .ok (.iconst 0, 1) := by decide +kernel
theorem d_P_takeFrame_45 : decode prog_2_method_4_code 45 = .ok (.ireturn, 1) := by decide +kernel
theorem d_P_takeFrame_46 : decode prog_2_method_4_code 46 = .ok (.iload 5, 2) := by decide +kernel
theorem d_P_takeFrame_48 : decode prog_2_method_4_code 48 = .ok (.ifCond .lt 16, 3) := by decide +kernel
theorem d_P_takeFrame_51 : decode prog_2_method_4_code 51 = .ok (.iload 5, 2) := by decide +kernel
theorem d_P_takeFrame_53 : decode prog_2_method_4_code 53 = .ok (.iload_n 3, 1) := by decide +kernel
theorem d_P_takeFrame_54 : decode prog_2_method_4_code 54 = .ok (.if_icmp .gt 10, 3) := by decide +kernel
theorem d_P_takeFrame_57 : decode prog_2_method_4_code 57 = .ok (.aload_n 1, 1) := by decide +kernel
theorem d_P_takeFrame_58 : decode prog_2_method_4_code 58 = .ok (.invokevirtual 74, 3) := by decide +kernel
theorem d_P_takeFrame_61 : decode prog_2_method_4_code 61 = .ok (.ifCond .eq 5, 3) := by decide +kernel
theorem d_P_takeFrame_64 : decode prog_2_method_4_code 64 = .ok (.iconst 0, 1) := by decide +kernel
theorem d_P_takeFrame_65 : decode prog_2_method_4_code 65 = .ok (.ireturn, 1) := by decide +kernel
theorem d_P_takeFrame_66 : decode prog_2_method_4_code 66 = .ok (.aload_n 1, 1) := by decide +kernel
theorem d_P_takeFrame_67 : decode prog_2_method_4_code 67 = .ok (.iload_n 2, 1) := by decide +kernel
theorem d_P_takeFrame_68 : decode prog_2_method_4_code 68 = .ok (.iload_n 3, 1) := by decide +kernel
theorem d_P_takeFrame_69 : decode prog_2_method_4_code 69 = .ok (.iload 4, 2) := by decide +kernel
theorem d_P_takeFrame_71 : decode prog_2_method_4_code 71 = .ok (.iload 5, 2) := by decide +kernel
theorem d_P_takeFrame_73 : decode prog_2_method_4_code 73 = .ok (.invokevirtual 77, 3) := by decide +kernel
theorem d_P_takeFrame_76 : decode prog_2_method_4_code 76 = .ok (.pop, 1) := by decide +kernel
theorem d_P_takeFrame_77 : decode prog_2_method_4_code 77 = .ok (.iconst 1, 1) := by decide +kernel
theorem d_P_takeFrame_78 : decode prog_2_method_4_code 78 = .ok (.ireturn, 1) := by decide +kernel
abbrev y_P_nextNumber : MethodName := ⟨"FrameTables$Parser", "nextNumber", "()I"⟩
abbrev m_P_nextNumber : MethodName × ByteArray × Nat × Option FieldType := (y_P_nextNumber, prog_2_method_9_code, 4, some .int)
theorem mi_P_nextNumber : .code y_P_nextNumber prog_2_method_9_code 4 (some .int) ∈ wT := wT_m 494 (by decide +kernel) rfl
theorem d_P_nextNumber_0 : decode prog_2_method_9_code 0 = .ok (.aload_n 0, 1) := by decide +kernel
theorem d_P_nextNumber_1 : decode prog_2_method_9_code 1 = .ok (.invokevirtual 44, 3) := by decide +kernel
theorem d_P_nextNumber_4 : decode prog_2_method_9_code 4 = .ok (.ifCond .eq 17, 3) := by decide +kernel
theorem d_P_nextNumber_7 : decode prog_2_method_9_code 7 = .ok (.aload_n 0, 1) := by decide +kernel
theorem d_P_nextNumber_8 : decode prog_2_method_9_code 8 = .ok (.getfield 15, 3) := by decide +kernel
theorem d_P_nextNumber_11 : decode prog_2_method_9_code 11 = .ok (.aload_n 0, 1) := by decide +kernel
theorem d_P_nextNumber_12 : decode prog_2_method_9_code 12 = .ok (.getfield 9, 3) := by decide +kernel
theorem d_P_nextNumber_15 : decode prog_2_method_9_code 15 = .ok (.isub, 1) := by decide +kernel
theorem d_P_nextNumber_16 : decode prog_2_method_9_code 16 = .ok (.bipush 6, 2) := by decide +kernel
theorem d_P_nextNumber_18 : decode prog_2_method_9_code 18 = .ok (.if_icmp .le 5, 3) := by decide +kernel
theorem d_P_nextNumber_21 : decode prog_2_method_9_code 21 = .ok (.iconst (-1), 1) := by decide +kernel
theorem d_P_nextNumber_22 : decode prog_2_method_9_code 22 = .ok (.ireturn, 1) := by decide +kernel
theorem d_P_nextNumber_23 : decode prog_2_method_9_code 23 = .ok (.iconst 0, 1) := by decide +kernel
theorem d_P_nextNumber_24 : decode prog_2_method_9_code 24 = .ok (.istore_n 1, 1) := by decide +kernel
theorem d_P_nextNumber_25 : decode prog_2_method_9_code 25 = .ok (.aload_n 0, 1) := by decide +kernel
theorem d_P_nextNumber_26 : decode prog_2_method_9_code 26 = .ok (.getfield 9, 3) := by decide +kernel
theorem d_P_nextNumber_29 : decode prog_2_method_9_code 29 = .ok (.istore_n 2, 1) := by decide +kernel
theorem d_P_nextNumber_30 : decode prog_2_method_9_code 30 = .ok (.iload_n 2, 1) := by decide +kernel
theorem d_P_nextNumber_31 : decode prog_2_method_9_code 31 = .ok (.aload_n 0, 1) := by decide +kernel
theorem d_P_nextNumber_32 : decode prog_2_method_9_code 32 = .ok (.getfield 15, 3) := by decide +kernel
theorem d_P_nextNumber_35 : decode prog_2_method_9_code 35 = .ok (.if_icmp .ge 40, 3) := by decide +kernel
theorem d_P_nextNumber_38 : decode prog_2_method_9_code 38 = .ok (.aload_n 0, 1) := by decide +kernel
theorem d_P_nextNumber_39 : decode prog_2_method_9_code 39 = .ok (.getfield 21, 3) := by decide +kernel
theorem d_P_nextNumber_42 : decode prog_2_method_9_code 42 = .ok (.iload_n 2, 1) := by decide +kernel
theorem d_P_nextNumber_43 : decode prog_2_method_9_code 43 = .ok (.invokevirtual 36, 3) := by decide +kernel
theorem d_P_nextNumber_46 : decode prog_2_method_9_code 46 = .ok (.bipush 48, 2) := by decide +kernel
theorem d_P_nextNumber_48 : decode prog_2_method_9_code 48 = .ok (.isub, 1) := by decide +kernel
theorem d_P_nextNumber_49 : decode prog_2_method_9_code 49 = .ok (.istore_n 3, 1) := by decide +kernel
theorem d_P_nextNumber_50 : decode prog_2_method_9_code 50 = .ok (.iload_n 3, 1) := by decide +kernel
theorem d_P_nextNumber_51 : decode prog_2_method_9_code 51 = .ok (.ifCond .lt 9, 3) := by decide +kernel
theorem d_P_nextNumber_54 : decode prog_2_method_9_code 54 = .ok (.iload_n 3, 1) := by decide +kernel
theorem d_P_nextNumber_55 : decode prog_2_method_9_code 55 = .ok (.bipush 9, 2) := by decide +kernel
theorem d_P_nextNumber_57 : decode prog_2_method_9_code 57 = .ok (.if_icmp .le 5, 3) := by decide +kernel
theorem d_P_nextNumber_60 : decode prog_2_method_9_code 60 = .ok (.iconst (-1), 1) := by decide +kernel
theorem d_P_nextNumber_61 : decode prog_2_method_9_code 61 = .ok (.ireturn, 1) := by decide +kernel
theorem d_P_nextNumber_62 : decode prog_2_method_9_code 62 = .ok (.iload_n 1, 1) := by decide +kernel
theorem d_P_nextNumber_63 : decode prog_2_method_9_code 63 = .ok (.bipush 10, 2) := by decide +kernel
theorem d_P_nextNumber_65 : decode prog_2_method_9_code 65 = .ok (.imul, 1) := by decide +kernel
theorem d_P_nextNumber_66 : decode prog_2_method_9_code 66 = .ok (.iload_n 3, 1) := by decide +kernel
theorem d_P_nextNumber_67 : decode prog_2_method_9_code 67 = .ok (.iadd, 1) := by decide +kernel
theorem d_P_nextNumber_68 : decode prog_2_method_9_code 68 = .ok (.istore_n 1, 1) := by decide +kernel
theorem d_P_nextNumber_69 : decode prog_2_method_9_code 69 = .ok (.iinc 2 1, 3) := by decide +kernel
theorem d_P_nextNumber_72 : decode prog_2_method_9_code 72 = .ok (.goto (-42), 3) := by decide +kernel
theorem d_P_nextNumber_75 : decode prog_2_method_9_code 75 = .ok (.iload_n 1, 1) := by decide +kernel
theorem d_P_nextNumber_76 : decode prog_2_method_9_code 76 = .ok (.ireturn, 1) := by decide +kernel
abbrev y_P_takeReaders : MethodName := ⟨"FrameTables$Parser", "takeReaders", "(LFrameTables$Table;)Z"⟩
abbrev m_P_takeReaders : MethodName × ByteArray × Nat × Option FieldType := (y_P_takeReaders, prog_2_method_5_code, 6, some .boolean)
theorem mi_P_takeReaders : .code y_P_takeReaders prog_2_method_5_code 6 (some .boolean) ∈ wT := wT_m 503 (by decide +kernel) rfl
theorem d_P_takeReaders_0 : decode prog_2_method_5_code 0 = .ok (.iconst 0, 1) := by decide +kernel
theorem d_P_takeReaders_1 : decode prog_2_method_5_code 1 = .ok (.istore_n 2, 1) := by decide +kernel
theorem d_P_takeReaders_2 : decode prog_2_method_5_code 2 = .ok (.iload_n 2, 1) := by decide +kernel
theorem d_P_takeReaders_3 : decode prog_2_method_5_code 3 = .ok (.sipush 2000, 3) := by decide +kernel
theorem d_P_takeReaders_6 : decode prog_2_method_5_code 6 = .ok (.if_icmp .gt 67, 3) := by decide +kernel
theorem d_P_takeReaders_9 : decode prog_2_method_5_code 9 = .ok (.aload_n 0, 1) := by decide +kernel
theorem d_P_takeReaders_10 : decode prog_2_method_5_code 10 = .ok (.invokevirtual 44, 3) := by decide +kernel
theorem d_P_takeReaders_13 : decode prog_2_method_5_code 13 = .ok (.ifCond .ne 5, 3) := by decide +kernel
theorem d_P_takeReaders_16 : decode prog_2_method_5_code 16 = .ok (.iconst 1, 1) := by decide +kernel
theorem d_P_takeReaders_17 : decode prog_2_method_5_code 17 = .ok (.ireturn, 1) := by decide +kernel
theorem d_P_takeReaders_18 : decode prog_2_method_5_code 18 = .ok (.aload_n 0, 1) := by decide +kernel
theorem d_P_takeReaders_19 : decode prog_2_method_5_code 19 = .ok (.ldc 81, 2) := by decide +kernel
theorem d_P_takeReaders_21 : decode prog_2_method_5_code 21 = .ok (.invokevirtual 50, 3) := by decide +kernel
theorem d_P_takeReaders_24 : decode prog_2_method_5_code 24 = .ok (.istore_n 3, 1) := by decide +kernel
theorem d_P_takeReaders_25 : decode prog_2_method_5_code 25 = .ok (.aload_n 0, 1) := by decide +kernel
theorem d_P_takeReaders_26 : decode prog_2_method_5_code 26 = .ok (.invokevirtual 61, 3) := by decide +kernel
theorem d_P_takeReaders_29 : decode prog_2_method_5_code 29 = .ok (.istore 4, 2) := by decide +kernel
theorem d_P_takeReaders_31 : decode prog_2_method_5_code 31 = .ok (.aload_n 0, 1) := by decide +kernel
theorem d_P_takeReaders_32 : decode prog_2_method_5_code 32 = .ok (.invokevirtual 61, 3) := by decide +kernel
theorem d_P_takeReaders_35 : decode prog_2_method_5_code 35 = .ok (.istore 5, 2) := by decide +kernel
theorem d_P_takeReaders_37 : decode prog_2_method_5_code 37 = .ok (.iload_n 3, 1) := by decide +kernel
theorem d_P_takeReaders_38 : decode prog_2_method_5_code 38 = .ok (.ifCond .eq 15, 3) := by decide +kernel
theorem d_P_takeReaders_41 : decode prog_2_method_5_code 41 = .ok (.aload_n 0, 1) := by decide +kernel
theorem d_P_takeReaders_42 : decode prog_2_method_5_code 42 = .ok (.aload_n 1, 1) := by decide +kernel
theorem d_P_takeReaders_43 : decode prog_2_method_5_code 43 = .ok (.iload 4, 2) := by decide +kernel
theorem d_P_takeReaders_45 : decode prog_2_method_5_code 45 = .ok (.iload 5, 2) := by decide +kernel
theorem d_P_takeReaders_47 : decode prog_2_method_5_code 47 = .ok (.invokevirtual 83, 3) := by decide +kernel
theorem d_P_takeReaders_50 : decode prog_2_method_5_code 50 = .ok (.ifCond .ne 5, 3) := by decide +kernel
theorem d_P_takeReaders_53 : decode prog_2_method_5_code 53 = .ok (.iconst 0, 1) := by decide +kernel
theorem d_P_takeReaders_54 : decode prog_2_method_5_code 54 = .ok (.ireturn, 1) := by decide +kernel
theorem d_P_takeReaders_55 : decode prog_2_method_5_code 55 = .ok (.aload_n 1, 1) := by decide +kernel
theorem d_P_takeReaders_56 : decode prog_2_method_5_code 56 = .ok (.aload_n 1, 1) := by decide +kernel
theorem d_P_takeReaders_57 : decode prog_2_method_5_code 57 = .ok (.invokevirtual 87, 3) := by decide +kernel
theorem d_P_takeReaders_60 : decode prog_2_method_5_code 60 = .ok (.iload 4, 2) := by decide +kernel
theorem d_P_takeReaders_62 : decode prog_2_method_5_code 62 = .ok (.iload 5, 2) := by decide +kernel
theorem d_P_takeReaders_64 : decode prog_2_method_5_code 64 = .ok (.invokevirtual 90, 3) := by decide +kernel
theorem d_P_takeReaders_67 : decode prog_2_method_5_code 67 = .ok (.iinc 2 1, 3) := by decide +kernel
theorem d_P_takeReaders_70 : decode prog_2_method_5_code 70 = .ok (.goto (-68), 3) := by decide +kernel
theorem d_P_takeReaders_73 : decode prog_2_method_5_code 73 = .ok (.iconst 0, 1) := by decide +kernel
theorem d_P_takeReaders_74 : decode prog_2_method_5_code 74 = .ok (.ireturn, 1) := by decide +kernel
abbrev y_P_mayRead : MethodName := ⟨"FrameTables$Parser", "mayRead", "(LFrameTables$Table;II)Z"⟩
abbrev m_P_mayRead : MethodName × ByteArray × Nat × Option FieldType := (y_P_mayRead, prog_2_method_6_code, 4, some .boolean)
theorem mi_P_mayRead : .code y_P_mayRead prog_2_method_6_code 4 (some .boolean) ∈ wT := wT_m 508 (by decide +kernel) rfl
theorem d_P_mayRead_0 : decode prog_2_method_6_code 0 = .ok (.iload_n 2, 1) := by decide +kernel
theorem d_P_mayRead_1 : decode prog_2_method_6_code 1 = .ok (.invokestatic 64, 3) := by decide +kernel
theorem d_P_mayRead_4 : decode prog_2_method_6_code 4 = .ok (.ifCond .eq 31, 3) := by decide +kernel
theorem d_P_mayRead_7 : decode prog_2_method_6_code 7 = .ok (.iload_n 2, 1) := by decide +kernel
theorem d_P_mayRead_8 : decode prog_2_method_6_code 8 = .ok (.aload_n 1, 1) := by decide +kernel
theorem d_P_mayRead_9 : decode prog_2_method_6_code 9 = .ok (.aload_n 1, 1) := by decide +kernel
theorem d_P_mayRead_10 : decode prog_2_method_6_code 10 = .ok (.invokevirtual 87, 3) := by decide +kernel
theorem d_P_mayRead_13 : decode prog_2_method_6_code 13 = .ok (.invokevirtual 94, 3) := by decide +kernel
theorem d_P_mayRead_16 : decode prog_2_method_6_code 16 = .ok (.if_icmp .eq 19, 3) := by decide +kernel
theorem d_P_mayRead_19 : decode prog_2_method_6_code 19 = .ok (.iload_n 3, 1) := by decide +kernel
theorem d_P_mayRead_20 : decode prog_2_method_6_code 20 = .ok (.iconst 1, 1) := by decide +kernel
theorem d_P_mayRead_21 : decode prog_2_method_6_code 21 = .ok (.if_icmp .lt 14, 3) := by decide +kernel
theorem d_P_mayRead_24 : decode prog_2_method_6_code 24 = .ok (.iload_n 3, 1) := by decide +kernel
theorem d_P_mayRead_25 : decode prog_2_method_6_code 25 = .ok (.sipush 10000, 3) := by decide +kernel
theorem d_P_mayRead_28 : decode prog_2_method_6_code 28 = .ok (.if_icmp .gt 7, 3) := by decide +kernel
theorem d_P_mayRead_31 : decode prog_2_method_6_code 31 = .ok (.iconst 1, 1) := by decide +kernel
theorem d_P_mayRead_32 : decode prog_2_method_6_code 32 = .ok (.goto 4, 3) := by decide +kernel
theorem d_P_mayRead_35 : decode prog_2_method_6_code 35 = .ok (.iconst 0, 1) := by decide +kernel
theorem d_P_mayRead_36 : decode prog_2_method_6_code 36 = .ok (.ireturn, 1) := by decide +kernel
abbrev y_F_print : MethodName := ⟨"FrameTables", "print", "()I"⟩
abbrev m_F_print : MethodName × ByteArray × Nat × Option FieldType := (y_F_print, prog_1_method_13_code, 2, some .int)
theorem mi_F_print : .code y_F_print prog_1_method_13_code 2 (some .int) ∈ wT := wT_m 520 (by decide +kernel) rfl
theorem d_F_print_0 : decode prog_1_method_13_code 0 = .ok (.aload_n 0, 1) := by decide +kernel
theorem d_F_print_1 : decode prog_1_method_13_code 1 = .ok (.getfield 29, 3) := by decide +kernel
theorem d_F_print_4 : decode prog_1_method_13_code 4 = .ok (.invokevirtual 142, 3) := by decide +kernel
theorem d_F_print_7 : decode prog_1_method_13_code 7 = .ok (.iconst 1, 1) := by decide +kernel
theorem d_F_print_8 : decode prog_1_method_13_code 8 = .ok (.istore_n 1, 1) := by decide +kernel
theorem d_F_print_9 : decode prog_1_method_13_code 9 = .ok (.iload_n 1, 1) := by decide +kernel
theorem d_F_print_10 : decode prog_1_method_13_code 10 = .ok (.aload_n 0, 1) := by decide +kernel
theorem d_F_print_11 : decode prog_1_method_13_code 11 = .ok (.getfield 10, 3) := by decide +kernel
theorem d_F_print_14 : decode prog_1_method_13_code 14 = .ok (.invokevirtual 127, 3) := by decide +kernel
theorem d_F_print_17 : decode prog_1_method_13_code 17 = .ok (.if_icmp .gt 14, 3) := by decide +kernel
theorem d_F_print_20 : decode prog_1_method_13_code 20 = .ok (.aload_n 0, 1) := by decide +kernel
theorem d_F_print_21 : decode prog_1_method_13_code 21 = .ok (.iload_n 1, 1) := by decide +kernel
theorem d_F_print_22 : decode prog_1_method_13_code 22 = .ok (.invokevirtual 145, 3) := by decide +kernel
theorem d_F_print_25 : decode prog_1_method_13_code 25 = .ok (.iinc 1 1, 3) := by decide +kernel
theorem d_F_print_28 : decode prog_1_method_13_code 28 = .ok (.goto (-19), 3) := by decide +kernel
theorem d_F_print_31 : decode prog_1_method_13_code 31 = .ok (.aload_n 0, 1) := by decide +kernel
theorem d_F_print_32 : decode prog_1_method_13_code 32 = .ok (.getfield 29, 3) := by decide +kernel
theorem d_F_print_35 : decode prog_1_method_13_code 35 = .ok (.invokevirtual 149, 3) := by decide +kernel
theorem d_F_print_38 : decode prog_1_method_13_code 38 = .ok (.ifCond .eq 13, 3) := by decide +kernel
theorem d_F_print_41 : decode prog_1_method_13_code 41 = .ok (.aload_n 0, 1) := by decide +kernel
theorem d_F_print_42 : decode prog_1_method_13_code 42 = .ok (.getfield 29, 3) := by decide +kernel
theorem d_F_print_45 : decode prog_1_method_13_code 45 = .ok (.invokevirtual 142, 3) := by decide +kernel
theorem d_F_print_48 : decode prog_1_method_13_code 48 = .ok (.bipush (-4), 2) := by decide +kernel
theorem d_F_print_50 : decode prog_1_method_13_code 50 = .ok (.ireturn, 1) := by decide +kernel
theorem d_F_print_51 : decode prog_1_method_13_code 51 = .ok (.aload_n 0, 1) := by decide +kernel
theorem d_F_print_52 : decode prog_1_method_13_code 52 = .ok (.getfield 29, 3) := by decide +kernel
theorem d_F_print_55 : decode prog_1_method_13_code 55 = .ok (.invokevirtual 152, 3) := by decide +kernel
theorem d_F_print_58 : decode prog_1_method_13_code 58 = .ok (.ireturn, 1) := by decide +kernel
abbrev y_F_writeLine : MethodName := ⟨"FrameTables", "writeLine", "(I)V"⟩
abbrev m_F_writeLine : MethodName × ByteArray × Nat × Option FieldType := (y_F_writeLine, prog_1_method_22_code, 3, none)
theorem mi_F_writeLine : .code y_F_writeLine prog_1_method_22_code 3 none ∈ wT := wT_m 524 (by decide +kernel) rfl
theorem d_F_writeLine_0 : decode prog_1_method_22_code 0 = .ok (.aload_n 0, 1) := by decide +kernel
theorem d_F_writeLine_1 : decode prog_1_method_22_code 1 = .ok (.getfield 29, 3) := by decide +kernel
theorem d_F_writeLine_4 : decode prog_1_method_22_code 4 = .ok (.ldc 177, 2) := by decide +kernel
theorem d_F_writeLine_6 : decode prog_1_method_22_code 6 = .ok (.invokevirtual 179, 3) := by decide +kernel
theorem d_F_writeLine_9 : decode prog_1_method_22_code 9 = .ok (.aload_n 0, 1) := by decide +kernel
theorem d_F_writeLine_10 : decode prog_1_method_22_code 10 = .ok (.getfield 29, 3) := by decide +kernel
theorem d_F_writeLine_13 : decode prog_1_method_22_code 13 = .ok (.aload_n 0, 1) := by decide +kernel
theorem d_F_writeLine_14 : decode prog_1_method_22_code 14 = .ok (.getfield 10, 3) := by decide +kernel
theorem d_F_writeLine_17 : decode prog_1_method_22_code 17 = .ok (.iload_n 1, 1) := by decide +kernel
theorem d_F_writeLine_18 : decode prog_1_method_22_code 18 = .ok (.invokevirtual 74, 3) := by decide +kernel
theorem d_F_writeLine_21 : decode prog_1_method_22_code 21 = .ok (.invokevirtual 183, 3) := by decide +kernel
theorem d_F_writeLine_24 : decode prog_1_method_22_code 24 = .ok (.aload_n 0, 1) := by decide +kernel
theorem d_F_writeLine_25 : decode prog_1_method_22_code 25 = .ok (.getfield 29, 3) := by decide +kernel
theorem d_F_writeLine_28 : decode prog_1_method_22_code 28 = .ok (.aload_n 0, 1) := by decide +kernel
theorem d_F_writeLine_29 : decode prog_1_method_22_code 29 = .ok (.getfield 10, 3) := by decide +kernel
theorem d_F_writeLine_32 : decode prog_1_method_22_code 32 = .ok (.iload_n 1, 1) := by decide +kernel
theorem d_F_writeLine_33 : decode prog_1_method_22_code 33 = .ok (.invokevirtual 120, 3) := by decide +kernel
theorem d_F_writeLine_36 : decode prog_1_method_22_code 36 = .ok (.invokevirtual 183, 3) := by decide +kernel
theorem d_F_writeLine_39 : decode prog_1_method_22_code 39 = .ok (.aload_n 0, 1) := by decide +kernel
theorem d_F_writeLine_40 : decode prog_1_method_22_code 40 = .ok (.getfield 29, 3) := by decide +kernel
theorem d_F_writeLine_43 : decode prog_1_method_22_code 43 = .ok (.aload_n 0, 1) := by decide +kernel
theorem d_F_writeLine_44 : decode prog_1_method_22_code 44 = .ok (.getfield 10, 3) := by decide +kernel
theorem d_F_writeLine_47 : decode prog_1_method_22_code 47 = .ok (.iload_n 1, 1) := by decide +kernel
theorem d_F_writeLine_48 : decode prog_1_method_22_code 48 = .ok (.invokevirtual 186, 3) := by decide +kernel
theorem d_F_writeLine_51 : decode prog_1_method_22_code 51 = .ok (.invokevirtual 183, 3) := by decide +kernel
theorem d_F_writeLine_54 : decode prog_1_method_22_code 54 = .ok (.aload_n 0, 1) := by decide +kernel
theorem d_F_writeLine_55 : decode prog_1_method_22_code 55 = .ok (.getfield 29, 3) := by decide +kernel
theorem d_F_writeLine_58 : decode prog_1_method_22_code 58 = .ok (.aload_n 0, 1) := by decide +kernel
theorem d_F_writeLine_59 : decode prog_1_method_22_code 59 = .ok (.getfield 10, 3) := by decide +kernel
theorem d_F_writeLine_62 : decode prog_1_method_22_code 62 = .ok (.iload_n 1, 1) := by decide +kernel
theorem d_F_writeLine_63 : decode prog_1_method_22_code 63 = .ok (.invokevirtual 189, 3) := by decide +kernel
theorem d_F_writeLine_66 : decode prog_1_method_22_code 66 = .ok (.invokevirtual 183, 3) := by decide +kernel
theorem d_F_writeLine_69 : decode prog_1_method_22_code 69 = .ok (.iconst 1, 1) := by decide +kernel
theorem d_F_writeLine_70 : decode prog_1_method_22_code 70 = .ok (.istore_n 2, 1) := by decide +kernel
theorem d_F_writeLine_71 : decode prog_1_method_22_code 71 = .ok (.iload_n 2, 1) := by decide +kernel
theorem d_F_writeLine_72 : decode prog_1_method_22_code 72 = .ok (.bipush 20, 2) := by decide +kernel
theorem d_F_writeLine_74 : decode prog_1_method_22_code 74 = .ok (.if_icmp .gt 63, 3) := by decide +kernel
theorem d_F_writeLine_77 : decode prog_1_method_22_code 77 = .ok (.aload_n 0, 1) := by decide +kernel
theorem d_F_writeLine_78 : decode prog_1_method_22_code 78 = .ok (.getfield 10, 3) := by decide +kernel
theorem d_F_writeLine_81 : decode prog_1_method_22_code 81 = .ok (.iload_n 1, 1) := by decide +kernel
theorem d_F_writeLine_82 : decode prog_1_method_22_code 82 = .ok (.iload_n 2, 1) := by decide +kernel
theorem d_F_writeLine_83 : decode prog_1_method_22_code 83 = .ok (.invokevirtual 192, 3) := by decide +kernel
theorem d_F_writeLine_86 : decode prog_1_method_22_code 86 = .ok (.ifCond .eq 45, 3) := by decide +kernel
theorem d_F_writeLine_89 : decode prog_1_method_22_code 89 = .ok (.aload_n 0, 1) := by decide +kernel
theorem d_F_writeLine_90 : decode prog_1_method_22_code 90 = .ok (.getfield 29, 3) := by decide +kernel
theorem d_F_writeLine_93 : decode prog_1_method_22_code 93 = .ok (.bipush 32, 2) := by decide +kernel
theorem d_F_writeLine_95 : decode prog_1_method_22_code 95 = .ok (.invokevirtual 135, 3) := by decide +kernel
theorem d_F_writeLine_98 : decode prog_1_method_22_code 98 = .ok (.aload_n 0, 1) := by decide +kernel
theorem d_F_writeLine_99 : decode prog_1_method_22_code 99 = .ok (.getfield 29, 3) := by decide +kernel
theorem d_F_writeLine_102 : decode prog_1_method_22_code 102 = .ok (.ldc 195, 2) := by decide +kernel
theorem d_F_writeLine_104 : decode prog_1_method_22_code 104 = .ok (.invokevirtual 179, 3) := by decide +kernel
theorem d_F_writeLine_107 : decode prog_1_method_22_code 107 = .ok (.aload_n 0, 1) := by decide +kernel
theorem d_F_writeLine_108 : decode prog_1_method_22_code 108 = .ok (.getfield 29, 3) := by decide +kernel
theorem d_F_writeLine_111 : decode prog_1_method_22_code 111 = .ok (.iload_n 2, 1) := by decide +kernel
theorem d_F_writeLine_112 : decode prog_1_method_22_code 112 = .ok (.invokevirtual 183, 3) := by decide +kernel
theorem d_F_writeLine_115 : decode prog_1_method_22_code 115 = .ok (.aload_n 0, 1) := by decide +kernel
theorem d_F_writeLine_116 : decode prog_1_method_22_code 116 = .ok (.getfield 29, 3) := by decide +kernel
theorem d_F_writeLine_119 : decode prog_1_method_22_code 119 = .ok (.aload_n 0, 1) := by decide +kernel
theorem d_F_writeLine_120 : decode prog_1_method_22_code 120 = .ok (.getfield 10, 3) := by decide +kernel
theorem d_F_writeLine_123 : decode prog_1_method_22_code 123 = .ok (.iload_n 1, 1) := by decide +kernel
theorem d_F_writeLine_124 : decode prog_1_method_22_code 124 = .ok (.iload_n 2, 1) := by decide +kernel
theorem d_F_writeLine_125 : decode prog_1_method_22_code 125 = .ok (.invokevirtual 196, 3) := by decide +kernel
theorem d_F_writeLine_128 : decode prog_1_method_22_code 128 = .ok (.invokevirtual 183, 3) := by decide +kernel
theorem d_F_writeLine_131 : decode prog_1_method_22_code 131 = .ok (.iinc 2 1, 3) := by decide +kernel
theorem d_F_writeLine_134 : decode prog_1_method_22_code 134 = .ok (.goto (-63), 3) := by decide +kernel
theorem d_F_writeLine_137 : decode prog_1_method_22_code 137 = .ok (.aload_n 0, 1) := by decide +kernel
theorem d_F_writeLine_138 : decode prog_1_method_22_code 138 = .ok (.getfield 29, 3) := by decide +kernel
theorem d_F_writeLine_141 : decode prog_1_method_22_code 141 = .ok (.bipush 10, 2) := by decide +kernel
theorem d_F_writeLine_143 : decode prog_1_method_22_code 143 = .ok (.invokevirtual 135, 3) := by decide +kernel
theorem d_F_writeLine_146 : decode prog_1_method_22_code 146 = .ok (.return_, 1) := by decide +kernel
abbrev y_F_letter : MethodName := ⟨"FrameTables", "letter", "(I)I"⟩
abbrev m_F_letter : MethodName × ByteArray × Nat × Option FieldType := (y_F_letter, prog_1_method_14_code, 3, some .int)
theorem mi_F_letter : .code y_F_letter prog_1_method_14_code 3 (some .int) ∈ wT := wT_m 556 (by decide +kernel) rfl
theorem d_F_letter_0 : decode prog_1_method_14_code 0 = .ok (.aload_n 0, 1) := by decide +kernel
theorem d_F_letter_1 : decode prog_1_method_14_code 1 = .ok (.getfield 29, 3) := by decide +kernel
theorem d_F_letter_4 : decode prog_1_method_14_code 4 = .ok (.iload_n 1, 1) := by decide +kernel
theorem d_F_letter_5 : decode prog_1_method_14_code 5 = .ok (.invokevirtual 155, 3) := by decide +kernel
theorem d_F_letter_8 : decode prog_1_method_14_code 8 = .ok (.istore_n 2, 1) := by decide +kernel
theorem d_F_letter_9 : decode prog_1_method_14_code 9 = .ok (.iload_n 2, 1) := by decide +kernel
theorem d_F_letter_10 : decode prog_1_method_14_code 10 = .ok (.iconst (-1), 1) := by decide +kernel
theorem d_F_letter_11 : decode prog_1_method_14_code 11 = .ok (.if_icmp .ne 7, 3) := by decide +kernel
theorem d_F_letter_14 : decode prog_1_method_14_code 14 = .ok (.iconst (-1), 1) := by decide +kernel
theorem d_F_letter_15 : decode prog_1_method_14_code 15 = .ok (.goto 4, 3) := by decide +kernel
theorem d_F_letter_18 : decode prog_1_method_14_code 18 = .ok (.iload_n 2, 1) := by decide +kernel
theorem d_F_letter_19 : decode prog_1_method_14_code 19 = .ok (.ireturn, 1) := by decide +kernel
abbrev y_F_touched : MethodName := ⟨"FrameTables", "touched", "(II)I"⟩
abbrev m_F_touched : MethodName × ByteArray × Nat × Option FieldType := (y_F_touched, prog_1_method_15_code, 5, some .int)
theorem mi_F_touched : .code y_F_touched prog_1_method_15_code 5 (some .int) ∈ wT := wT_m 561 (by decide +kernel) rfl
theorem d_F_touched_0 : decode prog_1_method_15_code 0 = .ok (.aload_n 0, 1) := by decide +kernel
theorem d_F_touched_1 : decode prog_1_method_15_code 1 = .ok (.getfield 10, 3) := by decide +kernel
theorem d_F_touched_4 : decode prog_1_method_15_code 4 = .ok (.iload_n 1, 1) := by decide +kernel
theorem d_F_touched_5 : decode prog_1_method_15_code 5 = .ok (.invokevirtual 71, 3) := by decide +kernel
theorem d_F_touched_8 : decode prog_1_method_15_code 8 = .ok (.ifCond .ne 5, 3) := by decide +kernel
theorem d_F_touched_11 : decode prog_1_method_15_code 11 = .ok (.iconst (-1), 1) := by decide +kernel
theorem d_F_touched_12 : decode prog_1_method_15_code 12 = .ok (.ireturn, 1) := by decide +kernel
theorem d_F_touched_13 : decode prog_1_method_15_code 13 = .ok (.iconst 0, 1) := by decide +kernel
theorem d_F_touched_14 : decode prog_1_method_15_code 14 = .ok (.istore_n 3, 1) := by decide +kernel
theorem d_F_touched_15 : decode prog_1_method_15_code 15 = .ok (.iconst 1, 1) := by decide +kernel
theorem d_F_touched_16 : decode prog_1_method_15_code 16 = .ok (.istore 4, 2) := by decide +kernel
theorem d_F_touched_18 : decode prog_1_method_15_code 18 = .ok (.iload 4, 2) := by decide +kernel
theorem d_F_touched_20 : decode prog_1_method_15_code 20 = .ok (.bipush 20, 2) := by decide +kernel
theorem d_F_touched_22 : decode prog_1_method_15_code 22 = .ok (.if_icmp .gt 33, 3) := by decide +kernel
theorem d_F_touched_25 : decode prog_1_method_15_code 25 = .ok (.aload_n 0, 1) := by decide +kernel
theorem d_F_touched_26 : decode prog_1_method_15_code 26 = .ok (.getfield 10, 3) := by decide +kernel
theorem d_F_touched_29 : decode prog_1_method_15_code 29 = .ok (.iload_n 1, 1) := by decide +kernel
theorem d_F_touched_30 : decode prog_1_method_15_code 30 = .ok (.iload 4, 2) := by decide +kernel
theorem d_F_touched_32 : decode prog_1_method_15_code 32 = .ok (.invokevirtual 158, 3) := by decide +kernel
theorem d_F_touched_35 : decode prog_1_method_15_code 35 = .ok (.ifCond .eq 14, 3) := by decide +kernel
theorem d_F_touched_38 : decode prog_1_method_15_code 38 = .ok (.iload_n 3, 1) := by decide +kernel
theorem d_F_touched_39 : decode prog_1_method_15_code 39 = .ok (.iload_n 2, 1) := by decide +kernel
theorem d_F_touched_40 : decode prog_1_method_15_code 40 = .ok (.if_icmp .ne 6, 3) := by decide +kernel
theorem d_F_touched_43 : decode prog_1_method_15_code 43 = .ok (.iload 4, 2) := by decide +kernel
theorem d_F_touched_45 : decode prog_1_method_15_code 45 = .ok (.ireturn, 1) := by decide +kernel
theorem d_F_touched_46 : decode prog_1_method_15_code 46 = .ok (.iinc 3 1, 3) := by decide +kernel
theorem d_F_touched_49 : decode prog_1_method_15_code 49 = .ok (.iinc 4 1, 3) := by decide +kernel
theorem d_F_touched_52 : decode prog_1_method_15_code 52 = .ok (.goto (-34), 3) := by decide +kernel
theorem d_F_touched_55 : decode prog_1_method_15_code 55 = .ok (.iconst 0, 1) := by decide +kernel
theorem d_F_touched_56 : decode prog_1_method_15_code 56 = .ok (.ireturn, 1) := by decide +kernel
