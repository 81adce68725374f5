abbrev y_Q_init : MethodName := ⟨"FrameTables$Search", "<init>", "()V"⟩
abbrev m_Q_init : MethodName × ByteArray × Nat × Option FieldType := (y_Q_init, prog_3_method_1_code, 1, none)
theorem mi_Q_init : .code y_Q_init prog_3_method_1_code 1 none ∈ wT := wT_m 143 (by decide +kernel) rfl
theorem d_Q_init_0 : decode prog_3_method_1_code 0 = .ok (.aload_n 0, 1) := by decide +kernel
theorem d_Q_init_1 : decode prog_3_method_1_code 1 = .ok (.invokespecial 3, 3) := by decide +kernel
theorem d_Q_init_4 : decode prog_3_method_1_code 4 = .ok (.aload_n 0, 1) := by decide +kernel
theorem d_Q_init_5 : decode prog_3_method_1_code 5 = .ok (.bipush 40, 2) := by decide +kernel
theorem d_Q_init_7 : decode prog_3_method_1_code 7 = .ok (.newarray .int, 2) := by decide +kernel
theorem d_Q_init_9 : decode prog_3_method_1_code 9 = .ok (.putfield 9, 3) := by decide +kernel
theorem d_Q_init_12 : decode prog_3_method_1_code 12 = .ok (.aload_n 0, 1) := by decide +kernel
theorem d_Q_init_13 : decode prog_3_method_1_code 13 = .ok (.bipush 40, 2) := by decide +kernel
theorem d_Q_init_15 : decode prog_3_method_1_code 15 = .ok (.newarray .int, 2) := by decide +kernel
theorem d_Q_init_17 : decode prog_3_method_1_code 17 = .ok (.putfield 15, 3) := by decide +kernel
theorem d_Q_init_20 : decode prog_3_method_1_code 20 = .ok (.aload_n 0, 1) := by decide +kernel
theorem d_Q_init_21 : decode prog_3_method_1_code 21 = .ok (.bipush 40, 2) := by decide +kernel
theorem d_Q_init_23 : decode prog_3_method_1_code 23 = .ok (.newarray .int, 2) := by decide +kernel
theorem d_Q_init_25 : decode prog_3_method_1_code 25 = .ok (.putfield 18, 3) := by decide +kernel
theorem d_Q_init_28 : decode prog_3_method_1_code 28 = .ok (.aload_n 0, 1) := by decide +kernel
theorem d_Q_init_29 : decode prog_3_method_1_code 29 = .ok (.bipush 40, 2) := by decide +kernel
theorem d_Q_init_31 : decode prog_3_method_1_code 31 = .ok (.newarray .int, 2) := by decide +kernel
theorem d_Q_init_33 : decode prog_3_method_1_code 33 = .ok (.putfield 21, 3) := by decide +kernel
theorem d_Q_init_36 : decode prog_3_method_1_code 36 = .ok (.aload_n 0, 1) := by decide +kernel
theorem d_Q_init_37 : decode prog_3_method_1_code 37 = .ok (.bipush 40, 2) := by decide +kernel
theorem d_Q_init_39 : decode prog_3_method_1_code 39 = .ok (.newarray .int, 2) := by decide +kernel
theorem d_Q_init_41 : decode prog_3_method_1_code 41 = .ok (.putfield 24, 3) := by decide +kernel
theorem d_Q_init_44 : decode prog_3_method_1_code 44 = .ok (.aload_n 0, 1) := by decide +kernel
theorem d_Q_init_45 : decode prog_3_method_1_code 45 = .ok (.sipush 420, 3) := by decide +kernel
theorem d_Q_init_48 : decode prog_3_method_1_code 48 = .ok (.newarray .int, 2) := by decide +kernel
theorem d_Q_init_50 : decode prog_3_method_1_code 50 = .ok (.putfield 27, 3) := by decide +kernel
theorem d_Q_init_53 : decode prog_3_method_1_code 53 = .ok (.aload_n 0, 1) := by decide +kernel
theorem d_Q_init_54 : decode prog_3_method_1_code 54 = .ok (.iconst 0, 1) := by decide +kernel
theorem d_Q_init_55 : decode prog_3_method_1_code 55 = .ok (.putfield 30, 3) := by decide +kernel
theorem d_Q_init_58 : decode prog_3_method_1_code 58 = .ok (.aload_n 0, 1) := by decide +kernel
theorem d_Q_init_59 : decode prog_3_method_1_code 59 = .ok (.iconst (-1), 1) := by decide +kernel
theorem d_Q_init_60 : decode prog_3_method_1_code 60 = .ok (.putfield 34, 3) := by decide +kernel
theorem d_Q_init_63 : decode prog_3_method_1_code 63 = .ok (.aload_n 0, 1) := by decide +kernel
theorem d_Q_init_64 : decode prog_3_method_1_code 64 = .ok (.iconst 0, 1) := by decide +kernel
theorem d_Q_init_65 : decode prog_3_method_1_code 65 = .ok (.putfield 37, 3) := by decide +kernel
theorem d_Q_init_68 : decode prog_3_method_1_code 68 = .ok (.return_, 1) := by decide +kernel
abbrev y_Q_begin : MethodName := ⟨"FrameTables$Search", "begin", "(LFrameTables$Table;)V"⟩
abbrev m_Q_begin : MethodName × ByteArray × Nat × Option FieldType := (y_Q_begin, prog_3_method_2_code, 2, none)
theorem mi_Q_begin : .code y_Q_begin prog_3_method_2_code 2 none ∈ wT := wT_m 294 (by decide +kernel) rfl
theorem d_Q_begin_0 : decode prog_3_method_2_code 0 = .ok (.aload_n 0, 1) := by decide +kernel
theorem d_Q_begin_1 : decode prog_3_method_2_code 1 = .ok (.aload_n 1, 1) := by decide +kernel
theorem d_Q_begin_2 : decode prog_3_method_2_code 2 = .ok (.invokevirtual 40, 3) := by decide +kernel
theorem d_Q_begin_5 : decode prog_3_method_2_code 5 = .ok (.aload_n 0, 1) := by decide +kernel
theorem d_Q_begin_6 : decode prog_3_method_2_code 6 = .ok (.bipush 41, 2) := by decide +kernel
theorem d_Q_begin_8 : decode prog_3_method_2_code 8 = .ok (.putfield 37, 3) := by decide +kernel
theorem d_Q_begin_11 : decode prog_3_method_2_code 11 = .ok (.aload_n 0, 1) := by decide +kernel
theorem d_Q_begin_12 : decode prog_3_method_2_code 12 = .ok (.iconst (-1), 1) := by decide +kernel
theorem d_Q_begin_13 : decode prog_3_method_2_code 13 = .ok (.putfield 34, 3) := by decide +kernel
theorem d_Q_begin_16 : decode prog_3_method_2_code 16 = .ok (.aload_n 0, 1) := by decide +kernel
theorem d_Q_begin_17 : decode prog_3_method_2_code 17 = .ok (.getfield 30, 3) := by decide +kernel
theorem d_Q_begin_20 : decode prog_3_method_2_code 20 = .ok (.ifCond .le 9, 3) := by decide +kernel
theorem d_Q_begin_23 : decode prog_3_method_2_code 23 = .ok (.aload_n 0, 1) := by decide +kernel
theorem d_Q_begin_24 : decode prog_3_method_2_code 24 = .ok (.iconst 0, 1) := by decide +kernel
theorem d_Q_begin_25 : decode prog_3_method_2_code 25 = .ok (.iconst 0, 1) := by decide +kernel
theorem d_Q_begin_26 : decode prog_3_method_2_code 26 = .ok (.invokevirtual 44, 3) := by decide +kernel
theorem d_Q_begin_29 : decode prog_3_method_2_code 29 = .ok (.return_, 1) := by decide +kernel
abbrev y_Q_lay : MethodName := ⟨"FrameTables$Search", "lay", "(LFrameTables$Table;)V"⟩
abbrev m_Q_lay : MethodName × ByteArray × Nat × Option FieldType := (y_Q_lay, prog_3_method_7_code, 4, none)
theorem mi_Q_lay : .code y_Q_lay prog_3_method_7_code 4 none ∈ wT := wT_m 298 (by decide +kernel) rfl
theorem d_Q_lay_0 : decode prog_3_method_7_code 0 = .ok (.iconst 0, 1) := by decide +kernel
theorem d_Q_lay_1 : decode prog_3_method_7_code 1 = .ok (.istore_n 2, 1) := by decide +kernel
theorem d_Q_lay_2 : decode prog_3_method_7_code 2 = .ok (.iload_n 2, 1) := by decide +kernel
theorem d_Q_lay_3 : decode prog_3_method_7_code 3 = .ok (.sipush 420, 3) := by decide +kernel
theorem d_Q_lay_6 : decode prog_3_method_7_code 6 = .ok (.if_icmp .ge 16, 3) := by decide +kernel
theorem d_Q_lay_9 : decode prog_3_method_7_code 9 = .ok (.aload_n 0, 1) := by decide +kernel
theorem d_Q_lay_10 : decode prog_3_method_7_code 10 = .ok (.getfield 27, 3) := by decide +kernel
theorem d_Q_lay_13 : decode prog_3_method_7_code 13 = .ok (.iload_n 2, 1) := by decide +kernel
theorem d_Q_lay_14 : decode prog_3_method_7_code 14 = .ok (.iconst 0, 1) := by decide +kernel
theorem d_Q_lay_15 : decode prog_3_method_7_code 15 = .ok (.iastore, 1) := by decide +kernel
theorem d_Q_lay_16 : decode prog_3_method_7_code 16 = .ok (.iinc 2 1, 3) := by decide +kernel
theorem d_Q_lay_19 : decode prog_3_method_7_code 19 = .ok (.goto (-17), 3) := by decide +kernel
theorem d_Q_lay_22 : decode prog_3_method_7_code 22 = .ok (.aload_n 0, 1) := by decide +kernel
theorem d_Q_lay_23 : decode prog_3_method_7_code 23 = .ok (.iconst 0, 1) := by decide +kernel
theorem d_Q_lay_24 : decode prog_3_method_7_code 24 = .ok (.putfield 30, 3) := by decide +kernel
theorem d_Q_lay_27 : decode prog_3_method_7_code 27 = .ok (.iconst 1, 1) := by decide +kernel
theorem d_Q_lay_28 : decode prog_3_method_7_code 28 = .ok (.istore_n 2, 1) := by decide +kernel
theorem d_Q_lay_29 : decode prog_3_method_7_code 29 = .ok (.iload_n 2, 1) := by decide +kernel
theorem d_Q_lay_30 : decode prog_3_method_7_code 30 = .ok (.aload_n 1, 1) := by decide +kernel
theorem d_Q_lay_31 : decode prog_3_method_7_code 31 = .ok (.invokevirtual 80, 3) := by decide +kernel
theorem d_Q_lay_34 : decode prog_3_method_7_code 34 = .ok (.if_icmp .gt 66, 3) := by decide +kernel
theorem d_Q_lay_37 : decode prog_3_method_7_code 37 = .ok (.aload_n 0, 1) := by decide +kernel
theorem d_Q_lay_38 : decode prog_3_method_7_code 38 = .ok (.getfield 30, 3) := by decide +kernel
theorem d_Q_lay_41 : decode prog_3_method_7_code 41 = .ok (.bipush 40, 2) := by decide +kernel
theorem d_Q_lay_43 : decode prog_3_method_7_code 43 = .ok (.if_icmp .ge 57, 3) := by decide +kernel
theorem d_Q_lay_46 : decode prog_3_method_7_code 46 = .ok (.aload_n 1, 1) := by decide +kernel
theorem d_Q_lay_47 : decode prog_3_method_7_code 47 = .ok (.iload_n 2, 1) := by decide +kernel
theorem d_Q_lay_48 : decode prog_3_method_7_code 48 = .ok (.invokevirtual 84, 3) := by decide +kernel
theorem d_Q_lay_51 : decode prog_3_method_7_code 51 = .ok (.istore_n 3, 1) := by decide +kernel
theorem d_Q_lay_52 : decode prog_3_method_7_code 52 = .ok (.iload_n 3, 1) := by decide +kernel
theorem d_Q_lay_53 : decode prog_3_method_7_code 53 = .ok (.ifCond .le 41, 3) := by decide +kernel
theorem d_Q_lay_56 : decode prog_3_method_7_code 56 = .ok (.sipush 420, 3) := by decide +kernel
theorem d_Q_lay_59 : decode prog_3_method_7_code 59 = .ok (.iload_n 3, 1) := by decide +kernel
theorem d_Q_lay_60 : decode prog_3_method_7_code 60 = .ok (.irem, 1) := by decide +kernel
theorem d_Q_lay_61 : decode prog_3_method_7_code 61 = .ok (.ifCond .ne 33, 3) := by decide +kernel
theorem d_Q_lay_64 : decode prog_3_method_7_code 64 = .ok (.aload_n 0, 1) := by decide +kernel
theorem d_Q_lay_65 : decode prog_3_method_7_code 65 = .ok (.getfield 9, 3) := by decide +kernel
theorem d_Q_lay_68 : decode prog_3_method_7_code 68 = .ok (.aload_n 0, 1) := by decide +kernel
theorem d_Q_lay_69 : decode prog_3_method_7_code 69 = .ok (.getfield 30, 3) := by decide +kernel
theorem d_Q_lay_72 : decode prog_3_method_7_code 72 = .ok (.iload_n 2, 1) := by decide +kernel
theorem d_Q_lay_73 : decode prog_3_method_7_code 73 = .ok (.iastore, 1) := by decide +kernel
theorem d_Q_lay_74 : decode prog_3_method_7_code 74 = .ok (.aload_n 0, 1) := by decide +kernel
theorem d_Q_lay_75 : decode prog_3_method_7_code 75 = .ok (.getfield 15, 3) := by decide +kernel
theorem d_Q_lay_78 : decode prog_3_method_7_code 78 = .ok (.aload_n 0, 1) := by decide +kernel
theorem d_Q_lay_79 : decode prog_3_method_7_code 79 = .ok (.getfield 30, 3) := by decide +kernel
theorem d_Q_lay_82 : decode prog_3_method_7_code 82 = .ok (.iload_n 3, 1) := by decide +kernel
theorem d_Q_lay_83 : decode prog_3_method_7_code 83 = .ok (.iastore, 1) := by decide +kernel
theorem d_Q_lay_84 : decode prog_3_method_7_code 84 = .ok (.aload_n 0, 1) := by decide +kernel
theorem d_Q_lay_85 : decode prog_3_method_7_code 85 = .ok (.dup, 1) := by decide +kernel
theorem d_Q_lay_86 : decode prog_3_method_7_code 86 = .ok (.getfield 30, 3) := by decide +kernel
theorem d_Q_lay_89 : decode prog_3_method_7_code 89 = .ok (.iconst 1, 1) := by decide +kernel
theorem d_Q_lay_90 : decode prog_3_method_7_code 90 = .ok (.iadd, 1) := by decide +kernel
theorem d_Q_lay_91 : decode prog_3_method_7_code 91 = .ok (.putfield 30, 3) := by decide +kernel
theorem d_Q_lay_94 : decode prog_3_method_7_code 94 = .ok (.iinc 2 1, 3) := by decide +kernel
theorem d_Q_lay_97 : decode prog_3_method_7_code 97 = .ok (.goto (-68), 3) := by decide +kernel
theorem d_Q_lay_100 : decode prog_3_method_7_code 100 = .ok (.return_, 1) := by decide +kernel
abbrev y_Q_enter : MethodName := ⟨"FrameTables$Search", "enter", "(II)V"⟩
abbrev m_Q_enter : MethodName × ByteArray × Nat × Option FieldType := (y_Q_enter, prog_3_method_8_code, 3, none)
theorem mi_Q_enter : .code y_Q_enter prog_3_method_8_code 3 none ∈ wT := wT_m 310 (by decide +kernel) rfl
theorem d_Q_enter_0 : decode prog_3_method_8_code 0 = .ok (.aload_n 0, 1) := by decide +kernel
theorem d_Q_enter_1 : decode prog_3_method_8_code 1 = .ok (.iload_n 1, 1) := by decide +kernel
theorem d_Q_enter_2 : decode prog_3_method_8_code 2 = .ok (.putfield 34, 3) := by decide +kernel
theorem d_Q_enter_5 : decode prog_3_method_8_code 5 = .ok (.aload_n 0, 1) := by decide +kernel
theorem d_Q_enter_6 : decode prog_3_method_8_code 6 = .ok (.getfield 18, 3) := by decide +kernel
theorem d_Q_enter_9 : decode prog_3_method_8_code 9 = .ok (.iload_n 1, 1) := by decide +kernel
theorem d_Q_enter_10 : decode prog_3_method_8_code 10 = .ok (.iconst 0, 1) := by decide +kernel
theorem d_Q_enter_11 : decode prog_3_method_8_code 11 = .ok (.iastore, 1) := by decide +kernel
theorem d_Q_enter_12 : decode prog_3_method_8_code 12 = .ok (.aload_n 0, 1) := by decide +kernel
theorem d_Q_enter_13 : decode prog_3_method_8_code 13 = .ok (.getfield 21, 3) := by decide +kernel
theorem d_Q_enter_16 : decode prog_3_method_8_code 16 = .ok (.iload_n 1, 1) := by decide +kernel
theorem d_Q_enter_17 : decode prog_3_method_8_code 17 = .ok (.iload_n 2, 1) := by decide +kernel
theorem d_Q_enter_18 : decode prog_3_method_8_code 18 = .ok (.iastore, 1) := by decide +kernel
theorem d_Q_enter_19 : decode prog_3_method_8_code 19 = .ok (.return_, 1) := by decide +kernel
abbrev y_Q_isOver : MethodName := ⟨"FrameTables$Search", "isOver", "()Z"⟩
abbrev m_Q_isOver : MethodName × ByteArray × Nat × Option FieldType := (y_Q_isOver, prog_3_method_3_code, 1, some .boolean)
theorem mi_Q_isOver : .code y_Q_isOver prog_3_method_3_code 1 (some .boolean) ∈ wT := wT_m 314 (by decide +kernel) rfl
theorem d_Q_isOver_0 : decode prog_3_method_3_code 0 = .ok (.aload_n 0, 1) := by decide +kernel
theorem d_Q_isOver_1 : decode prog_3_method_3_code 1 = .ok (.getfield 34, 3) := by decide +kernel
theorem d_Q_isOver_4 : decode prog_3_method_3_code 4 = .ok (.ifCond .ge 7, 3) := by decide +kernel
theorem d_Q_isOver_7 : decode prog_3_method_3_code 7 = .ok (.iconst 1, 1) := by decide +kernel
theorem d_Q_isOver_8 : decode prog_3_method_3_code 8 = .ok (.goto 4, 3) := by decide +kernel
theorem d_Q_isOver_11 : decode prog_3_method_3_code 11 = .ok (.iconst 0, 1) := by decide +kernel
theorem d_Q_isOver_12 : decode prog_3_method_3_code 12 = .ok (.ireturn, 1) := by decide +kernel
abbrev y_Q_step : MethodName := ⟨"FrameTables$Search", "step", "()V"⟩
abbrev m_Q_step : MethodName × ByteArray × Nat × Option FieldType := (y_Q_step, prog_3_method_4_code, 3, none)
theorem mi_Q_step : .code y_Q_step prog_3_method_4_code 3 none ∈ wT := wT_m 318 (by decide +kernel) rfl
theorem d_Q_step_0 : decode prog_3_method_4_code 0 = .ok (.aload_n 0, 1) := by decide +kernel
theorem d_Q_step_1 : decode prog_3_method_4_code 1 = .ok (.invokevirtual 48, 3) := by decide +kernel
theorem d_Q_step_4 : decode prog_3_method_4_code 4 = .ok (.ifCond .eq 4, 3) := by decide +kernel
theorem d_Q_step_7 : decode prog_3_method_4_code 7 = .ok (.return_, 1) := by decide +kernel
theorem d_Q_step_8 : decode prog_3_method_4_code 8 = .ok (.aload_n 0, 1) := by decide +kernel
theorem d_Q_step_9 : decode prog_3_method_4_code 9 = .ok (.getfield 18, 3) := by decide +kernel
theorem d_Q_step_12 : decode prog_3_method_4_code 12 = .ok (.aload_n 0, 1) := by decide +kernel
theorem d_Q_step_13 : decode prog_3_method_4_code 13 = .ok (.getfield 34, 3) := by decide +kernel
theorem d_Q_step_16 : decode prog_3_method_4_code 16 = .ok (.iaload, 1) := by decide +kernel
theorem d_Q_step_17 : decode prog_3_method_4_code 17 = .ok (.istore_n 1, 1) := by decide +kernel
theorem d_Q_step_18 : decode prog_3_method_4_code 18 = .ok (.aload_n 0, 1) := by decide +kernel
theorem d_Q_step_19 : decode prog_3_method_4_code 19 = .ok (.getfield 18, 3) := by decide +kernel
theorem d_Q_step_22 : decode prog_3_method_4_code 22 = .ok (.aload_n 0, 1) := by decide +kernel
theorem d_Q_step_23 : decode prog_3_method_4_code 23 = .ok (.getfield 34, 3) := by decide +kernel
theorem d_Q_step_26 : decode prog_3_method_4_code 26 = .ok (.dup2, 1) := by decide +kernel
theorem d_Q_step_27 : decode prog_3_method_4_code 27 = .ok (.iaload, 1) := by decide +kernel
theorem d_Q_step_28 : decode prog_3_method_4_code 28 = .ok (.iconst 1, 1) := by decide +kernel
theorem d_Q_step_29 : decode prog_3_method_4_code 29 = .ok (.iadd, 1) := by decide +kernel
theorem d_Q_step_30 : decode prog_3_method_4_code 30 = .ok (.iastore, 1) := by decide +kernel
theorem d_Q_step_31 : decode prog_3_method_4_code 31 = .ok (.aload_n 0, 1) := by decide +kernel
theorem d_Q_step_32 : decode prog_3_method_4_code 32 = .ok (.getfield 21, 3) := by decide +kernel
theorem d_Q_step_35 : decode prog_3_method_4_code 35 = .ok (.aload_n 0, 1) := by decide +kernel
theorem d_Q_step_36 : decode prog_3_method_4_code 36 = .ok (.getfield 34, 3) := by decide +kernel
theorem d_Q_step_39 : decode prog_3_method_4_code 39 = .ok (.iaload, 1) := by decide +kernel
theorem d_Q_step_40 : decode prog_3_method_4_code 40 = .ok (.aload_n 0, 1) := by decide +kernel
theorem d_Q_step_41 : decode prog_3_method_4_code 41 = .ok (.aload_n 0, 1) := by decide +kernel
theorem d_Q_step_42 : decode prog_3_method_4_code 42 = .ok (.getfield 34, 3) := by decide +kernel
theorem d_Q_step_45 : decode prog_3_method_4_code 45 = .ok (.iload_n 1, 1) := by decide +kernel
theorem d_Q_step_46 : decode prog_3_method_4_code 46 = .ok (.invokevirtual 52, 3) := by decide +kernel
theorem d_Q_step_49 : decode prog_3_method_4_code 49 = .ok (.invokestatic 56, 3) := by decide +kernel
theorem d_Q_step_52 : decode prog_3_method_4_code 52 = .ok (.istore_n 2, 1) := by decide +kernel
theorem d_Q_step_53 : decode prog_3_method_4_code 53 = .ok (.iload_n 2, 1) := by decide +kernel
theorem d_Q_step_54 : decode prog_3_method_4_code 54 = .ok (.aload_n 0, 1) := by decide +kernel
theorem d_Q_step_55 : decode prog_3_method_4_code 55 = .ok (.getfield 37, 3) := by decide +kernel
theorem d_Q_step_58 : decode prog_3_method_4_code 58 = .ok (.if_icmp .ge 9, 3) := by decide +kernel
theorem d_Q_step_61 : decode prog_3_method_4_code 61 = .ok (.aload_n 0, 1) := by decide +kernel
theorem d_Q_step_62 : decode prog_3_method_4_code 62 = .ok (.iload_n 1, 1) := by decide +kernel
theorem d_Q_step_63 : decode prog_3_method_4_code 63 = .ok (.iload_n 2, 1) := by decide +kernel
theorem d_Q_step_64 : decode prog_3_method_4_code 64 = .ok (.invokevirtual 61, 3) := by decide +kernel
theorem d_Q_step_67 : decode prog_3_method_4_code 67 = .ok (.aload_n 0, 1) := by decide +kernel
theorem d_Q_step_68 : decode prog_3_method_4_code 68 = .ok (.invokevirtual 64, 3) := by decide +kernel
theorem d_Q_step_71 : decode prog_3_method_4_code 71 = .ok (.return_, 1) := by decide +kernel
abbrev y_Q_mostBeginsWith : MethodName := ⟨"FrameTables$Search", "mostBeginsWith", "(II)I"⟩
abbrev m_Q_mostBeginsWith : MethodName × ByteArray × Nat × Option FieldType := (y_Q_mostBeginsWith, prog_3_method_13_code, 6, some .int)
theorem mi_Q_mostBeginsWith : .code y_Q_mostBeginsWith prog_3_method_13_code 6 (some .int) ∈ wT := wT_m 323 (by decide +kernel) rfl
theorem d_Q_mostBeginsWith_0 : decode prog_3_method_13_code 0 = .ok (.iconst 1, 1) := by decide +kernel
theorem d_Q_mostBeginsWith_1 : decode prog_3_method_13_code 1 = .ok (.aload_n 0, 1) := by decide +kernel
theorem d_Q_mostBeginsWith_2 : decode prog_3_method_13_code 2 = .ok (.getfield 15, 3) := by decide +kernel
theorem d_Q_mostBeginsWith_5 : decode prog_3_method_13_code 5 = .ok (.iload_n 1, 1) := by decide +kernel
theorem d_Q_mostBeginsWith_6 : decode prog_3_method_13_code 6 = .ok (.iaload, 1) := by decide +kernel
theorem d_Q_mostBeginsWith_7 : decode prog_3_method_13_code 7 = .ok (.invokestatic 56, 3) := by decide +kernel
theorem d_Q_mostBeginsWith_10 : decode prog_3_method_13_code 10 = .ok (.istore_n 3, 1) := by decide +kernel
theorem d_Q_mostBeginsWith_11 : decode prog_3_method_13_code 11 = .ok (.iconst 0, 1) := by decide +kernel
theorem d_Q_mostBeginsWith_12 : decode prog_3_method_13_code 12 = .ok (.istore 4, 2) := by decide +kernel
theorem d_Q_mostBeginsWith_14 : decode prog_3_method_13_code 14 = .ok (.iload_n 2, 1) := by decide +kernel
theorem d_Q_mostBeginsWith_15 : decode prog_3_method_13_code 15 = .ok (.istore 5, 2) := by decide +kernel
theorem d_Q_mostBeginsWith_17 : decode prog_3_method_13_code 17 = .ok (.iload 5, 2) := by decide +kernel
theorem d_Q_mostBeginsWith_19 : decode prog_3_method_13_code 19 = .ok (.sipush 420, 3) := by decide +kernel
theorem d_Q_mostBeginsWith_22 : decode prog_3_method_13_code 22 = .ok (.if_icmp .ge 28, 3) := by decide +kernel
theorem d_Q_mostBeginsWith_25 : decode prog_3_method_13_code 25 = .ok (.iload 4, 2) := by decide +kernel
theorem d_Q_mostBeginsWith_27 : decode prog_3_method_13_code 27 = .ok (.aload_n 0, 1) := by decide +kernel
theorem d_Q_mostBeginsWith_28 : decode prog_3_method_13_code 28 = .ok (.getfield 27, 3) := by decide +kernel
theorem d_Q_mostBeginsWith_31 : decode prog_3_method_13_code 31 = .ok (.iload 5, 2) := by decide +kernel
theorem d_Q_mostBeginsWith_33 : decode prog_3_method_13_code 33 = .ok (.iaload, 1) := by decide +kernel
theorem d_Q_mostBeginsWith_34 : decode prog_3_method_13_code 34 = .ok (.iconst 1, 1) := by decide +kernel
theorem d_Q_mostBeginsWith_35 : decode prog_3_method_13_code 35 = .ok (.iadd, 1) := by decide +kernel
theorem d_Q_mostBeginsWith_36 : decode prog_3_method_13_code 36 = .ok (.invokestatic 56, 3) := by decide +kernel
theorem d_Q_mostBeginsWith_39 : decode prog_3_method_13_code 39 = .ok (.istore 4, 2) := by decide +kernel
theorem d_Q_mostBeginsWith_41 : decode prog_3_method_13_code 41 = .ok (.iload 5, 2) := by decide +kernel
theorem d_Q_mostBeginsWith_43 : decode prog_3_method_13_code 43 = .ok (.iload_n 3, 1) := by decide +kernel
theorem d_Q_mostBeginsWith_44 : decode prog_3_method_13_code 44 = .ok (.iadd, 1) := by decide +kernel
theorem d_Q_mostBeginsWith_45 : decode prog_3_method_13_code 45 = .ok (.istore 5, 2) := by decide +kernel
theorem d_Q_mostBeginsWith_47 : decode prog_3_method_13_code 47 = .ok (.goto (-30), 3) := by decide +kernel
theorem d_Q_mostBeginsWith_50 : decode prog_3_method_13_code 50 = .ok (.iload 4, 2) := by decide +kernel
theorem d_Q_mostBeginsWith_52 : decode prog_3_method_13_code 52 = .ok (.ireturn, 1) := by decide +kernel
abbrev y_Q_goOn : MethodName := ⟨"FrameTables$Search", "goOn", "(II)V"⟩
abbrev m_Q_goOn : MethodName × ByteArray × Nat × Option FieldType := (y_Q_goOn, prog_3_method_9_code, 3, none)
theorem mi_Q_goOn : .code y_Q_goOn prog_3_method_9_code 3 none ∈ wT := wT_m 330 (by decide +kernel) rfl
theorem d_Q_goOn_0 : decode prog_3_method_9_code 0 = .ok (.aload_n 0, 1) := by decide +kernel
theorem d_Q_goOn_1 : decode prog_3_method_9_code 1 = .ok (.getfield 34, 3) := by decide +kernel
theorem d_Q_goOn_4 : decode prog_3_method_9_code 4 = .ok (.iconst 1, 1) := by decide +kernel
theorem d_Q_goOn_5 : decode prog_3_method_9_code 5 = .ok (.iadd, 1) := by decide +kernel
theorem d_Q_goOn_6 : decode prog_3_method_9_code 6 = .ok (.aload_n 0, 1) := by decide +kernel
theorem d_Q_goOn_7 : decode prog_3_method_9_code 7 = .ok (.getfield 30, 3) := by decide +kernel
theorem d_Q_goOn_10 : decode prog_3_method_9_code 10 = .ok (.if_icmp .ge 27, 3) := by decide +kernel
theorem d_Q_goOn_13 : decode prog_3_method_9_code 13 = .ok (.aload_n 0, 1) := by decide +kernel
theorem d_Q_goOn_14 : decode prog_3_method_9_code 14 = .ok (.aload_n 0, 1) := by decide +kernel
theorem d_Q_goOn_15 : decode prog_3_method_9_code 15 = .ok (.getfield 34, 3) := by decide +kernel
theorem d_Q_goOn_18 : decode prog_3_method_9_code 18 = .ok (.iload_n 1, 1) := by decide +kernel
theorem d_Q_goOn_19 : decode prog_3_method_9_code 19 = .ok (.iconst 1, 1) := by decide +kernel
theorem d_Q_goOn_20 : decode prog_3_method_9_code 20 = .ok (.invokevirtual 76, 3) := by decide +kernel
theorem d_Q_goOn_23 : decode prog_3_method_9_code 23 = .ok (.aload_n 0, 1) := by decide +kernel
theorem d_Q_goOn_24 : decode prog_3_method_9_code 24 = .ok (.aload_n 0, 1) := by decide +kernel
theorem d_Q_goOn_25 : decode prog_3_method_9_code 25 = .ok (.getfield 34, 3) := by decide +kernel
theorem d_Q_goOn_28 : decode prog_3_method_9_code 28 = .ok (.iconst 1, 1) := by decide +kernel
theorem d_Q_goOn_29 : decode prog_3_method_9_code 29 = .ok (.iadd, 1) := by decide +kernel
theorem d_Q_goOn_30 : decode prog_3_method_9_code 30 = .ok (.iload_n 2, 1) := by decide +kernel
theorem d_Q_goOn_31 : decode prog_3_method_9_code 31 = .ok (.invokevirtual 44, 3) := by decide +kernel
theorem d_Q_goOn_34 : decode prog_3_method_9_code 34 = .ok (.goto 8, 3) := by decide +kernel
theorem d_Q_goOn_37 : decode prog_3_method_9_code 37 = .ok (.aload_n 0, 1) := by decide +kernel
theorem d_Q_goOn_38 : decode prog_3_method_9_code 38 = .ok (.iload_n 2, 1) := by decide +kernel
theorem d_Q_goOn_39 : decode prog_3_method_9_code 39 = .ok (.invokevirtual 87, 3) := by decide +kernel
theorem d_Q_goOn_42 : decode prog_3_method_9_code 42 = .ok (.return_, 1) := by decide +kernel
abbrev y_Q_addBegins : MethodName := ⟨"FrameTables$Search", "addBegins", "(III)V"⟩
abbrev m_Q_addBegins : MethodName × ByteArray × Nat × Option FieldType := (y_Q_addBegins, prog_3_method_14_code, 6, none)
theorem mi_Q_addBegins : .code y_Q_addBegins prog_3_method_14_code 6 none ∈ wT := wT_m 334 (by decide +kernel) rfl
theorem d_Q_addBegins_0 : decode prog_3_method_14_code 0 = .ok (.iconst 1, 1) := by decide +kernel
theorem d_Q_addBegins_1 : decode prog_3_method_14_code 1 = .ok (.aload_n 0, 1) := by decide +kernel
theorem d_Q_addBegins_2 : decode prog_3_method_14_code 2 = .ok (.getfield 15, 3) := by decide +kernel
theorem d_Q_addBegins_5 : decode prog_3_method_14_code 5 = .ok (.iload_n 1, 1) := by decide +kernel
theorem d_Q_addBegins_6 : decode prog_3_method_14_code 6 = .ok (.iaload, 1) := by decide +kernel
theorem d_Q_addBegins_7 : decode prog_3_method_14_code 7 = .ok (.invokestatic 56, 3) := by decide +kernel
theorem d_Q_addBegins_10 : decode prog_3_method_14_code 10 = .ok (.istore 4, 2) := by decide +kernel
theorem d_Q_addBegins_12 : decode prog_3_method_14_code 12 = .ok (.iload_n 2, 1) := by decide +kernel
theorem d_Q_addBegins_13 : decode prog_3_method_14_code 13 = .ok (.istore 5, 2) := by decide +kernel
theorem d_Q_addBegins_15 : decode prog_3_method_14_code 15 = .ok (.iload 5, 2) := by decide +kernel
theorem d_Q_addBegins_17 : decode prog_3_method_14_code 17 = .ok (.sipush 420, 3) := by decide +kernel
theorem d_Q_addBegins_20 : decode prog_3_method_14_code 20 = .ok (.if_icmp .ge 24, 3) := by decide +kernel
theorem d_Q_addBegins_23 : decode prog_3_method_14_code 23 = .ok (.aload_n 0, 1) := by decide +kernel
theorem d_Q_addBegins_24 : decode prog_3_method_14_code 24 = .ok (.getfield 27, 3) := by decide +kernel
theorem d_Q_addBegins_27 : decode prog_3_method_14_code 27 = .ok (.iload 5, 2) := by decide +kernel
theorem d_Q_addBegins_29 : decode prog_3_method_14_code 29 = .ok (.dup2, 1) := by decide +kernel
theorem d_Q_addBegins_30 : decode prog_3_method_14_code 30 = .ok (.iaload, 1) := by decide +kernel
theorem d_Q_addBegins_31 : decode prog_3_method_14_code 31 = .ok (.iload_n 3, 1) := by decide +kernel
theorem d_Q_addBegins_32 : decode prog_3_method_14_code 32 = .ok (.iadd, 1) := by decide +kernel
theorem d_Q_addBegins_33 : decode prog_3_method_14_code 33 = .ok (.iastore, 1) := by decide +kernel
theorem d_Q_addBegins_34 : decode prog_3_method_14_code 34 = .ok (.iload 5, 2) := by decide +kernel
theorem d_Q_addBegins_36 : decode prog_3_method_14_code 36 = .ok (.iload 4, 2) := by decide +kernel
theorem d_Q_addBegins_38 : decode prog_3_method_14_code 38 = .ok (.iadd, 1) := by decide +kernel
theorem d_Q_addBegins_39 : decode prog_3_method_14_code 39 = .ok (.istore 5, 2) := by decide +kernel
theorem d_Q_addBegins_41 : decode prog_3_method_14_code 41 = .ok (.goto (-26), 3) := by decide +kernel
theorem d_Q_addBegins_44 : decode prog_3_method_14_code 44 = .ok (.return_, 1) := by decide +kernel
abbrev y_Q_keepRow : MethodName := ⟨"FrameTables$Search", "keepRow", "(I)V"⟩
abbrev m_Q_keepRow : MethodName × ByteArray × Nat × Option FieldType := (y_Q_keepRow, prog_3_method_10_code, 3, none)
theorem mi_Q_keepRow : .code y_Q_keepRow prog_3_method_10_code 3 none ∈ wT := wT_m 338 (by decide +kernel) rfl
theorem d_Q_keepRow_0 : decode prog_3_method_10_code 0 = .ok (.aload_n 0, 1) := by decide +kernel
theorem d_Q_keepRow_1 : decode prog_3_method_10_code 1 = .ok (.iload_n 1, 1) := by decide +kernel
theorem d_Q_keepRow_2 : decode prog_3_method_10_code 2 = .ok (.putfield 37, 3) := by decide +kernel
theorem d_Q_keepRow_5 : decode prog_3_method_10_code 5 = .ok (.iconst 0, 1) := by decide +kernel
theorem d_Q_keepRow_6 : decode prog_3_method_10_code 6 = .ok (.istore_n 2, 1) := by decide +kernel
theorem d_Q_keepRow_7 : decode prog_3_method_10_code 7 = .ok (.iload_n 2, 1) := by decide +kernel
theorem d_Q_keepRow_8 : decode prog_3_method_10_code 8 = .ok (.aload_n 0, 1) := by decide +kernel
theorem d_Q_keepRow_9 : decode prog_3_method_10_code 9 = .ok (.getfield 30, 3) := by decide +kernel
theorem d_Q_keepRow_12 : decode prog_3_method_10_code 12 = .ok (.if_icmp .ge 23, 3) := by decide +kernel
theorem d_Q_keepRow_15 : decode prog_3_method_10_code 15 = .ok (.aload_n 0, 1) := by decide +kernel
theorem d_Q_keepRow_16 : decode prog_3_method_10_code 16 = .ok (.getfield 24, 3) := by decide +kernel
theorem d_Q_keepRow_19 : decode prog_3_method_10_code 19 = .ok (.iload_n 2, 1) := by decide +kernel
theorem d_Q_keepRow_20 : decode prog_3_method_10_code 20 = .ok (.aload_n 0, 1) := by decide +kernel
theorem d_Q_keepRow_21 : decode prog_3_method_10_code 21 = .ok (.getfield 18, 3) := by decide +kernel
theorem d_Q_keepRow_24 : decode prog_3_method_10_code 24 = .ok (.iload_n 2, 1) := by decide +kernel
theorem d_Q_keepRow_25 : decode prog_3_method_10_code 25 = .ok (.iaload, 1) := by decide +kernel
theorem d_Q_keepRow_26 : decode prog_3_method_10_code 26 = .ok (.iconst 1, 1) := by decide +kernel
theorem d_Q_keepRow_27 : decode prog_3_method_10_code 27 = .ok (.isub, 1) := by decide +kernel
theorem d_Q_keepRow_28 : decode prog_3_method_10_code 28 = .ok (.iastore, 1) := by decide +kernel
theorem d_Q_keepRow_29 : decode prog_3_method_10_code 29 = .ok (.iinc 2 1, 3) := by decide +kernel
theorem d_Q_keepRow_32 : decode prog_3_method_10_code 32 = .ok (.goto (-25), 3) := by decide +kernel
theorem d_Q_keepRow_35 : decode prog_3_method_10_code 35 = .ok (.return_, 1) := by decide +kernel
abbrev y_Q_leaveClosedPlaces : MethodName := ⟨"FrameTables$Search", "leaveClosedPlaces", "()V"⟩
abbrev m_Q_leaveClosedPlaces : MethodName × ByteArray × Nat × Option FieldType := (y_Q_leaveClosedPlaces, prog_3_method_11_code, 1, none)
theorem mi_Q_leaveClosedPlaces : .code y_Q_leaveClosedPlaces prog_3_method_11_code 1 none ∈ wT := wT_m 342 (by decide +kernel) rfl
theorem d_Q_leaveClosedPlaces_0 : decode prog_3_method_11_code 0 = .ok (.aload_n 0, 1) := by decide +kernel
theorem d_Q_leaveClosedPlaces_1 : decode prog_3_method_11_code 1 = .ok (.getfield 34, 3) := by decide +kernel
theorem d_Q_leaveClosedPlaces_4 : decode prog_3_method_11_code 4 = .ok (.ifCond .lt 54, 3) := by decide +kernel
theorem d_Q_leaveClosedPlaces_7 : decode prog_3_method_11_code 7 = .ok (.aload_n 0, 1) := by decide +kernel
theorem d_Q_leaveClosedPlaces_8 : decode prog_3_method_11_code 8 = .ok (.aload_n 0, 1) := by decide +kernel
theorem d_Q_leaveClosedPlaces_9 : decode prog_3_method_11_code 9 = .ok (.getfield 34, 3) := by decide +kernel
theorem d_Q_leaveClosedPlaces_12 : decode prog_3_method_11_code 12 = .ok (.invokevirtual 91, 3) := by decide +kernel
theorem d_Q_leaveClosedPlaces_15 : decode prog_3_method_11_code 15 = .ok (.ifCond .eq 43, 3) := by decide +kernel
theorem d_Q_leaveClosedPlaces_18 : decode prog_3_method_11_code 18 = .ok (.aload_n 0, 1) := by decide +kernel
theorem d_Q_leaveClosedPlaces_19 : decode prog_3_method_11_code 19 = .ok (.dup, 1) := by decide +kernel
theorem d_Q_leaveClosedPlaces_20 : decode prog_3_method_11_code 20 = .ok (.getfield 34, 3) := by decide +kernel
theorem d_Q_leaveClosedPlaces_23 : decode prog_3_method_11_code 23 = .ok (.iconst 1, 1) := by decide +kernel
theorem d_Q_leaveClosedPlaces_24 : decode prog_3_method_11_code 24 = .ok (.isub, 1) := by decide +kernel
theorem d_Q_leaveClosedPlaces_25 : decode prog_3_method_11_code 25 = .ok (.putfield 34, 3) := by decide +kernel
theorem d_Q_leaveClosedPlaces_28 : decode prog_3_method_11_code 28 = .ok (.aload_n 0, 1) := by decide +kernel
theorem d_Q_leaveClosedPlaces_29 : decode prog_3_method_11_code 29 = .ok (.getfield 34, 3) := by decide +kernel
theorem d_Q_leaveClosedPlaces_32 : decode prog_3_method_11_code 32 = .ok (.ifCond .lt (-32), 3) := by decide +kernel
theorem d_Q_leaveClosedPlaces_35 : decode prog_3_method_11_code 35 = .ok (.aload_n 0, 1) := by decide +kernel
theorem d_Q_leaveClosedPlaces_36 : decode prog_3_method_11_code 36 = .ok (.aload_n 0, 1) := by decide +kernel
theorem d_Q_leaveClosedPlaces_37 : decode prog_3_method_11_code 37 = .ok (.getfield 34, 3) := by decide +kernel
theorem d_Q_leaveClosedPlaces_40 : decode prog_3_method_11_code 40 = .ok (.aload_n 0, 1) := by decide +kernel
theorem d_Q_leaveClosedPlaces_41 : decode prog_3_method_11_code 41 = .ok (.getfield 18, 3) := by decide +kernel
theorem d_Q_leaveClosedPlaces_44 : decode prog_3_method_11_code 44 = .ok (.aload_n 0, 1) := by decide +kernel
theorem d_Q_leaveClosedPlaces_45 : decode prog_3_method_11_code 45 = .ok (.getfield 34, 3) := by decide +kernel
theorem d_Q_leaveClosedPlaces_48 : decode prog_3_method_11_code 48 = .ok (.iaload, 1) := by decide +kernel
theorem d_Q_leaveClosedPlaces_49 : decode prog_3_method_11_code 49 = .ok (.iconst 1, 1) := by decide +kernel
theorem d_Q_leaveClosedPlaces_50 : decode prog_3_method_11_code 50 = .ok (.isub, 1) := by decide +kernel
theorem d_Q_leaveClosedPlaces_51 : decode prog_3_method_11_code 51 = .ok (.iconst (-1), 1) := by decide +kernel
theorem d_Q_leaveClosedPlaces_52 : decode prog_3_method_11_code 52 = .ok (.invokevirtual 76, 3) := by decide +kernel
theorem d_Q_leaveClosedPlaces_55 : decode prog_3_method_11_code 55 = .ok (.goto (-55), 3) := by decide +kernel
theorem d_Q_leaveClosedPlaces_58 : decode prog_3_method_11_code 58 = .ok (.return_, 1) := by decide +kernel
abbrev y_Q_isClosed : MethodName := ⟨"FrameTables$Search", "isClosed", "(I)Z"⟩
abbrev m_Q_isClosed : MethodName × ByteArray × Nat × Option FieldType := (y_Q_isClosed, prog_3_method_12_code, 2, some .boolean)
theorem mi_Q_isClosed : .code y_Q_isClosed prog_3_method_12_code 2 (some .boolean) ∈ wT := wT_m 346 (by decide +kernel) rfl
theorem d_Q_isClosed_0 : decode prog_3_method_12_code 0 = .ok (.aload_n 0, 1) := by decide +kernel
theorem d_Q_isClosed_1 : decode prog_3_method_12_code 1 = .ok (.getfield 18, 3) := by decide +kernel
theorem d_Q_isClosed_4 : decode prog_3_method_12_code 4 = .ok (.iload_n 1, 1) := by decide +kernel
theorem d_Q_isClosed_5 : decode prog_3_method_12_code 5 = .ok (.iaload, 1) := by decide +kernel
theorem d_Q_isClosed_6 : decode prog_3_method_12_code 6 = .ok (.aload_n 0, 1) := by decide +kernel
theorem d_Q_isClosed_7 : decode prog_3_method_12_code 7 = .ok (.getfield 15, 3) := by decide +kernel
theorem d_Q_isClosed_10 : decode prog_3_method_12_code 10 = .ok (.iload_n 1, 1) := by decide +kernel
theorem d_Q_isClosed_11 : decode prog_3_method_12_code 11 = .ok (.iaload, 1) := by decide +kernel
theorem d_Q_isClosed_12 : decode prog_3_method_12_code 12 = .ok (.if_icmp .ge 16, 3) := by decide +kernel
theorem d_Q_isClosed_15 : decode prog_3_method_12_code 15 = .ok (.aload_n 0, 1) := by decide +kernel
theorem d_Q_isClosed_16 : decode prog_3_method_12_code 16 = .ok (.getfield 21, 3) := by decide +kernel
theorem d_Q_isClosed_19 : decode prog_3_method_12_code 19 = .ok (.iload_n 1, 1) := by decide +kernel
theorem d_Q_isClosed_20 : decode prog_3_method_12_code 20 = .ok (.iaload, 1) := by decide +kernel
theorem d_Q_isClosed_21 : decode prog_3_method_12_code 21 = .ok (.aload_n 0, 1) := by decide +kernel
theorem d_Q_isClosed_22 : decode prog_3_method_12_code 22 = .ok (.getfield 37, 3) := by decide +kernel
theorem d_Q_isClosed_25 : decode prog_3_method_12_code 25 = .ok (.if_icmp .lt 7, 3) := by decide +kernel
theorem d_Q_isClosed_28 : decode prog_3_method_12_code 28 = .ok (.iconst 1, 1) := by decide +kernel
theorem d_Q_isClosed_29 : decode prog_3_method_12_code 29 = .ok (.goto 4, 3) := by decide +kernel
theorem d_Q_isClosed_32 : decode prog_3_method_12_code 32 = .ok (.iconst 0, 1) := by decide +kernel
theorem d_Q_isClosed_33 : decode prog_3_method_12_code 33 = .ok (.ireturn, 1) := by decide +kernel
abbrev y_Q_giveBestRowTo : MethodName := ⟨"FrameTables$Search", "giveBestRowTo", "(LFrameTables$Table;)V"⟩
abbrev m_Q_giveBestRowTo : MethodName × ByteArray × Nat × Option FieldType := (y_Q_giveBestRowTo, prog_3_method_5_code, 3, none)
theorem mi_Q_giveBestRowTo : .code y_Q_giveBestRowTo prog_3_method_5_code 3 none ∈ wT := wT_m 350 (by decide +kernel) rfl
theorem d_Q_giveBestRowTo_0 : decode prog_3_method_5_code 0 = .ok (.aload_n 0, 1) := by decide +kernel
theorem d_Q_giveBestRowTo_1 : decode prog_3_method_5_code 1 = .ok (.getfield 37, 3) := by decide +kernel
theorem d_Q_giveBestRowTo_4 : decode prog_3_method_5_code 4 = .ok (.bipush 40, 2) := by decide +kernel
theorem d_Q_giveBestRowTo_6 : decode prog_3_method_5_code 6 = .ok (.if_icmp .le 4, 3) := by decide +kernel
theorem d_Q_giveBestRowTo_9 : decode prog_3_method_5_code 9 = .ok (.return_, 1) := by decide +kernel
theorem d_Q_giveBestRowTo_10 : decode prog_3_method_5_code 10 = .ok (.iconst 0, 1) := by decide +kernel
theorem d_Q_giveBestRowTo_11 : decode prog_3_method_5_code 11 = .ok (.istore_n 2, 1) := by decide +kernel
theorem d_Q_giveBestRowTo_12 : decode prog_3_method_5_code 12 = .ok (.iload_n 2, 1) := by decide +kernel
theorem d_Q_giveBestRowTo_13 : decode prog_3_method_5_code 13 = .ok (.aload_n 0, 1) := by decide +kernel
theorem d_Q_giveBestRowTo_14 : decode prog_3_method_5_code 14 = .ok (.getfield 30, 3) := by decide +kernel
theorem d_Q_giveBestRowTo_17 : decode prog_3_method_5_code 17 = .ok (.if_icmp .ge 25, 3) := by decide +kernel
theorem d_Q_giveBestRowTo_20 : decode prog_3_method_5_code 20 = .ok (.aload_n 1, 1) := by decide +kernel
theorem d_Q_giveBestRowTo_21 : decode prog_3_method_5_code 21 = .ok (.aload_n 0, 1) := by decide +kernel
theorem d_Q_giveBestRowTo_22 : decode prog_3_method_5_code 22 = .ok (.getfield 9, 3) := by decide +kernel
theorem d_Q_giveBestRowTo_25 : decode prog_3_method_5_code 25 = .ok (.iload_n 2, 1) := by decide +kernel
theorem d_Q_giveBestRowTo_26 : decode prog_3_method_5_code 26 = .ok (.iaload, 1) := by decide +kernel
theorem d_Q_giveBestRowTo_27 : decode prog_3_method_5_code 27 = .ok (.aload_n 0, 1) := by decide +kernel
theorem d_Q_giveBestRowTo_28 : decode prog_3_method_5_code 28 = .ok (.getfield 24, 3) := by decide +kernel
theorem d_Q_giveBestRowTo_31 : decode prog_3_method_5_code 31 = .ok (.iload_n 2, 1) := by decide +kernel
theorem d_Q_giveBestRowTo_32 : decode prog_3_method_5_code 32 = .ok (.iaload, 1) := by decide +kernel
theorem d_Q_giveBestRowTo_33 : decode prog_3_method_5_code 33 = .ok (.invokevirtual 67, 3) := by decide +kernel
theorem d_Q_giveBestRowTo_36 : decode prog_3_method_5_code 36 = .ok (.iinc 2 1, 3) := by decide +kernel
theorem d_Q_giveBestRowTo_39 : decode prog_3_method_5_code 39 = .ok (.goto (-27), 3) := by decide +kernel
theorem d_Q_giveBestRowTo_42 : decode prog_3_method_5_code 42 = .ok (.return_, 1) := by decide +kernel
abbrev y_Q_peakOf : MethodName := ⟨"FrameTables$Search", "peakOf", "(LFrameTables$Table;)I"⟩
abbrev m_Q_peakOf : MethodName × ByteArray × Nat × Option FieldType := (y_Q_peakOf, prog_3_method_6_code, 5, some .int)
theorem mi_Q_peakOf : .code y_Q_peakOf prog_3_method_6_code 5 (some .int) ∈ wT := wT_m 358 (by decide +kernel) rfl
theorem d_Q_peakOf_0 : decode prog_3_method_6_code 0 = .ok (.aload_n 0, 1) := by decide +kernel
theorem d_Q_peakOf_1 : decode prog_3_method_6_code 1 = .ok (.aload_n 1, 1) := by decide +kernel
theorem d_Q_peakOf_2 : decode prog_3_method_6_code 2 = .ok (.invokevirtual 40, 3) := by decide +kernel
theorem d_Q_peakOf_5 : decode prog_3_method_6_code 5 = .ok (.iconst 0, 1) := by decide +kernel
theorem d_Q_peakOf_6 : decode prog_3_method_6_code 6 = .ok (.istore_n 2, 1) := by decide +kernel
theorem d_Q_peakOf_7 : decode prog_3_method_6_code 7 = .ok (.iconst 0, 1) := by decide +kernel
theorem d_Q_peakOf_8 : decode prog_3_method_6_code 8 = .ok (.istore_n 3, 1) := by decide +kernel
theorem d_Q_peakOf_9 : decode prog_3_method_6_code 9 = .ok (.iload_n 3, 1) := by decide +kernel
theorem d_Q_peakOf_10 : decode prog_3_method_6_code 10 = .ok (.aload_n 0, 1) := by decide +kernel
theorem d_Q_peakOf_11 : decode prog_3_method_6_code 11 = .ok (.getfield 30, 3) := by decide +kernel
theorem d_Q_peakOf_14 : decode prog_3_method_6_code 14 = .ok (.if_icmp .ge 41, 3) := by decide +kernel
theorem d_Q_peakOf_17 : decode prog_3_method_6_code 17 = .ok (.aload_n 1, 1) := by decide +kernel
theorem d_Q_peakOf_18 : decode prog_3_method_6_code 18 = .ok (.aload_n 0, 1) := by decide +kernel
theorem d_Q_peakOf_19 : decode prog_3_method_6_code 19 = .ok (.getfield 9, 3) := by decide +kernel
theorem d_Q_peakOf_22 : decode prog_3_method_6_code 22 = .ok (.iload_n 3, 1) := by decide +kernel
theorem d_Q_peakOf_23 : decode prog_3_method_6_code 23 = .ok (.iaload, 1) := by decide +kernel
theorem d_Q_peakOf_24 : decode prog_3_method_6_code 24 = .ok (.invokevirtual 72, 3) := by decide +kernel
theorem d_Q_peakOf_27 : decode prog_3_method_6_code 27 = .ok (.istore 4, 2) := by decide +kernel
theorem d_Q_peakOf_29 : decode prog_3_method_6_code 29 = .ok (.iload_n 2, 1) := by decide +kernel
theorem d_Q_peakOf_30 : decode prog_3_method_6_code 30 = .ok (.aload_n 0, 1) := by decide +kernel
theorem d_Q_peakOf_31 : decode prog_3_method_6_code 31 = .ok (.iload_n 3, 1) := by decide +kernel
theorem d_Q_peakOf_32 : decode prog_3_method_6_code 32 = .ok (.iload 4, 2) := by decide +kernel
theorem d_Q_peakOf_34 : decode prog_3_method_6_code 34 = .ok (.invokevirtual 52, 3) := by decide +kernel
theorem d_Q_peakOf_37 : decode prog_3_method_6_code 37 = .ok (.invokestatic 56, 3) := by decide +kernel
theorem d_Q_peakOf_40 : decode prog_3_method_6_code 40 = .ok (.istore_n 2, 1) := by decide +kernel
theorem d_Q_peakOf_41 : decode prog_3_method_6_code 41 = .ok (.aload_n 0, 1) := by decide +kernel
theorem d_Q_peakOf_42 : decode prog_3_method_6_code 42 = .ok (.iload_n 3, 1) := by decide +kernel
theorem d_Q_peakOf_43 : decode prog_3_method_6_code 43 = .ok (.iload 4, 2) := by decide +kernel
theorem d_Q_peakOf_45 : decode prog_3_method_6_code 45 = .ok (.iconst 1, 1) := by decide +kernel
theorem d_Q_peakOf_46 : decode prog_3_method_6_code 46 = .ok (.invokevirtual 76, 3) := by decide +kernel
theorem d_Q_peakOf_49 : decode prog_3_method_6_code 49 = .ok (.iinc 3 1, 3) := by decide +kernel
theorem d_Q_peakOf_52 : decode prog_3_method_6_code 52 = .ok (.goto (-43), 3) := by decide +kernel
theorem d_Q_peakOf_55 : decode prog_3_method_6_code 55 = .ok (.iload_n 2, 1) := by decide +kernel
theorem d_Q_peakOf_56 : decode prog_3_method_6_code 56 = .ok (.ireturn, 1) := by decide +kernel
