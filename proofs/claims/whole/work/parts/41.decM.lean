abbrev y_M_init : MethodName := ⟨"FrameTablesModel", "<init>", "()V"⟩
abbrev m_M_init : MethodName × ByteArray × Nat × Option FieldType := (y_M_init, prog_8_method_1_code, 2, none)
theorem mi_M_init : .code y_M_init prog_8_method_1_code 2 none ∈ wT := wT_m 570 (by decide +kernel) rfl
theorem d_M_init_0 : decode prog_8_method_1_code 0 = .ok (.aload_n 0, 1) := by decide +kernel
theorem d_M_init_1 : decode prog_8_method_1_code 1 = .ok (.invokespecial 1, 3) := by decide +kernel
theorem d_M_init_4 : decode prog_8_method_1_code 4 = .ok (.aload_n 0, 1) := by decide +kernel
theorem d_M_init_5 : decode prog_8_method_1_code 5 = .ok (.bipush 82, 2) := by decide +kernel
theorem d_M_init_7 : decode prog_8_method_1_code 7 = .ok (.newarray .int, 2) := by decide +kernel
theorem d_M_init_9 : decode prog_8_method_1_code 9 = .ok (.putfield 7, 3) := by decide +kernel
theorem d_M_init_12 : decode prog_8_method_1_code 12 = .ok (.aload_n 0, 1) := by decide +kernel
theorem d_M_init_13 : decode prog_8_method_1_code 13 = .ok (.bipush 82, 2) := by decide +kernel
theorem d_M_init_15 : decode prog_8_method_1_code 15 = .ok (.newarray .int, 2) := by decide +kernel
theorem d_M_init_17 : decode prog_8_method_1_code 17 = .ok (.putfield 13, 3) := by decide +kernel
theorem d_M_init_20 : decode prog_8_method_1_code 20 = .ok (.aload_n 0, 1) := by decide +kernel
theorem d_M_init_21 : decode prog_8_method_1_code 21 = .ok (.bipush 82, 2) := by decide +kernel
theorem d_M_init_23 : decode prog_8_method_1_code 23 = .ok (.newarray .int, 2) := by decide +kernel
theorem d_M_init_25 : decode prog_8_method_1_code 25 = .ok (.putfield 16, 3) := by decide +kernel
theorem d_M_init_28 : decode prog_8_method_1_code 28 = .ok (.aload_n 0, 1) := by decide +kernel
theorem d_M_init_29 : decode prog_8_method_1_code 29 = .ok (.bipush 82, 2) := by decide +kernel
theorem d_M_init_31 : decode prog_8_method_1_code 31 = .ok (.newarray .int, 2) := by decide +kernel
theorem d_M_init_33 : decode prog_8_method_1_code 33 = .ok (.putfield 19, 3) := by decide +kernel
theorem d_M_init_36 : decode prog_8_method_1_code 36 = .ok (.aload_n 0, 1) := by decide +kernel
theorem d_M_init_37 : decode prog_8_method_1_code 37 = .ok (.bipush 41, 2) := by decide +kernel
theorem d_M_init_39 : decode prog_8_method_1_code 39 = .ok (.newarray .int, 2) := by decide +kernel
theorem d_M_init_41 : decode prog_8_method_1_code 41 = .ok (.putfield 22, 3) := by decide +kernel
theorem d_M_init_44 : decode prog_8_method_1_code 44 = .ok (.aload_n 0, 1) := by decide +kernel
theorem d_M_init_45 : decode prog_8_method_1_code 45 = .ok (.sipush 1722, 3) := by decide +kernel
theorem d_M_init_48 : decode prog_8_method_1_code 48 = .ok (.newarray .int, 2) := by decide +kernel
theorem d_M_init_50 : decode prog_8_method_1_code 50 = .ok (.putfield 25, 3) := by decide +kernel
theorem d_M_init_53 : decode prog_8_method_1_code 53 = .ok (.aload_n 0, 1) := by decide +kernel
theorem d_M_init_54 : decode prog_8_method_1_code 54 = .ok (.iconst 4, 1) := by decide +kernel
theorem d_M_init_55 : decode prog_8_method_1_code 55 = .ok (.newarray .int, 2) := by decide +kernel
theorem d_M_init_57 : decode prog_8_method_1_code 57 = .ok (.putfield 28, 3) := by decide +kernel
theorem d_M_init_60 : decode prog_8_method_1_code 60 = .ok (.aload_n 0, 1) := by decide +kernel
theorem d_M_init_61 : decode prog_8_method_1_code 61 = .ok (.iconst 4, 1) := by decide +kernel
theorem d_M_init_62 : decode prog_8_method_1_code 62 = .ok (.newarray .int, 2) := by decide +kernel
theorem d_M_init_64 : decode prog_8_method_1_code 64 = .ok (.putfield 31, 3) := by decide +kernel
theorem d_M_init_67 : decode prog_8_method_1_code 67 = .ok (.aload_n 0, 1) := by decide +kernel
theorem d_M_init_68 : decode prog_8_method_1_code 68 = .ok (.sipush 2001, 3) := by decide +kernel
theorem d_M_init_71 : decode prog_8_method_1_code 71 = .ok (.newarray .int, 2) := by decide +kernel
theorem d_M_init_73 : decode prog_8_method_1_code 73 = .ok (.putfield 34, 3) := by decide +kernel
theorem d_M_init_76 : decode prog_8_method_1_code 76 = .ok (.aload_n 0, 1) := by decide +kernel
theorem d_M_init_77 : decode prog_8_method_1_code 77 = .ok (.sipush 420, 3) := by decide +kernel
theorem d_M_init_80 : decode prog_8_method_1_code 80 = .ok (.newarray .int, 2) := by decide +kernel
theorem d_M_init_82 : decode prog_8_method_1_code 82 = .ok (.putfield 37, 3) := by decide +kernel
theorem d_M_init_85 : decode prog_8_method_1_code 85 = .ok (.aload_n 0, 1) := by decide +kernel
theorem d_M_init_86 : decode prog_8_method_1_code 86 = .ok (.bipush 40, 2) := by decide +kernel
theorem d_M_init_88 : decode prog_8_method_1_code 88 = .ok (.newarray .int, 2) := by decide +kernel
theorem d_M_init_90 : decode prog_8_method_1_code 90 = .ok (.putfield 40, 3) := by decide +kernel
theorem d_M_init_93 : decode prog_8_method_1_code 93 = .ok (.aload_n 0, 1) := by decide +kernel
theorem d_M_init_94 : decode prog_8_method_1_code 94 = .ok (.bipush 40, 2) := by decide +kernel
theorem d_M_init_96 : decode prog_8_method_1_code 96 = .ok (.newarray .int, 2) := by decide +kernel
theorem d_M_init_98 : decode prog_8_method_1_code 98 = .ok (.putfield 43, 3) := by decide +kernel
theorem d_M_init_101 : decode prog_8_method_1_code 101 = .ok (.aload_n 0, 1) := by decide +kernel
theorem d_M_init_102 : decode prog_8_method_1_code 102 = .ok (.bipush 40, 2) := by decide +kernel
theorem d_M_init_104 : decode prog_8_method_1_code 104 = .ok (.newarray .int, 2) := by decide +kernel
theorem d_M_init_106 : decode prog_8_method_1_code 106 = .ok (.putfield 46, 3) := by decide +kernel
theorem d_M_init_109 : decode prog_8_method_1_code 109 = .ok (.iconst 0, 1) := by decide +kernel
theorem d_M_init_110 : decode prog_8_method_1_code 110 = .ok (.istore_n 1, 1) := by decide +kernel
theorem d_M_init_111 : decode prog_8_method_1_code 111 = .ok (.iload_n 1, 1) := by decide +kernel
theorem d_M_init_112 : decode prog_8_method_1_code 112 = .ok (.iconst 4, 1) := by decide +kernel
theorem d_M_init_113 : decode prog_8_method_1_code 113 = .ok (.if_icmp .ge 35, 3) := by decide +kernel
theorem d_M_init_116 : decode prog_8_method_1_code 116 = .ok (.aload_n 0, 1) := by decide +kernel
theorem d_M_init_117 : decode prog_8_method_1_code 117 = .ok (.getfield 28, 3) := by decide +kernel
theorem d_M_init_120 : decode prog_8_method_1_code 120 = .ok (.iload_n 1, 1) := by decide +kernel
theorem d_M_init_121 : decode prog_8_method_1_code 121 = .ok (.sipush 512, 3) := by decide +kernel
theorem d_M_init_124 : decode prog_8_method_1_code 124 = .ok (.iload_n 1, 1) := by decide +kernel
theorem d_M_init_125 : decode prog_8_method_1_code 125 = .ok (.imul, 1) := by decide +kernel
theorem d_M_init_126 : decode prog_8_method_1_code 126 = .ok (.iastore, 1) := by decide +kernel
theorem d_M_init_127 : decode prog_8_method_1_code 127 = .ok (.aload_n 0, 1) := by decide +kernel
theorem d_M_init_128 : decode prog_8_method_1_code 128 = .ok (.getfield 31, 3) := by decide +kernel
theorem d_M_init_131 : decode prog_8_method_1_code 131 = .ok (.iload_n 1, 1) := by decide +kernel
theorem d_M_init_132 : decode prog_8_method_1_code 132 = .ok (.sipush 512, 3) := by decide +kernel
theorem d_M_init_135 : decode prog_8_method_1_code 135 = .ok (.iload_n 1, 1) := by decide +kernel
theorem d_M_init_136 : decode prog_8_method_1_code 136 = .ok (.imul, 1) := by decide +kernel
theorem d_M_init_137 : decode prog_8_method_1_code 137 = .ok (.sipush 511, 3) := by decide +kernel
theorem d_M_init_140 : decode prog_8_method_1_code 140 = .ok (.iadd, 1) := by decide +kernel
theorem d_M_init_141 : decode prog_8_method_1_code 141 = .ok (.iastore, 1) := by decide +kernel
theorem d_M_init_142 : decode prog_8_method_1_code 142 = .ok (.iinc 1 1, 3) := by decide +kernel
theorem d_M_init_145 : decode prog_8_method_1_code 145 = .ok (.goto (-34), 3) := by decide +kernel
theorem d_M_init_148 : decode prog_8_method_1_code 148 = .ok (.return_, 1) := by decide +kernel
abbrev y_M_frame : MethodName := ⟨"FrameTablesModel", "frame", "(III)I"⟩
abbrev m_M_frame : MethodName × ByteArray × Nat × Option FieldType := (y_M_frame, prog_8_method_5_code, 5, some .int)
theorem mi_M_frame : .code y_M_frame prog_8_method_5_code 5 (some .int) ∈ wT := wT_m 633 (by decide +kernel) rfl
theorem d_M_frame_0 : decode prog_8_method_5_code 0 = .ok (.aload_n 0, 1) := by decide +kernel
theorem d_M_frame_1 : decode prog_8_method_5_code 1 = .ok (.iconst 0, 1) := by decide +kernel
theorem d_M_frame_2 : decode prog_8_method_5_code 2 = .ok (.putfield 49, 3) := by decide +kernel
theorem d_M_frame_5 : decode prog_8_method_5_code 5 = .ok (.iload_n 1, 1) := by decide +kernel
theorem d_M_frame_6 : decode prog_8_method_5_code 6 = .ok (.i2l, 1) := by decide +kernel
theorem d_M_frame_7 : decode prog_8_method_5_code 7 = .ok (.lconst 1, 1) := by decide +kernel
theorem d_M_frame_8 : decode prog_8_method_5_code 8 = .ok (.ldc2_w 60, 3) := by decide +kernel
theorem d_M_frame_11 : decode prog_8_method_5_code 11 = .ok (.invokestatic 56, 3) := by decide +kernel
theorem d_M_frame_14 : decode prog_8_method_5_code 14 = .ok (.ifCond .eq 27, 3) := by decide +kernel
theorem d_M_frame_17 : decode prog_8_method_5_code 17 = .ok (.iload_n 2, 1) := by decide +kernel
theorem d_M_frame_18 : decode prog_8_method_5_code 18 = .ok (.i2l, 1) := by decide +kernel
theorem d_M_frame_19 : decode prog_8_method_5_code 19 = .ok (.lconst 1, 1) := by decide +kernel
theorem d_M_frame_20 : decode prog_8_method_5_code 20 = .ok (.ldc2_w 62, 3) := by decide +kernel
theorem d_M_frame_23 : decode prog_8_method_5_code 23 = .ok (.invokestatic 56, 3) := by decide +kernel
theorem d_M_frame_26 : decode prog_8_method_5_code 26 = .ok (.ifCond .eq 15, 3) := by decide +kernel
theorem d_M_frame_29 : decode prog_8_method_5_code 29 = .ok (.iload_n 3, 1) := by decide +kernel
theorem d_M_frame_30 : decode prog_8_method_5_code 30 = .ok (.i2l, 1) := by decide +kernel
theorem d_M_frame_31 : decode prog_8_method_5_code 31 = .ok (.lconst 0, 1) := by decide +kernel
theorem d_M_frame_32 : decode prog_8_method_5_code 32 = .ok (.ldc2_w 64, 3) := by decide +kernel
theorem d_M_frame_35 : decode prog_8_method_5_code 35 = .ok (.invokestatic 56, 3) := by decide +kernel
theorem d_M_frame_38 : decode prog_8_method_5_code 38 = .ok (.ifCond .ne 6, 3) := by decide +kernel
theorem d_M_frame_41 : decode prog_8_method_5_code 41 = .ok (.bipush (-2), 2) := by decide +kernel
theorem d_M_frame_43 : decode prog_8_method_5_code 43 = .ok (.ireturn, 1) := by decide +kernel
theorem d_M_frame_44 : decode prog_8_method_5_code 44 = .ok (.aload_n 0, 1) := by decide +kernel
theorem d_M_frame_45 : decode prog_8_method_5_code 45 = .ok (.getfield 53, 3) := by decide +kernel
theorem d_M_frame_48 : decode prog_8_method_5_code 48 = .ok (.bipush 40, 2) := by decide +kernel
theorem d_M_frame_50 : decode prog_8_method_5_code 50 = .ok (.if_icmp .ne 6, 3) := by decide +kernel
theorem d_M_frame_53 : decode prog_8_method_5_code 53 = .ok (.bipush (-4), 2) := by decide +kernel
theorem d_M_frame_55 : decode prog_8_method_5_code 55 = .ok (.ireturn, 1) := by decide +kernel
theorem d_M_frame_56 : decode prog_8_method_5_code 56 = .ok (.aload_n 0, 1) := by decide +kernel
theorem d_M_frame_57 : decode prog_8_method_5_code 57 = .ok (.dup, 1) := by decide +kernel
theorem d_M_frame_58 : decode prog_8_method_5_code 58 = .ok (.getfield 53, 3) := by decide +kernel
theorem d_M_frame_61 : decode prog_8_method_5_code 61 = .ok (.iconst 1, 1) := by decide +kernel
theorem d_M_frame_62 : decode prog_8_method_5_code 62 = .ok (.iadd, 1) := by decide +kernel
theorem d_M_frame_63 : decode prog_8_method_5_code 63 = .ok (.putfield 53, 3) := by decide +kernel
theorem d_M_frame_66 : decode prog_8_method_5_code 66 = .ok (.aload_n 0, 1) := by decide +kernel
theorem d_M_frame_67 : decode prog_8_method_5_code 67 = .ok (.getfield 7, 3) := by decide +kernel
theorem d_M_frame_70 : decode prog_8_method_5_code 70 = .ok (.aload_n 0, 1) := by decide +kernel
theorem d_M_frame_71 : decode prog_8_method_5_code 71 = .ok (.getfield 53, 3) := by decide +kernel
theorem d_M_frame_74 : decode prog_8_method_5_code 74 = .ok (.iload_n 1, 1) := by decide +kernel
theorem d_M_frame_75 : decode prog_8_method_5_code 75 = .ok (.iastore, 1) := by decide +kernel
theorem d_M_frame_76 : decode prog_8_method_5_code 76 = .ok (.aload_n 0, 1) := by decide +kernel
theorem d_M_frame_77 : decode prog_8_method_5_code 77 = .ok (.getfield 13, 3) := by decide +kernel
theorem d_M_frame_80 : decode prog_8_method_5_code 80 = .ok (.aload_n 0, 1) := by decide +kernel
theorem d_M_frame_81 : decode prog_8_method_5_code 81 = .ok (.getfield 53, 3) := by decide +kernel
theorem d_M_frame_84 : decode prog_8_method_5_code 84 = .ok (.iload_n 2, 1) := by decide +kernel
theorem d_M_frame_85 : decode prog_8_method_5_code 85 = .ok (.iastore, 1) := by decide +kernel
theorem d_M_frame_86 : decode prog_8_method_5_code 86 = .ok (.aload_n 0, 1) := by decide +kernel
theorem d_M_frame_87 : decode prog_8_method_5_code 87 = .ok (.getfield 16, 3) := by decide +kernel
theorem d_M_frame_90 : decode prog_8_method_5_code 90 = .ok (.aload_n 0, 1) := by decide +kernel
theorem d_M_frame_91 : decode prog_8_method_5_code 91 = .ok (.getfield 53, 3) := by decide +kernel
theorem d_M_frame_94 : decode prog_8_method_5_code 94 = .ok (.iload_n 3, 1) := by decide +kernel
theorem d_M_frame_95 : decode prog_8_method_5_code 95 = .ok (.iastore, 1) := by decide +kernel
theorem d_M_frame_96 : decode prog_8_method_5_code 96 = .ok (.aload_n 0, 1) := by decide +kernel
theorem d_M_frame_97 : decode prog_8_method_5_code 97 = .ok (.getfield 19, 3) := by decide +kernel
theorem d_M_frame_100 : decode prog_8_method_5_code 100 = .ok (.aload_n 0, 1) := by decide +kernel
theorem d_M_frame_101 : decode prog_8_method_5_code 101 = .ok (.getfield 53, 3) := by decide +kernel
theorem d_M_frame_104 : decode prog_8_method_5_code 104 = .ok (.iconst 0, 1) := by decide +kernel
theorem d_M_frame_105 : decode prog_8_method_5_code 105 = .ok (.iastore, 1) := by decide +kernel
theorem d_M_frame_106 : decode prog_8_method_5_code 106 = .ok (.aload_n 0, 1) := by decide +kernel
theorem d_M_frame_107 : decode prog_8_method_5_code 107 = .ok (.getfield 22, 3) := by decide +kernel
theorem d_M_frame_110 : decode prog_8_method_5_code 110 = .ok (.aload_n 0, 1) := by decide +kernel
theorem d_M_frame_111 : decode prog_8_method_5_code 111 = .ok (.getfield 53, 3) := by decide +kernel
theorem d_M_frame_114 : decode prog_8_method_5_code 114 = .ok (.iconst 0, 1) := by decide +kernel
theorem d_M_frame_115 : decode prog_8_method_5_code 115 = .ok (.iastore, 1) := by decide +kernel
theorem d_M_frame_116 : decode prog_8_method_5_code 116 = .ok (.iconst 1, 1) := by decide +kernel
theorem d_M_frame_117 : decode prog_8_method_5_code 117 = .ok (.istore 4, 2) := by decide +kernel
theorem d_M_frame_119 : decode prog_8_method_5_code 119 = .ok (.iload 4, 2) := by decide +kernel
theorem d_M_frame_121 : decode prog_8_method_5_code 121 = .ok (.bipush 20, 2) := by decide +kernel
theorem d_M_frame_123 : decode prog_8_method_5_code 123 = .ok (.if_icmp .gt 25, 3) := by decide +kernel
theorem d_M_frame_126 : decode prog_8_method_5_code 126 = .ok (.aload_n 0, 1) := by decide +kernel
theorem d_M_frame_127 : decode prog_8_method_5_code 127 = .ok (.getfield 25, 3) := by decide +kernel
theorem d_M_frame_130 : decode prog_8_method_5_code 130 = .ok (.bipush 21, 2) := by decide +kernel
theorem d_M_frame_132 : decode prog_8_method_5_code 132 = .ok (.aload_n 0, 1) := by decide +kernel
theorem d_M_frame_133 : decode prog_8_method_5_code 133 = .ok (.getfield 53, 3) := by decide +kernel
theorem d_M_frame_136 : decode prog_8_method_5_code 136 = .ok (.imul, 1) := by decide +kernel
theorem d_M_frame_137 : decode prog_8_method_5_code 137 = .ok (.iload 4, 2) := by decide +kernel
theorem d_M_frame_139 : decode prog_8_method_5_code 139 = .ok (.iadd, 1) := by decide +kernel
theorem d_M_frame_140 : decode prog_8_method_5_code 140 = .ok (.iconst 0, 1) := by decide +kernel
theorem d_M_frame_141 : decode prog_8_method_5_code 141 = .ok (.iastore, 1) := by decide +kernel
theorem d_M_frame_142 : decode prog_8_method_5_code 142 = .ok (.iinc 4 1, 3) := by decide +kernel
theorem d_M_frame_145 : decode prog_8_method_5_code 145 = .ok (.goto (-26), 3) := by decide +kernel
theorem d_M_frame_148 : decode prog_8_method_5_code 148 = .ok (.aload_n 0, 1) := by decide +kernel
theorem d_M_frame_149 : decode prog_8_method_5_code 149 = .ok (.iconst 0, 1) := by decide +kernel
theorem d_M_frame_150 : decode prog_8_method_5_code 150 = .ok (.putfield 66, 3) := by decide +kernel
theorem d_M_frame_153 : decode prog_8_method_5_code 153 = .ok (.aload_n 0, 1) := by decide +kernel
theorem d_M_frame_154 : decode prog_8_method_5_code 154 = .ok (.getfield 53, 3) := by decide +kernel
theorem d_M_frame_157 : decode prog_8_method_5_code 157 = .ok (.ireturn, 1) := by decide +kernel
abbrev y_M_isIn : MethodName := ⟨"FrameTablesModel", "isIn", "(JJJ)Z"⟩
abbrev m_M_isIn : MethodName × ByteArray × Nat × Option FieldType := (y_M_isIn, prog_8_method_3_code, 6, some .boolean)
theorem mi_M_isIn : .code y_M_isIn prog_8_method_3_code 6 (some .boolean) ∈ wT := wT_m 637 (by decide +kernel) rfl
theorem d_M_isIn_0 : decode prog_8_method_3_code 0 = .ok (.lload_n 0, 1) := by decide +kernel
theorem d_M_isIn_1 : decode prog_8_method_3_code 1 = .ok (.lload_n 2, 1) := by decide +kernel
theorem d_M_isIn_2 : decode prog_8_method_3_code 2 = .ok (.lcmp, 1) := by decide +kernel
theorem d_M_isIn_3 : decode prog_8_method_3_code 3 = .ok (.ifCond .lt 14, 3) := by decide +kernel
theorem d_M_isIn_6 : decode prog_8_method_3_code 6 = .ok (.lload_n 0, 1) := by decide +kernel
theorem d_M_isIn_7 : decode prog_8_method_3_code 7 = .ok (.lload 4, 2) := by decide +kernel
theorem d_M_isIn_9 : decode prog_8_method_3_code 9 = .ok (.lcmp, 1) := by decide +kernel
theorem d_M_isIn_10 : decode prog_8_method_3_code 10 = .ok (.ifCond .gt 7, 3) := by decide +kernel
theorem d_M_isIn_13 : decode prog_8_method_3_code 13 = .ok (.iconst 1, 1) := by decide +kernel
theorem d_M_isIn_14 : decode prog_8_method_3_code 14 = .ok (.goto 4, 3) := by decide +kernel
theorem d_M_isIn_17 : decode prog_8_method_3_code 17 = .ok (.iconst 0, 1) := by decide +kernel
theorem d_M_isIn_18 : decode prog_8_method_3_code 18 = .ok (.ireturn, 1) := by decide +kernel
abbrev y_M_reader : MethodName := ⟨"FrameTablesModel", "reader", "(III)I"⟩
abbrev m_M_reader : MethodName × ByteArray × Nat × Option FieldType := (y_M_reader, prog_8_method_7_code, 4, some .int)
theorem mi_M_reader : .code y_M_reader prog_8_method_7_code 4 (some .int) ∈ wT := wT_m 643 (by decide +kernel) rfl
theorem d_M_reader_0 : decode prog_8_method_7_code 0 = .ok (.aload_n 0, 1) := by decide +kernel
theorem d_M_reader_1 : decode prog_8_method_7_code 1 = .ok (.iconst 0, 1) := by decide +kernel
theorem d_M_reader_2 : decode prog_8_method_7_code 2 = .ok (.putfield 49, 3) := by decide +kernel
theorem d_M_reader_5 : decode prog_8_method_7_code 5 = .ok (.aload_n 0, 1) := by decide +kernel
theorem d_M_reader_6 : decode prog_8_method_7_code 6 = .ok (.iload_n 1, 1) := by decide +kernel
theorem d_M_reader_7 : decode prog_8_method_7_code 7 = .ok (.invokevirtual 70, 3) := by decide +kernel
theorem d_M_reader_10 : decode prog_8_method_7_code 10 = .ok (.ifCond .eq 15, 3) := by decide +kernel
theorem d_M_reader_13 : decode prog_8_method_7_code 13 = .ok (.iload_n 2, 1) := by decide +kernel
theorem d_M_reader_14 : decode prog_8_method_7_code 14 = .ok (.i2l, 1) := by decide +kernel
theorem d_M_reader_15 : decode prog_8_method_7_code 15 = .ok (.lconst 1, 1) := by decide +kernel
theorem d_M_reader_16 : decode prog_8_method_7_code 16 = .ok (.ldc2_w 60, 3) := by decide +kernel
theorem d_M_reader_19 : decode prog_8_method_7_code 19 = .ok (.invokestatic 56, 3) := by decide +kernel
theorem d_M_reader_22 : decode prog_8_method_7_code 22 = .ok (.ifCond .ne 5, 3) := by decide +kernel
theorem d_M_reader_25 : decode prog_8_method_7_code 25 = .ok (.iconst (-1), 1) := by decide +kernel
theorem d_M_reader_26 : decode prog_8_method_7_code 26 = .ok (.ireturn, 1) := by decide +kernel
theorem d_M_reader_27 : decode prog_8_method_7_code 27 = .ok (.iload_n 3, 1) := by decide +kernel
theorem d_M_reader_28 : decode prog_8_method_7_code 28 = .ok (.i2l, 1) := by decide +kernel
theorem d_M_reader_29 : decode prog_8_method_7_code 29 = .ok (.lconst 0, 1) := by decide +kernel
theorem d_M_reader_30 : decode prog_8_method_7_code 30 = .ok (.ldc2_w 74, 3) := by decide +kernel
theorem d_M_reader_33 : decode prog_8_method_7_code 33 = .ok (.invokestatic 56, 3) := by decide +kernel
theorem d_M_reader_36 : decode prog_8_method_7_code 36 = .ok (.ifCond .ne 6, 3) := by decide +kernel
theorem d_M_reader_39 : decode prog_8_method_7_code 39 = .ok (.bipush (-2), 2) := by decide +kernel
theorem d_M_reader_41 : decode prog_8_method_7_code 41 = .ok (.ireturn, 1) := by decide +kernel
theorem d_M_reader_42 : decode prog_8_method_7_code 42 = .ok (.aload_n 0, 1) := by decide +kernel
theorem d_M_reader_43 : decode prog_8_method_7_code 43 = .ok (.getfield 7, 3) := by decide +kernel
theorem d_M_reader_46 : decode prog_8_method_7_code 46 = .ok (.iload_n 1, 1) := by decide +kernel
theorem d_M_reader_47 : decode prog_8_method_7_code 47 = .ok (.iaload, 1) := by decide +kernel
theorem d_M_reader_48 : decode prog_8_method_7_code 48 = .ok (.iload_n 2, 1) := by decide +kernel
theorem d_M_reader_49 : decode prog_8_method_7_code 49 = .ok (.if_icmp .ne 6, 3) := by decide +kernel
theorem d_M_reader_52 : decode prog_8_method_7_code 52 = .ok (.bipush (-3), 2) := by decide +kernel
theorem d_M_reader_54 : decode prog_8_method_7_code 54 = .ok (.ireturn, 1) := by decide +kernel
theorem d_M_reader_55 : decode prog_8_method_7_code 55 = .ok (.aload_n 0, 1) := by decide +kernel
theorem d_M_reader_56 : decode prog_8_method_7_code 56 = .ok (.getfield 25, 3) := by decide +kernel
theorem d_M_reader_59 : decode prog_8_method_7_code 59 = .ok (.bipush 21, 2) := by decide +kernel
theorem d_M_reader_61 : decode prog_8_method_7_code 61 = .ok (.iload_n 1, 1) := by decide +kernel
theorem d_M_reader_62 : decode prog_8_method_7_code 62 = .ok (.imul, 1) := by decide +kernel
theorem d_M_reader_63 : decode prog_8_method_7_code 63 = .ok (.iload_n 2, 1) := by decide +kernel
theorem d_M_reader_64 : decode prog_8_method_7_code 64 = .ok (.iadd, 1) := by decide +kernel
theorem d_M_reader_65 : decode prog_8_method_7_code 65 = .ok (.iload_n 3, 1) := by decide +kernel
theorem d_M_reader_66 : decode prog_8_method_7_code 66 = .ok (.iastore, 1) := by decide +kernel
theorem d_M_reader_67 : decode prog_8_method_7_code 67 = .ok (.aload_n 0, 1) := by decide +kernel
theorem d_M_reader_68 : decode prog_8_method_7_code 68 = .ok (.iload_n 1, 1) := by decide +kernel
theorem d_M_reader_69 : decode prog_8_method_7_code 69 = .ok (.invokevirtual 76, 3) := by decide +kernel
theorem d_M_reader_72 : decode prog_8_method_7_code 72 = .ok (.ireturn, 1) := by decide +kernel
abbrev y_M_isFrame : MethodName := ⟨"FrameTablesModel", "isFrame", "(I)Z"⟩
abbrev m_M_isFrame : MethodName × ByteArray × Nat × Option FieldType := (y_M_isFrame, prog_8_method_4_code, 2, some .boolean)
theorem mi_M_isFrame : .code y_M_isFrame prog_8_method_4_code 2 (some .boolean) ∈ wT := wT_m 647 (by decide +kernel) rfl
theorem d_M_isFrame_0 : decode prog_8_method_4_code 0 = .ok (.iload_n 1, 1) := by decide +kernel
theorem d_M_isFrame_1 : decode prog_8_method_4_code 1 = .ok (.i2l, 1) := by decide +kernel
theorem d_M_isFrame_2 : decode prog_8_method_4_code 2 = .ok (.lconst 1, 1) := by decide +kernel
theorem d_M_isFrame_3 : decode prog_8_method_4_code 3 = .ok (.aload_n 0, 1) := by decide +kernel
theorem d_M_isFrame_4 : decode prog_8_method_4_code 4 = .ok (.getfield 53, 3) := by decide +kernel
theorem d_M_isFrame_7 : decode prog_8_method_4_code 7 = .ok (.i2l, 1) := by decide +kernel
theorem d_M_isFrame_8 : decode prog_8_method_4_code 8 = .ok (.invokestatic 56, 3) := by decide +kernel
theorem d_M_isFrame_11 : decode prog_8_method_4_code 11 = .ok (.ireturn, 1) := by decide +kernel
abbrev y_M_readers : MethodName := ⟨"FrameTablesModel", "readers", "(I)I"⟩
abbrev m_M_readers : MethodName × ByteArray × Nat × Option FieldType := (y_M_readers, prog_8_method_6_code, 4, some .int)
theorem mi_M_readers : .code y_M_readers prog_8_method_6_code 4 (some .int) ∈ wT := wT_m 652 (by decide +kernel) rfl
theorem d_M_readers_0 : decode prog_8_method_6_code 0 = .ok (.iconst 0, 1) := by decide +kernel
theorem d_M_readers_1 : decode prog_8_method_6_code 1 = .ok (.istore_n 2, 1) := by decide +kernel
theorem d_M_readers_2 : decode prog_8_method_6_code 2 = .ok (.iconst 1, 1) := by decide +kernel
theorem d_M_readers_3 : decode prog_8_method_6_code 3 = .ok (.istore_n 3, 1) := by decide +kernel
theorem d_M_readers_4 : decode prog_8_method_6_code 4 = .ok (.iload_n 3, 1) := by decide +kernel
theorem d_M_readers_5 : decode prog_8_method_6_code 5 = .ok (.bipush 20, 2) := by decide +kernel
theorem d_M_readers_7 : decode prog_8_method_6_code 7 = .ok (.if_icmp .gt 31, 3) := by decide +kernel
theorem d_M_readers_10 : decode prog_8_method_6_code 10 = .ok (.iload_n 2, 1) := by decide +kernel
theorem d_M_readers_11 : decode prog_8_method_6_code 11 = .ok (.aload_n 0, 1) := by decide +kernel
theorem d_M_readers_12 : decode prog_8_method_6_code 12 = .ok (.getfield 25, 3) := by decide +kernel
theorem d_M_readers_15 : decode prog_8_method_6_code 15 = .ok (.bipush 21, 2) := by decide +kernel
theorem d_M_readers_17 : decode prog_8_method_6_code 17 = .ok (.iload_n 1, 1) := by decide +kernel
theorem d_M_readers_18 : decode prog_8_method_6_code 18 = .ok (.imul, 1) := by decide +kernel
theorem d_M_readers_19 : decode prog_8_method_6_code 19 = .ok (.iload_n 3, 1) := by decide +kernel
theorem d_M_readers_20 : decode prog_8_method_6_code 20 = .ok (.iadd, 1) := by decide +kernel
theorem d_M_readers_21 : decode prog_8_method_6_code 21 = .ok (.iaload, 1) := by decide +kernel
theorem d_M_readers_22 : decode prog_8_method_6_code 22 = .ok (.ifCond .le 7, 3) := by decide +kernel
theorem d_M_readers_25 : decode prog_8_method_6_code 25 = .ok (.iconst 1, 1) := by decide +kernel
theorem d_M_readers_26 : decode prog_8_method_6_code 26 = .ok (.goto 4, 3) := by decide +kernel
theorem d_M_readers_29 : decode prog_8_method_6_code 29 = .ok (.iconst 0, 1) := by decide +kernel
theorem d_M_readers_30 : decode prog_8_method_6_code 30 = .ok (.iadd, 1) := by decide +kernel
theorem d_M_readers_31 : decode prog_8_method_6_code 31 = .ok (.istore_n 2, 1) := by decide +kernel
theorem d_M_readers_32 : decode prog_8_method_6_code 32 = .ok (.iinc 3 1, 3) := by decide +kernel
theorem d_M_readers_35 : decode prog_8_method_6_code 35 = .ok (.goto (-31), 3) := by decide +kernel
theorem d_M_readers_38 : decode prog_8_method_6_code 38 = .ok (.iload_n 2, 1) := by decide +kernel
theorem d_M_readers_39 : decode prog_8_method_6_code 39 = .ok (.ireturn, 1) := by decide +kernel
abbrev y_M_identifier : MethodName := ⟨"FrameTablesModel", "identifier", "(I)I"⟩
abbrev m_M_identifier : MethodName × ByteArray × Nat × Option FieldType := (y_M_identifier, prog_8_method_9_code, 2, some .int)
theorem mi_M_identifier : .code y_M_identifier prog_8_method_9_code 2 (some .int) ∈ wT := wT_m 656 (by decide +kernel) rfl
theorem d_M_identifier_0 : decode prog_8_method_9_code 0 = .ok (.aload_n 0, 1) := by decide +kernel
theorem d_M_identifier_1 : decode prog_8_method_9_code 1 = .ok (.iconst 0, 1) := by decide +kernel
theorem d_M_identifier_2 : decode prog_8_method_9_code 2 = .ok (.putfield 49, 3) := by decide +kernel
theorem d_M_identifier_5 : decode prog_8_method_9_code 5 = .ok (.aload_n 0, 1) := by decide +kernel
theorem d_M_identifier_6 : decode prog_8_method_9_code 6 = .ok (.iload_n 1, 1) := by decide +kernel
theorem d_M_identifier_7 : decode prog_8_method_9_code 7 = .ok (.invokevirtual 70, 3) := by decide +kernel
theorem d_M_identifier_10 : decode prog_8_method_9_code 10 = .ok (.ifCond .eq 11, 3) := by decide +kernel
theorem d_M_identifier_13 : decode prog_8_method_9_code 13 = .ok (.aload_n 0, 1) := by decide +kernel
theorem d_M_identifier_14 : decode prog_8_method_9_code 14 = .ok (.iload_n 1, 1) := by decide +kernel
theorem d_M_identifier_15 : decode prog_8_method_9_code 15 = .ok (.invokevirtual 80, 3) := by decide +kernel
theorem d_M_identifier_18 : decode prog_8_method_9_code 18 = .ok (.goto 4, 3) := by decide +kernel
theorem d_M_identifier_21 : decode prog_8_method_9_code 21 = .ok (.iconst (-1), 1) := by decide +kernel
theorem d_M_identifier_22 : decode prog_8_method_9_code 22 = .ok (.ireturn, 1) := by decide +kernel
abbrev y_M_identifierOf : MethodName := ⟨"FrameTablesModel", "identifierOf", "(I)I"⟩
abbrev m_M_identifierOf : MethodName × ByteArray × Nat × Option FieldType := (y_M_identifierOf, prog_8_method_8_code, 6, some .int)
theorem mi_M_identifierOf : .code y_M_identifierOf prog_8_method_8_code 6 (some .int) ∈ wT := wT_m 660 (by decide +kernel) rfl
theorem d_M_identifierOf_0 : decode prog_8_method_8_code 0 = .ok (.aload_n 0, 1) := by decide +kernel
theorem d_M_identifierOf_1 : decode prog_8_method_8_code 1 = .ok (.getfield 16, 3) := by decide +kernel
theorem d_M_identifierOf_4 : decode prog_8_method_8_code 4 = .ok (.iload_n 1, 1) := by decide +kernel
theorem d_M_identifierOf_5 : decode prog_8_method_8_code 5 = .ok (.iaload, 1) := by decide +kernel
theorem d_M_identifierOf_6 : decode prog_8_method_8_code 6 = .ok (.bipush 25, 2) := by decide +kernel
theorem d_M_identifierOf_8 : decode prog_8_method_8_code 8 = .ok (.idiv, 1) := by decide +kernel
theorem d_M_identifierOf_9 : decode prog_8_method_8_code 9 = .ok (.istore_n 2, 1) := by decide +kernel
theorem d_M_identifierOf_10 : decode prog_8_method_8_code 10 = .ok (.aload_n 0, 1) := by decide +kernel
theorem d_M_identifierOf_11 : decode prog_8_method_8_code 11 = .ok (.getfield 28, 3) := by decide +kernel
theorem d_M_identifierOf_14 : decode prog_8_method_8_code 14 = .ok (.iload_n 2, 1) := by decide +kernel
theorem d_M_identifierOf_15 : decode prog_8_method_8_code 15 = .ok (.iaload, 1) := by decide +kernel
theorem d_M_identifierOf_16 : decode prog_8_method_8_code 16 = .ok (.istore_n 3, 1) := by decide +kernel
theorem d_M_identifierOf_17 : decode prog_8_method_8_code 17 = .ok (.iconst 1, 1) := by decide +kernel
theorem d_M_identifierOf_18 : decode prog_8_method_8_code 18 = .ok (.istore 4, 2) := by decide +kernel
theorem d_M_identifierOf_20 : decode prog_8_method_8_code 20 = .ok (.iload 4, 2) := by decide +kernel
theorem d_M_identifierOf_22 : decode prog_8_method_8_code 22 = .ok (.aload_n 0, 1) := by decide +kernel
theorem d_M_identifierOf_23 : decode prog_8_method_8_code 23 = .ok (.getfield 53, 3) := by decide +kernel
theorem d_M_identifierOf_26 : decode prog_8_method_8_code 26 = .ok (.if_icmp .gt 81, 3) := by decide +kernel
theorem d_M_identifierOf_29 : decode prog_8_method_8_code 29 = .ok (.aload_n 0, 1) := by decide +kernel
theorem d_M_identifierOf_30 : decode prog_8_method_8_code 30 = .ok (.getfield 16, 3) := by decide +kernel
theorem d_M_identifierOf_33 : decode prog_8_method_8_code 33 = .ok (.iload 4, 2) := by decide +kernel
theorem d_M_identifierOf_35 : decode prog_8_method_8_code 35 = .ok (.iaload, 1) := by decide +kernel
theorem d_M_identifierOf_36 : decode prog_8_method_8_code 36 = .ok (.aload_n 0, 1) := by decide +kernel
theorem d_M_identifierOf_37 : decode prog_8_method_8_code 37 = .ok (.getfield 16, 3) := by decide +kernel
theorem d_M_identifierOf_40 : decode prog_8_method_8_code 40 = .ok (.iload_n 1, 1) := by decide +kernel
theorem d_M_identifierOf_41 : decode prog_8_method_8_code 41 = .ok (.iaload, 1) := by decide +kernel
theorem d_M_identifierOf_42 : decode prog_8_method_8_code 42 = .ok (.if_icmp .lt 25, 3) := by decide +kernel
theorem d_M_identifierOf_45 : decode prog_8_method_8_code 45 = .ok (.aload_n 0, 1) := by decide +kernel
theorem d_M_identifierOf_46 : decode prog_8_method_8_code 46 = .ok (.getfield 16, 3) := by decide +kernel
theorem d_M_identifierOf_49 : decode prog_8_method_8_code 49 = .ok (.iload 4, 2) := by decide +kernel
theorem d_M_identifierOf_51 : decode prog_8_method_8_code 51 = .ok (.iaload, 1) := by decide +kernel
theorem d_M_identifierOf_52 : decode prog_8_method_8_code 52 = .ok (.aload_n 0, 1) := by decide +kernel
theorem d_M_identifierOf_53 : decode prog_8_method_8_code 53 = .ok (.getfield 16, 3) := by decide +kernel
theorem d_M_identifierOf_56 : decode prog_8_method_8_code 56 = .ok (.iload_n 1, 1) := by decide +kernel
theorem d_M_identifierOf_57 : decode prog_8_method_8_code 57 = .ok (.iaload, 1) := by decide +kernel
theorem d_M_identifierOf_58 : decode prog_8_method_8_code 58 = .ok (.if_icmp .ne 13, 3) := by decide +kernel
theorem d_M_identifierOf_61 : decode prog_8_method_8_code 61 = .ok (.iload 4, 2) := by decide +kernel
theorem d_M_identifierOf_63 : decode prog_8_method_8_code 63 = .ok (.iload_n 1, 1) := by decide +kernel
theorem d_M_identifierOf_64 : decode prog_8_method_8_code 64 = .ok (.if_icmp .ge 7, 3) := by decide +kernel
theorem d_M_identifierOf_67 : decode prog_8_method_8_code 67 = .ok (.iconst 1, 1) := by decide +kernel
theorem d_M_identifierOf_68 : decode prog_8_method_8_code 68 = .ok (.goto 4, 3) := by decide +kernel
theorem d_M_identifierOf_71 : decode prog_8_method_8_code 71 = .ok (.iconst 0, 1) := by decide +kernel
theorem d_M_identifierOf_72 : decode prog_8_method_8_code 72 = .ok (.istore 5, 2) := by decide +kernel
theorem d_M_identifierOf_74 : decode prog_8_method_8_code 74 = .ok (.iload_n 3, 1) := by decide +kernel
theorem d_M_identifierOf_75 : decode prog_8_method_8_code 75 = .ok (.iload 5, 2) := by decide +kernel
theorem d_M_identifierOf_77 : decode prog_8_method_8_code 77 = .ok (.ifCond .eq 21, 3) := by decide +kernel
theorem d_M_identifierOf_80 : decode prog_8_method_8_code 80 = .ok (.aload_n 0, 1) := by decide +kernel
theorem d_M_identifierOf_81 : decode prog_8_method_8_code 81 = .ok (.getfield 16, 3) := by decide +kernel
theorem d_M_identifierOf_84 : decode prog_8_method_8_code 84 = .ok (.iload 4, 2) := by decide +kernel
theorem d_M_identifierOf_86 : decode prog_8_method_8_code 86 = .ok (.iaload, 1) := by decide +kernel
theorem d_M_identifierOf_87 : decode prog_8_method_8_code 87 = .ok (.bipush 25, 2) := by decide +kernel
theorem d_M_identifierOf_89 : decode prog_8_method_8_code 89 = .ok (.idiv, 1) := by decide +kernel
theorem d_M_identifierOf_90 : decode prog_8_method_8_code 90 = .ok (.iload_n 2, 1) := by decide +kernel
theorem d_M_identifierOf_91 : decode prog_8_method_8_code 91 = .ok (.if_icmp .ne 7, 3) := by decide +kernel
theorem d_M_identifierOf_94 : decode prog_8_method_8_code 94 = .ok (.iconst 1, 1) := by decide +kernel
theorem d_M_identifierOf_95 : decode prog_8_method_8_code 95 = .ok (.goto 4, 3) := by decide +kernel
theorem d_M_identifierOf_98 : decode prog_8_method_8_code 98 = .ok (.iconst 0, 1) := by decide +kernel
theorem d_M_identifierOf_99 : decode prog_8_method_8_code 99 = .ok (.iadd, 1) := by decide +kernel
theorem d_M_identifierOf_100 : decode prog_8_method_8_code 100 = .ok (.istore_n 3, 1) := by decide +kernel
theorem d_M_identifierOf_101 : decode prog_8_method_8_code 101 = .ok (.iinc 4 1, 3) := by decide +kernel
theorem d_M_identifierOf_104 : decode prog_8_method_8_code 104 = .ok (.goto (-84), 3) := by decide +kernel
theorem d_M_identifierOf_107 : decode prog_8_method_8_code 107 = .ok (.iload_n 3, 1) := by decide +kernel
theorem d_M_identifierOf_108 : decode prog_8_method_8_code 108 = .ok (.aload_n 0, 1) := by decide +kernel
theorem d_M_identifierOf_109 : decode prog_8_method_8_code 109 = .ok (.getfield 31, 3) := by decide +kernel
theorem d_M_identifierOf_112 : decode prog_8_method_8_code 112 = .ok (.iload_n 2, 1) := by decide +kernel
theorem d_M_identifierOf_113 : decode prog_8_method_8_code 113 = .ok (.iaload, 1) := by decide +kernel
theorem d_M_identifierOf_114 : decode prog_8_method_8_code 114 = .ok (.if_icmp .le 8, 3) := by decide +kernel
theorem d_M_identifierOf_117 : decode prog_8_method_8_code 117 = .ok (.bipush (-4), 2) := by decide +kernel
theorem d_M_identifierOf_119 : decode prog_8_method_8_code 119 = .ok (.goto 4, 3) := by decide +kernel
theorem d_M_identifierOf_122 : decode prog_8_method_8_code 122 = .ok (.iload_n 3, 1) := by decide +kernel
theorem d_M_identifierOf_123 : decode prog_8_method_8_code 123 = .ok (.ireturn, 1) := by decide +kernel
abbrev y_M_span : MethodName := ⟨"FrameTablesModel", "span", "(III)I"⟩
abbrev m_M_span : MethodName × ByteArray × Nat × Option FieldType := (y_M_span, prog_8_method_10_code, 5, some .int)
theorem mi_M_span : .code y_M_span prog_8_method_10_code 5 (some .int) ∈ wT := wT_m 664 (by decide +kernel) rfl
theorem d_M_span_0 : decode prog_8_method_10_code 0 = .ok (.aload_n 0, 1) := by decide +kernel
theorem d_M_span_1 : decode prog_8_method_10_code 1 = .ok (.iconst 0, 1) := by decide +kernel
theorem d_M_span_2 : decode prog_8_method_10_code 2 = .ok (.putfield 49, 3) := by decide +kernel
theorem d_M_span_5 : decode prog_8_method_10_code 5 = .ok (.iload_n 1, 1) := by decide +kernel
theorem d_M_span_6 : decode prog_8_method_10_code 6 = .ok (.i2l, 1) := by decide +kernel
theorem d_M_span_7 : decode prog_8_method_10_code 7 = .ok (.lconst 0, 1) := by decide +kernel
theorem d_M_span_8 : decode prog_8_method_10_code 8 = .ok (.ldc2_w 83, 3) := by decide +kernel
theorem d_M_span_11 : decode prog_8_method_10_code 11 = .ok (.invokestatic 56, 3) := by decide +kernel
theorem d_M_span_14 : decode prog_8_method_10_code 14 = .ok (.ifCond .ne 5, 3) := by decide +kernel
theorem d_M_span_17 : decode prog_8_method_10_code 17 = .ok (.iconst (-1), 1) := by decide +kernel
theorem d_M_span_18 : decode prog_8_method_10_code 18 = .ok (.ireturn, 1) := by decide +kernel
theorem d_M_span_19 : decode prog_8_method_10_code 19 = .ok (.iload_n 2, 1) := by decide +kernel
theorem d_M_span_20 : decode prog_8_method_10_code 20 = .ok (.i2l, 1) := by decide +kernel
theorem d_M_span_21 : decode prog_8_method_10_code 21 = .ok (.lconst 0, 1) := by decide +kernel
theorem d_M_span_22 : decode prog_8_method_10_code 22 = .ok (.ldc2_w 85, 3) := by decide +kernel
theorem d_M_span_25 : decode prog_8_method_10_code 25 = .ok (.invokestatic 56, 3) := by decide +kernel
theorem d_M_span_28 : decode prog_8_method_10_code 28 = .ok (.ifCond .eq 16, 3) := by decide +kernel
theorem d_M_span_31 : decode prog_8_method_10_code 31 = .ok (.iload_n 3, 1) := by decide +kernel
theorem d_M_span_32 : decode prog_8_method_10_code 32 = .ok (.i2l, 1) := by decide +kernel
theorem d_M_span_33 : decode prog_8_method_10_code 33 = .ok (.iload_n 2, 1) := by decide +kernel
theorem d_M_span_34 : decode prog_8_method_10_code 34 = .ok (.i2l, 1) := by decide +kernel
theorem d_M_span_35 : decode prog_8_method_10_code 35 = .ok (.ldc2_w 85, 3) := by decide +kernel
theorem d_M_span_38 : decode prog_8_method_10_code 38 = .ok (.invokestatic 56, 3) := by decide +kernel
theorem d_M_span_41 : decode prog_8_method_10_code 41 = .ok (.ifCond .ne 6, 3) := by decide +kernel
theorem d_M_span_44 : decode prog_8_method_10_code 44 = .ok (.bipush (-2), 2) := by decide +kernel
theorem d_M_span_46 : decode prog_8_method_10_code 46 = .ok (.ireturn, 1) := by decide +kernel
theorem d_M_span_47 : decode prog_8_method_10_code 47 = .ok (.iconst 0, 1) := by decide +kernel
theorem d_M_span_48 : decode prog_8_method_10_code 48 = .ok (.istore 4, 2) := by decide +kernel
theorem d_M_span_50 : decode prog_8_method_10_code 50 = .ok (.iload 4, 2) := by decide +kernel
theorem d_M_span_52 : decode prog_8_method_10_code 52 = .ok (.iconst 4, 1) := by decide +kernel
theorem d_M_span_53 : decode prog_8_method_10_code 53 = .ok (.if_icmp .ge 40, 3) := by decide +kernel
theorem d_M_span_56 : decode prog_8_method_10_code 56 = .ok (.iload 4, 2) := by decide +kernel
theorem d_M_span_58 : decode prog_8_method_10_code 58 = .ok (.iload_n 1, 1) := by decide +kernel
theorem d_M_span_59 : decode prog_8_method_10_code 59 = .ok (.if_icmp .eq 28, 3) := by decide +kernel
theorem d_M_span_62 : decode prog_8_method_10_code 62 = .ok (.aload_n 0, 1) := by decide +kernel
theorem d_M_span_63 : decode prog_8_method_10_code 63 = .ok (.getfield 28, 3) := by decide +kernel
theorem d_M_span_66 : decode prog_8_method_10_code 66 = .ok (.iload 4, 2) := by decide +kernel
theorem d_M_span_68 : decode prog_8_method_10_code 68 = .ok (.iaload, 1) := by decide +kernel
theorem d_M_span_69 : decode prog_8_method_10_code 69 = .ok (.iload_n 3, 1) := by decide +kernel
theorem d_M_span_70 : decode prog_8_method_10_code 70 = .ok (.if_icmp .gt 17, 3) := by decide +kernel
theorem d_M_span_73 : decode prog_8_method_10_code 73 = .ok (.iload_n 2, 1) := by decide +kernel
theorem d_M_span_74 : decode prog_8_method_10_code 74 = .ok (.aload_n 0, 1) := by decide +kernel
theorem d_M_span_75 : decode prog_8_method_10_code 75 = .ok (.getfield 31, 3) := by decide +kernel
theorem d_M_span_78 : decode prog_8_method_10_code 78 = .ok (.iload 4, 2) := by decide +kernel
theorem d_M_span_80 : decode prog_8_method_10_code 80 = .ok (.iaload, 1) := by decide +kernel
theorem d_M_span_81 : decode prog_8_method_10_code 81 = .ok (.if_icmp .gt 6, 3) := by decide +kernel
theorem d_M_span_84 : decode prog_8_method_10_code 84 = .ok (.bipush (-3), 2) := by decide +kernel
theorem d_M_span_86 : decode prog_8_method_10_code 86 = .ok (.ireturn, 1) := by decide +kernel
theorem d_M_span_87 : decode prog_8_method_10_code 87 = .ok (.iinc 4 1, 3) := by decide +kernel
theorem d_M_span_90 : decode prog_8_method_10_code 90 = .ok (.goto (-40), 3) := by decide +kernel
theorem d_M_span_93 : decode prog_8_method_10_code 93 = .ok (.aload_n 0, 1) := by decide +kernel
theorem d_M_span_94 : decode prog_8_method_10_code 94 = .ok (.getfield 28, 3) := by decide +kernel
theorem d_M_span_97 : decode prog_8_method_10_code 97 = .ok (.iload_n 1, 1) := by decide +kernel
theorem d_M_span_98 : decode prog_8_method_10_code 98 = .ok (.iload_n 2, 1) := by decide +kernel
theorem d_M_span_99 : decode prog_8_method_10_code 99 = .ok (.iastore, 1) := by decide +kernel
theorem d_M_span_100 : decode prog_8_method_10_code 100 = .ok (.aload_n 0, 1) := by decide +kernel
theorem d_M_span_101 : decode prog_8_method_10_code 101 = .ok (.getfield 31, 3) := by decide +kernel
theorem d_M_span_104 : decode prog_8_method_10_code 104 = .ok (.iload_n 1, 1) := by decide +kernel
theorem d_M_span_105 : decode prog_8_method_10_code 105 = .ok (.iload_n 3, 1) := by decide +kernel
theorem d_M_span_106 : decode prog_8_method_10_code 106 = .ok (.iastore, 1) := by decide +kernel
theorem d_M_span_107 : decode prog_8_method_10_code 107 = .ok (.iload_n 3, 1) := by decide +kernel
theorem d_M_span_108 : decode prog_8_method_10_code 108 = .ok (.iload_n 2, 1) := by decide +kernel
theorem d_M_span_109 : decode prog_8_method_10_code 109 = .ok (.isub, 1) := by decide +kernel
theorem d_M_span_110 : decode prog_8_method_10_code 110 = .ok (.iconst 1, 1) := by decide +kernel
theorem d_M_span_111 : decode prog_8_method_10_code 111 = .ok (.iadd, 1) := by decide +kernel
theorem d_M_span_112 : decode prog_8_method_10_code 112 = .ok (.ireturn, 1) := by decide +kernel
abbrev y_M_offset : MethodName := ⟨"FrameTablesModel", "offset", "(J)I"⟩
abbrev m_M_offset : MethodName × ByteArray × Nat × Option FieldType := (y_M_offset, prog_8_method_17_code, 5, some .int)
theorem mi_M_offset : .code y_M_offset prog_8_method_17_code 5 (some .int) ∈ wT := wT_m 670 (by decide +kernel) rfl
theorem d_M_offset_0 : decode prog_8_method_17_code 0 = .ok (.aload_n 0, 1) := by decide +kernel
theorem d_M_offset_1 : decode prog_8_method_17_code 1 = .ok (.iconst 0, 1) := by decide +kernel
theorem d_M_offset_2 : decode prog_8_method_17_code 2 = .ok (.putfield 49, 3) := by decide +kernel
theorem d_M_offset_5 : decode prog_8_method_17_code 5 = .ok (.lload_n 1, 1) := by decide +kernel
theorem d_M_offset_6 : decode prog_8_method_17_code 6 = .ok (.lconst 0, 1) := by decide +kernel
theorem d_M_offset_7 : decode prog_8_method_17_code 7 = .ok (.ldc2_w 99, 3) := by decide +kernel
theorem d_M_offset_10 : decode prog_8_method_17_code 10 = .ok (.invokestatic 56, 3) := by decide +kernel
theorem d_M_offset_13 : decode prog_8_method_17_code 13 = .ok (.ifCond .ne 6, 3) := by decide +kernel
theorem d_M_offset_16 : decode prog_8_method_17_code 16 = .ok (.bipush (-2), 2) := by decide +kernel
theorem d_M_offset_18 : decode prog_8_method_17_code 18 = .ok (.ireturn, 1) := by decide +kernel
theorem d_M_offset_19 : decode prog_8_method_17_code 19 = .ok (.aload_n 0, 1) := by decide +kernel
theorem d_M_offset_20 : decode prog_8_method_17_code 20 = .ok (.invokevirtual 101, 3) := by decide +kernel
theorem d_M_offset_23 : decode prog_8_method_17_code 23 = .ok (.istore_n 3, 1) := by decide +kernel
theorem d_M_offset_24 : decode prog_8_method_17_code 24 = .ok (.aload_n 0, 1) := by decide +kernel
theorem d_M_offset_25 : decode prog_8_method_17_code 25 = .ok (.invokevirtual 104, 3) := by decide +kernel
theorem d_M_offset_28 : decode prog_8_method_17_code 28 = .ok (.aload_n 0, 1) := by decide +kernel
theorem d_M_offset_29 : decode prog_8_method_17_code 29 = .ok (.aload_n 0, 1) := by decide +kernel
theorem d_M_offset_30 : decode prog_8_method_17_code 30 = .ok (.iload_n 3, 1) := by decide +kernel
theorem d_M_offset_31 : decode prog_8_method_17_code 31 = .ok (.lload_n 1, 1) := by decide +kernel
theorem d_M_offset_32 : decode prog_8_method_17_code 32 = .ok (.invokevirtual 107, 3) := by decide +kernel
theorem d_M_offset_35 : decode prog_8_method_17_code 35 = .ok (.putfield 66, 3) := by decide +kernel
theorem d_M_offset_38 : decode prog_8_method_17_code 38 = .ok (.aload_n 0, 1) := by decide +kernel
theorem d_M_offset_39 : decode prog_8_method_17_code 39 = .ok (.invokevirtual 104, 3) := by decide +kernel
theorem d_M_offset_42 : decode prog_8_method_17_code 42 = .ok (.iconst 0, 1) := by decide +kernel
theorem d_M_offset_43 : decode prog_8_method_17_code 43 = .ok (.istore 4, 2) := by decide +kernel
theorem d_M_offset_45 : decode prog_8_method_17_code 45 = .ok (.iload 4, 2) := by decide +kernel
theorem d_M_offset_47 : decode prog_8_method_17_code 47 = .ok (.iload_n 3, 1) := by decide +kernel
theorem d_M_offset_48 : decode prog_8_method_17_code 48 = .ok (.if_icmp .ge 33, 3) := by decide +kernel
theorem d_M_offset_51 : decode prog_8_method_17_code 51 = .ok (.aload_n 0, 1) := by decide +kernel
theorem d_M_offset_52 : decode prog_8_method_17_code 52 = .ok (.aload_n 0, 1) := by decide +kernel
theorem d_M_offset_53 : decode prog_8_method_17_code 53 = .ok (.getfield 43, 3) := by decide +kernel
theorem d_M_offset_56 : decode prog_8_method_17_code 56 = .ok (.iload 4, 2) := by decide +kernel
theorem d_M_offset_58 : decode prog_8_method_17_code 58 = .ok (.iaload, 1) := by decide +kernel
theorem d_M_offset_59 : decode prog_8_method_17_code 59 = .ok (.aload_n 0, 1) := by decide +kernel
theorem d_M_offset_60 : decode prog_8_method_17_code 60 = .ok (.getfield 22, 3) := by decide +kernel
theorem d_M_offset_63 : decode prog_8_method_17_code 63 = .ok (.aload_n 0, 1) := by decide +kernel
theorem d_M_offset_64 : decode prog_8_method_17_code 64 = .ok (.getfield 43, 3) := by decide +kernel
theorem d_M_offset_67 : decode prog_8_method_17_code 67 = .ok (.iload 4, 2) := by decide +kernel
theorem d_M_offset_69 : decode prog_8_method_17_code 69 = .ok (.iaload, 1) := by decide +kernel
theorem d_M_offset_70 : decode prog_8_method_17_code 70 = .ok (.iaload, 1) := by decide +kernel
theorem d_M_offset_71 : decode prog_8_method_17_code 71 = .ok (.iconst 1, 1) := by decide +kernel
theorem d_M_offset_72 : decode prog_8_method_17_code 72 = .ok (.invokevirtual 87, 3) := by decide +kernel
theorem d_M_offset_75 : decode prog_8_method_17_code 75 = .ok (.iinc 4 1, 3) := by decide +kernel
theorem d_M_offset_78 : decode prog_8_method_17_code 78 = .ok (.goto (-33), 3) := by decide +kernel
theorem d_M_offset_81 : decode prog_8_method_17_code 81 = .ok (.aload_n 0, 1) := by decide +kernel
theorem d_M_offset_82 : decode prog_8_method_17_code 82 = .ok (.invokevirtual 91, 3) := by decide +kernel
theorem d_M_offset_85 : decode prog_8_method_17_code 85 = .ok (.ireturn, 1) := by decide +kernel
abbrev y_M_findCounted : MethodName := ⟨"FrameTablesModel", "findCounted", "()I"⟩
abbrev m_M_findCounted : MethodName × ByteArray × Nat × Option FieldType := (y_M_findCounted, prog_8_method_14_code, 3, some .int)
theorem mi_M_findCounted : .code y_M_findCounted prog_8_method_14_code 3 (some .int) ∈ wT := wT_m 675 (by decide +kernel) rfl
theorem d_M_findCounted_0 : decode prog_8_method_14_code 0 = .ok (.iconst 0, 1) := by decide +kernel
theorem d_M_findCounted_1 : decode prog_8_method_14_code 1 = .ok (.istore_n 1, 1) := by decide +kernel
theorem d_M_findCounted_2 : decode prog_8_method_14_code 2 = .ok (.iconst 1, 1) := by decide +kernel
theorem d_M_findCounted_3 : decode prog_8_method_14_code 3 = .ok (.istore_n 2, 1) := by decide +kernel
theorem d_M_findCounted_4 : decode prog_8_method_14_code 4 = .ok (.iload_n 2, 1) := by decide +kernel
theorem d_M_findCounted_5 : decode prog_8_method_14_code 5 = .ok (.aload_n 0, 1) := by decide +kernel
theorem d_M_findCounted_6 : decode prog_8_method_14_code 6 = .ok (.getfield 53, 3) := by decide +kernel
theorem d_M_findCounted_9 : decode prog_8_method_14_code 9 = .ok (.if_icmp .gt 32, 3) := by decide +kernel
theorem d_M_findCounted_12 : decode prog_8_method_14_code 12 = .ok (.sipush 420, 3) := by decide +kernel
theorem d_M_findCounted_15 : decode prog_8_method_14_code 15 = .ok (.aload_n 0, 1) := by decide +kernel
theorem d_M_findCounted_16 : decode prog_8_method_14_code 16 = .ok (.getfield 13, 3) := by decide +kernel
theorem d_M_findCounted_19 : decode prog_8_method_14_code 19 = .ok (.iload_n 2, 1) := by decide +kernel
theorem d_M_findCounted_20 : decode prog_8_method_14_code 20 = .ok (.iaload, 1) := by decide +kernel
theorem d_M_findCounted_21 : decode prog_8_method_14_code 21 = .ok (.irem, 1) := by decide +kernel
theorem d_M_findCounted_22 : decode prog_8_method_14_code 22 = .ok (.ifCond .ne 13, 3) := by decide +kernel
theorem d_M_findCounted_25 : decode prog_8_method_14_code 25 = .ok (.aload_n 0, 1) := by decide +kernel
theorem d_M_findCounted_26 : decode prog_8_method_14_code 26 = .ok (.getfield 43, 3) := by decide +kernel
theorem d_M_findCounted_29 : decode prog_8_method_14_code 29 = .ok (.iload_n 1, 1) := by decide +kernel
theorem d_M_findCounted_30 : decode prog_8_method_14_code 30 = .ok (.iload_n 2, 1) := by decide +kernel
theorem d_M_findCounted_31 : decode prog_8_method_14_code 31 = .ok (.iastore, 1) := by decide +kernel
theorem d_M_findCounted_32 : decode prog_8_method_14_code 32 = .ok (.iinc 1 1, 3) := by decide +kernel
theorem d_M_findCounted_35 : decode prog_8_method_14_code 35 = .ok (.iinc 2 1, 3) := by decide +kernel
theorem d_M_findCounted_38 : decode prog_8_method_14_code 38 = .ok (.goto (-34), 3) := by decide +kernel
theorem d_M_findCounted_41 : decode prog_8_method_14_code 41 = .ok (.iload_n 1, 1) := by decide +kernel
theorem d_M_findCounted_42 : decode prog_8_method_14_code 42 = .ok (.ireturn, 1) := by decide +kernel
abbrev y_M_clearLoad : MethodName := ⟨"FrameTablesModel", "clearLoad", "()V"⟩
abbrev m_M_clearLoad : MethodName × ByteArray × Nat × Option FieldType := (y_M_clearLoad, prog_8_method_11_code, 2, none)
theorem mi_M_clearLoad : .code y_M_clearLoad prog_8_method_11_code 2 none ∈ wT := wT_m 679 (by decide +kernel) rfl
theorem d_M_clearLoad_0 : decode prog_8_method_11_code 0 = .ok (.iconst 0, 1) := by decide +kernel
theorem d_M_clearLoad_1 : decode prog_8_method_11_code 1 = .ok (.istore_n 1, 1) := by decide +kernel
theorem d_M_clearLoad_2 : decode prog_8_method_11_code 2 = .ok (.iload_n 1, 1) := by decide +kernel
theorem d_M_clearLoad_3 : decode prog_8_method_11_code 3 = .ok (.sipush 420, 3) := by decide +kernel
theorem d_M_clearLoad_6 : decode prog_8_method_11_code 6 = .ok (.if_icmp .ge 16, 3) := by decide +kernel
theorem d_M_clearLoad_9 : decode prog_8_method_11_code 9 = .ok (.aload_n 0, 1) := by decide +kernel
theorem d_M_clearLoad_10 : decode prog_8_method_11_code 10 = .ok (.getfield 37, 3) := by decide +kernel
theorem d_M_clearLoad_13 : decode prog_8_method_11_code 13 = .ok (.iload_n 1, 1) := by decide +kernel
theorem d_M_clearLoad_14 : decode prog_8_method_11_code 14 = .ok (.iconst 0, 1) := by decide +kernel
theorem d_M_clearLoad_15 : decode prog_8_method_11_code 15 = .ok (.iastore, 1) := by decide +kernel
theorem d_M_clearLoad_16 : decode prog_8_method_11_code 16 = .ok (.iinc 1 1, 3) := by decide +kernel
theorem d_M_clearLoad_19 : decode prog_8_method_11_code 19 = .ok (.goto (-17), 3) := by decide +kernel
theorem d_M_clearLoad_22 : decode prog_8_method_11_code 22 = .ok (.return_, 1) := by decide +kernel
abbrev y_M_search : MethodName := ⟨"FrameTablesModel", "search", "(IJ)Z"⟩
abbrev m_M_search : MethodName × ByteArray × Nat × Option FieldType := (y_M_search, prog_8_method_15_code, 12, some .boolean)
theorem mi_M_search : .code y_M_search prog_8_method_15_code 12 (some .boolean) ∈ wT := wT_m 683 (by decide +kernel) rfl
theorem d_M_search_0 : decode prog_8_method_15_code 0 = .ok (.lload_n 2, 1) := by decide +kernel
theorem d_M_search_1 : decode prog_8_method_15_code 1 = .ok (.lstore 4, 2) := by decide +kernel
theorem d_M_search_3 : decode prog_8_method_15_code 3 = .ok (.bipush 41, 2) := by decide +kernel
theorem d_M_search_5 : decode prog_8_method_15_code 5 = .ok (.istore 6, 2) := by decide +kernel
theorem d_M_search_7 : decode prog_8_method_15_code 7 = .ok (.iconst 0, 1) := by decide +kernel
theorem d_M_search_8 : decode prog_8_method_15_code 8 = .ok (.istore 7, 2) := by decide +kernel
theorem d_M_search_10 : decode prog_8_method_15_code 10 = .ok (.iconst 0, 1) := by decide +kernel
theorem d_M_search_11 : decode prog_8_method_15_code 11 = .ok (.istore 8, 2) := by decide +kernel
theorem d_M_search_13 : decode prog_8_method_15_code 13 = .ok (.iload_n 1, 1) := by decide +kernel
theorem d_M_search_14 : decode prog_8_method_15_code 14 = .ok (.ifCond .ne 5, 3) := by decide +kernel
theorem d_M_search_17 : decode prog_8_method_15_code 17 = .ok (.iconst 1, 1) := by decide +kernel
theorem d_M_search_18 : decode prog_8_method_15_code 18 = .ok (.ireturn, 1) := by decide +kernel
theorem d_M_search_19 : decode prog_8_method_15_code 19 = .ok (.aload_n 0, 1) := by decide +kernel
theorem d_M_search_20 : decode prog_8_method_15_code 20 = .ok (.getfield 40, 3) := by decide +kernel
theorem d_M_search_23 : decode prog_8_method_15_code 23 = .ok (.iconst 0, 1) := by decide +kernel
theorem d_M_search_24 : decode prog_8_method_15_code 24 = .ok (.iconst (-1), 1) := by decide +kernel
theorem d_M_search_25 : decode prog_8_method_15_code 25 = .ok (.iastore, 1) := by decide +kernel
theorem d_M_search_26 : decode prog_8_method_15_code 26 = .ok (.iload 8, 2) := by decide +kernel
theorem d_M_search_28 : decode prog_8_method_15_code 28 = .ok (.ifCond .lt 201, 3) := by decide +kernel
theorem d_M_search_31 : decode prog_8_method_15_code 31 = .ok (.aload_n 0, 1) := by decide +kernel
theorem d_M_search_32 : decode prog_8_method_15_code 32 = .ok (.getfield 43, 3) := by decide +kernel
theorem d_M_search_35 : decode prog_8_method_15_code 35 = .ok (.iload 8, 2) := by decide +kernel
theorem d_M_search_37 : decode prog_8_method_15_code 37 = .ok (.iaload, 1) := by decide +kernel
theorem d_M_search_38 : decode prog_8_method_15_code 38 = .ok (.istore 9, 2) := by decide +kernel
theorem d_M_search_40 : decode prog_8_method_15_code 40 = .ok (.aload_n 0, 1) := by decide +kernel
theorem d_M_search_41 : decode prog_8_method_15_code 41 = .ok (.getfield 40, 3) := by decide +kernel
theorem d_M_search_44 : decode prog_8_method_15_code 44 = .ok (.iload 8, 2) := by decide +kernel
theorem d_M_search_46 : decode prog_8_method_15_code 46 = .ok (.iaload, 1) := by decide +kernel
theorem d_M_search_47 : decode prog_8_method_15_code 47 = .ok (.ifCond .lt 17, 3) := by decide +kernel
theorem d_M_search_50 : decode prog_8_method_15_code 50 = .ok (.aload_n 0, 1) := by decide +kernel
theorem d_M_search_51 : decode prog_8_method_15_code 51 = .ok (.iload 9, 2) := by decide +kernel
theorem d_M_search_53 : decode prog_8_method_15_code 53 = .ok (.aload_n 0, 1) := by decide +kernel
theorem d_M_search_54 : decode prog_8_method_15_code 54 = .ok (.getfield 40, 3) := by decide +kernel
theorem d_M_search_57 : decode prog_8_method_15_code 57 = .ok (.iload 8, 2) := by decide +kernel
theorem d_M_search_59 : decode prog_8_method_15_code 59 = .ok (.iaload, 1) := by decide +kernel
theorem d_M_search_60 : decode prog_8_method_15_code 60 = .ok (.iconst (-1), 1) := by decide +kernel
theorem d_M_search_61 : decode prog_8_method_15_code 61 = .ok (.invokevirtual 87, 3) := by decide +kernel
theorem d_M_search_64 : decode prog_8_method_15_code 64 = .ok (.aload_n 0, 1) := by decide +kernel
theorem d_M_search_65 : decode prog_8_method_15_code 65 = .ok (.getfield 40, 3) := by decide +kernel
theorem d_M_search_68 : decode prog_8_method_15_code 68 = .ok (.iload 8, 2) := by decide +kernel
theorem d_M_search_70 : decode prog_8_method_15_code 70 = .ok (.iaload, 1) := by decide +kernel
theorem d_M_search_71 : decode prog_8_method_15_code 71 = .ok (.iconst 1, 1) := by decide +kernel
theorem d_M_search_72 : decode prog_8_method_15_code 72 = .ok (.iadd, 1) := by decide +kernel
theorem d_M_search_73 : decode prog_8_method_15_code 73 = .ok (.aload_n 0, 1) := by decide +kernel
theorem d_M_search_74 : decode prog_8_method_15_code 74 = .ok (.getfield 13, 3) := by decide +kernel
theorem d_M_search_77 : decode prog_8_method_15_code 77 = .ok (.iload 9, 2) := by decide +kernel
theorem d_M_search_79 : decode prog_8_method_15_code 79 = .ok (.iaload, 1) := by decide +kernel
theorem d_M_search_80 : decode prog_8_method_15_code 80 = .ok (.if_icmp .eq 12, 3) := by decide +kernel
theorem d_M_search_83 : decode prog_8_method_15_code 83 = .ok (.aload_n 0, 1) := by decide +kernel
theorem d_M_search_84 : decode prog_8_method_15_code 84 = .ok (.invokevirtual 91, 3) := by decide +kernel
theorem d_M_search_87 : decode prog_8_method_15_code 87 = .ok (.iload 6, 2) := by decide +kernel
theorem d_M_search_89 : decode prog_8_method_15_code 89 = .ok (.if_icmp .lt 9, 3) := by decide +kernel
theorem d_M_search_92 : decode prog_8_method_15_code 92 = .ok (.iinc 8 (-1), 3) := by decide +kernel
theorem d_M_search_95 : decode prog_8_method_15_code 95 = .ok (.goto (-69), 3) := by decide +kernel
theorem d_M_search_98 : decode prog_8_method_15_code 98 = .ok (.lload 4, 2) := by decide +kernel
theorem d_M_search_100 : decode prog_8_method_15_code 100 = .ok (.lconst 0, 1) := by decide +kernel
theorem d_M_search_101 : decode prog_8_method_15_code 101 = .ok (.lcmp, 1) := by decide +kernel
theorem d_M_search_102 : decode prog_8_method_15_code 102 = .ok (.ifCond .ne 15, 3) := by decide +kernel
theorem d_M_search_105 : decode prog_8_method_15_code 105 = .ok (.iload 7, 2) := by decide +kernel
theorem d_M_search_107 : decode prog_8_method_15_code 107 = .ok (.ifCond .eq 8, 3) := by decide +kernel
theorem d_M_search_110 : decode prog_8_method_15_code 110 = .ok (.aload_n 0, 1) := by decide +kernel
theorem d_M_search_111 : decode prog_8_method_15_code 111 = .ok (.iload_n 1, 1) := by decide +kernel
theorem d_M_search_112 : decode prog_8_method_15_code 112 = .ok (.invokevirtual 95, 3) := by decide +kernel
theorem d_M_search_115 : decode prog_8_method_15_code 115 = .ok (.iconst 0, 1) := by decide +kernel
theorem d_M_search_116 : decode prog_8_method_15_code 116 = .ok (.ireturn, 1) := by decide +kernel
theorem d_M_search_117 : decode prog_8_method_15_code 117 = .ok (.lload 4, 2) := by decide +kernel
theorem d_M_search_119 : decode prog_8_method_15_code 119 = .ok (.lconst 1, 1) := by decide +kernel
theorem d_M_search_120 : decode prog_8_method_15_code 120 = .ok (.lsub, 1) := by decide +kernel
theorem d_M_search_121 : decode prog_8_method_15_code 121 = .ok (.lstore 4, 2) := by decide +kernel
theorem d_M_search_123 : decode prog_8_method_15_code 123 = .ok (.aload_n 0, 1) := by decide +kernel
theorem d_M_search_124 : decode prog_8_method_15_code 124 = .ok (.getfield 40, 3) := by decide +kernel
theorem d_M_search_127 : decode prog_8_method_15_code 127 = .ok (.iload 8, 2) := by decide +kernel
theorem d_M_search_129 : decode prog_8_method_15_code 129 = .ok (.dup2, 1) := by decide +kernel
theorem d_M_search_130 : decode prog_8_method_15_code 130 = .ok (.iaload, 1) := by decide +kernel
theorem d_M_search_131 : decode prog_8_method_15_code 131 = .ok (.iconst 1, 1) := by decide +kernel
theorem d_M_search_132 : decode prog_8_method_15_code 132 = .ok (.iadd, 1) := by decide +kernel
theorem d_M_search_133 : decode prog_8_method_15_code 133 = .ok (.iastore, 1) := by decide +kernel
theorem d_M_search_134 : decode prog_8_method_15_code 134 = .ok (.aload_n 0, 1) := by decide +kernel
theorem d_M_search_135 : decode prog_8_method_15_code 135 = .ok (.iload 9, 2) := by decide +kernel
theorem d_M_search_137 : decode prog_8_method_15_code 137 = .ok (.aload_n 0, 1) := by decide +kernel
theorem d_M_search_138 : decode prog_8_method_15_code 138 = .ok (.getfield 40, 3) := by decide +kernel
theorem d_M_search_141 : decode prog_8_method_15_code 141 = .ok (.iload 8, 2) := by decide +kernel
theorem d_M_search_143 : decode prog_8_method_15_code 143 = .ok (.iaload, 1) := by decide +kernel
theorem d_M_search_144 : decode prog_8_method_15_code 144 = .ok (.iconst 1, 1) := by decide +kernel
theorem d_M_search_145 : decode prog_8_method_15_code 145 = .ok (.invokevirtual 87, 3) := by decide +kernel
theorem d_M_search_148 : decode prog_8_method_15_code 148 = .ok (.aload_n 0, 1) := by decide +kernel
theorem d_M_search_149 : decode prog_8_method_15_code 149 = .ok (.invokevirtual 91, 3) := by decide +kernel
theorem d_M_search_152 : decode prog_8_method_15_code 152 = .ok (.istore 10, 2) := by decide +kernel
theorem d_M_search_154 : decode prog_8_method_15_code 154 = .ok (.iload 10, 2) := by decide +kernel
theorem d_M_search_156 : decode prog_8_method_15_code 156 = .ok (.iload 6, 2) := by decide +kernel
theorem d_M_search_158 : decode prog_8_method_15_code 158 = .ok (.if_icmp .ge 25, 3) := by decide +kernel
theorem d_M_search_161 : decode prog_8_method_15_code 161 = .ok (.iload 8, 2) := by decide +kernel
theorem d_M_search_163 : decode prog_8_method_15_code 163 = .ok (.iconst 1, 1) := by decide +kernel
theorem d_M_search_164 : decode prog_8_method_15_code 164 = .ok (.iadd, 1) := by decide +kernel
theorem d_M_search_165 : decode prog_8_method_15_code 165 = .ok (.iload_n 1, 1) := by decide +kernel
theorem d_M_search_166 : decode prog_8_method_15_code 166 = .ok (.if_icmp .ge 17, 3) := by decide +kernel
theorem d_M_search_169 : decode prog_8_method_15_code 169 = .ok (.iinc 8 1, 3) := by decide +kernel
theorem d_M_search_172 : decode prog_8_method_15_code 172 = .ok (.aload_n 0, 1) := by decide +kernel
theorem d_M_search_173 : decode prog_8_method_15_code 173 = .ok (.getfield 40, 3) := by decide +kernel
theorem d_M_search_176 : decode prog_8_method_15_code 176 = .ok (.iload 8, 2) := by decide +kernel
theorem d_M_search_178 : decode prog_8_method_15_code 178 = .ok (.iconst (-1), 1) := by decide +kernel
theorem d_M_search_179 : decode prog_8_method_15_code 179 = .ok (.iastore, 1) := by decide +kernel
theorem d_M_search_180 : decode prog_8_method_15_code 180 = .ok (.goto 46, 3) := by decide +kernel
theorem d_M_search_183 : decode prog_8_method_15_code 183 = .ok (.iload 10, 2) := by decide +kernel
theorem d_M_search_185 : decode prog_8_method_15_code 185 = .ok (.iload 6, 2) := by decide +kernel
theorem d_M_search_187 : decode prog_8_method_15_code 187 = .ok (.if_icmp .ge 39, 3) := by decide +kernel
theorem d_M_search_190 : decode prog_8_method_15_code 190 = .ok (.iload 10, 2) := by decide +kernel
theorem d_M_search_192 : decode prog_8_method_15_code 192 = .ok (.istore 6, 2) := by decide +kernel
theorem d_M_search_194 : decode prog_8_method_15_code 194 = .ok (.iconst 1, 1) := by decide +kernel
theorem d_M_search_195 : decode prog_8_method_15_code 195 = .ok (.istore 7, 2) := by decide +kernel
theorem d_M_search_197 : decode prog_8_method_15_code 197 = .ok (.iconst 0, 1) := by decide +kernel
theorem d_M_search_198 : decode prog_8_method_15_code 198 = .ok (.istore 11, 2) := by decide +kernel
theorem d_M_search_200 : decode prog_8_method_15_code 200 = .ok (.iload 11, 2) := by decide +kernel
theorem d_M_search_202 : decode prog_8_method_15_code 202 = .ok (.iload_n 1, 1) := by decide +kernel
theorem d_M_search_203 : decode prog_8_method_15_code 203 = .ok (.if_icmp .ge 23, 3) := by decide +kernel
theorem d_M_search_206 : decode prog_8_method_15_code 206 = .ok (.aload_n 0, 1) := by decide +kernel
theorem d_M_search_207 : decode prog_8_method_15_code 207 = .ok (.getfield 46, 3) := by decide +kernel
theorem d_M_search_210 : decode prog_8_method_15_code 210 = .ok (.iload 11, 2) := by decide +kernel
theorem d_M_search_212 : decode prog_8_method_15_code 212 = .ok (.aload_n 0, 1) := by decide +kernel
theorem d_M_search_213 : decode prog_8_method_15_code 213 = .ok (.getfield 40, 3) := by decide +kernel
theorem d_M_search_216 : decode prog_8_method_15_code 216 = .ok (.iload 11, 2) := by decide +kernel
theorem d_M_search_218 : decode prog_8_method_15_code 218 = .ok (.iaload, 1) := by decide +kernel
theorem d_M_search_219 : decode prog_8_method_15_code 219 = .ok (.iastore, 1) := by decide +kernel
theorem d_M_search_220 : decode prog_8_method_15_code 220 = .ok (.iinc 11 1, 3) := by decide +kernel
theorem d_M_search_223 : decode prog_8_method_15_code 223 = .ok (.goto (-23), 3) := by decide +kernel
theorem d_M_search_226 : decode prog_8_method_15_code 226 = .ok (.goto (-200), 3) := by decide +kernel
theorem d_M_search_229 : decode prog_8_method_15_code 229 = .ok (.aload_n 0, 1) := by decide +kernel
theorem d_M_search_230 : decode prog_8_method_15_code 230 = .ok (.iload_n 1, 1) := by decide +kernel
theorem d_M_search_231 : decode prog_8_method_15_code 231 = .ok (.invokevirtual 95, 3) := by decide +kernel
theorem d_M_search_234 : decode prog_8_method_15_code 234 = .ok (.iconst 1, 1) := by decide +kernel
theorem d_M_search_235 : decode prog_8_method_15_code 235 = .ok (.ireturn, 1) := by decide +kernel
abbrev y_M_begin : MethodName := ⟨"FrameTablesModel", "begin", "(III)V"⟩
abbrev m_M_begin : MethodName × ByteArray × Nat × Option FieldType := (y_M_begin, prog_8_method_12_code, 5, none)
theorem mi_M_begin : .code y_M_begin prog_8_method_12_code 5 none ∈ wT := wT_m 687 (by decide +kernel) rfl
theorem d_M_begin_0 : decode prog_8_method_12_code 0 = .ok (.iload_n 2, 1) := by decide +kernel
theorem d_M_begin_1 : decode prog_8_method_12_code 1 = .ok (.istore 4, 2) := by decide +kernel
theorem d_M_begin_3 : decode prog_8_method_12_code 3 = .ok (.iload 4, 2) := by decide +kernel
theorem d_M_begin_5 : decode prog_8_method_12_code 5 = .ok (.sipush 420, 3) := by decide +kernel
theorem d_M_begin_8 : decode prog_8_method_12_code 8 = .ok (.if_icmp .ge 28, 3) := by decide +kernel
theorem d_M_begin_11 : decode prog_8_method_12_code 11 = .ok (.aload_n 0, 1) := by decide +kernel
theorem d_M_begin_12 : decode prog_8_method_12_code 12 = .ok (.getfield 37, 3) := by decide +kernel
theorem d_M_begin_15 : decode prog_8_method_12_code 15 = .ok (.iload 4, 2) := by decide +kernel
theorem d_M_begin_17 : decode prog_8_method_12_code 17 = .ok (.dup2, 1) := by decide +kernel
theorem d_M_begin_18 : decode prog_8_method_12_code 18 = .ok (.iaload, 1) := by decide +kernel
theorem d_M_begin_19 : decode prog_8_method_12_code 19 = .ok (.iload_n 3, 1) := by decide +kernel
theorem d_M_begin_20 : decode prog_8_method_12_code 20 = .ok (.iadd, 1) := by decide +kernel
theorem d_M_begin_21 : decode prog_8_method_12_code 21 = .ok (.iastore, 1) := by decide +kernel
theorem d_M_begin_22 : decode prog_8_method_12_code 22 = .ok (.iload 4, 2) := by decide +kernel
theorem d_M_begin_24 : decode prog_8_method_12_code 24 = .ok (.aload_n 0, 1) := by decide +kernel
theorem d_M_begin_25 : decode prog_8_method_12_code 25 = .ok (.getfield 13, 3) := by decide +kernel
theorem d_M_begin_28 : decode prog_8_method_12_code 28 = .ok (.iload_n 1, 1) := by decide +kernel
theorem d_M_begin_29 : decode prog_8_method_12_code 29 = .ok (.iaload, 1) := by decide +kernel
theorem d_M_begin_30 : decode prog_8_method_12_code 30 = .ok (.iadd, 1) := by decide +kernel
theorem d_M_begin_31 : decode prog_8_method_12_code 31 = .ok (.istore 4, 2) := by decide +kernel
theorem d_M_begin_33 : decode prog_8_method_12_code 33 = .ok (.goto (-30), 3) := by decide +kernel
theorem d_M_begin_36 : decode prog_8_method_12_code 36 = .ok (.return_, 1) := by decide +kernel
abbrev y_M_peak : MethodName := ⟨"FrameTablesModel", "peak", "()I"⟩
abbrev m_M_peak : MethodName × ByteArray × Nat × Option FieldType := (y_M_peak, prog_8_method_13_code, 3, some .int)
theorem mi_M_peak : .code y_M_peak prog_8_method_13_code 3 (some .int) ∈ wT := wT_m 691 (by decide +kernel) rfl
theorem d_M_peak_0 : decode prog_8_method_13_code 0 = .ok (.iconst 0, 1) := by decide +kernel
theorem d_M_peak_1 : decode prog_8_method_13_code 1 = .ok (.istore_n 1, 1) := by decide +kernel
theorem d_M_peak_2 : decode prog_8_method_13_code 2 = .ok (.iconst 0, 1) := by decide +kernel
theorem d_M_peak_3 : decode prog_8_method_13_code 3 = .ok (.istore_n 2, 1) := by decide +kernel
theorem d_M_peak_4 : decode prog_8_method_13_code 4 = .ok (.iload_n 2, 1) := by decide +kernel
theorem d_M_peak_5 : decode prog_8_method_13_code 5 = .ok (.sipush 420, 3) := by decide +kernel
theorem d_M_peak_8 : decode prog_8_method_13_code 8 = .ok (.if_icmp .ge 30, 3) := by decide +kernel
theorem d_M_peak_11 : decode prog_8_method_13_code 11 = .ok (.aload_n 0, 1) := by decide +kernel
theorem d_M_peak_12 : decode prog_8_method_13_code 12 = .ok (.getfield 37, 3) := by decide +kernel
theorem d_M_peak_15 : decode prog_8_method_13_code 15 = .ok (.iload_n 2, 1) := by decide +kernel
theorem d_M_peak_16 : decode prog_8_method_13_code 16 = .ok (.iaload, 1) := by decide +kernel
theorem d_M_peak_17 : decode prog_8_method_13_code 17 = .ok (.iload_n 1, 1) := by decide +kernel
theorem d_M_peak_18 : decode prog_8_method_13_code 18 = .ok (.if_icmp .le 12, 3) := by decide +kernel
theorem d_M_peak_21 : decode prog_8_method_13_code 21 = .ok (.aload_n 0, 1) := by decide +kernel
theorem d_M_peak_22 : decode prog_8_method_13_code 22 = .ok (.getfield 37, 3) := by decide +kernel
theorem d_M_peak_25 : decode prog_8_method_13_code 25 = .ok (.iload_n 2, 1) := by decide +kernel
theorem d_M_peak_26 : decode prog_8_method_13_code 26 = .ok (.iaload, 1) := by decide +kernel
theorem d_M_peak_27 : decode prog_8_method_13_code 27 = .ok (.goto 4, 3) := by decide +kernel
theorem d_M_peak_30 : decode prog_8_method_13_code 30 = .ok (.iload_n 1, 1) := by decide +kernel
theorem d_M_peak_31 : decode prog_8_method_13_code 31 = .ok (.istore_n 1, 1) := by decide +kernel
theorem d_M_peak_32 : decode prog_8_method_13_code 32 = .ok (.iinc 2 1, 3) := by decide +kernel
theorem d_M_peak_35 : decode prog_8_method_13_code 35 = .ok (.goto (-31), 3) := by decide +kernel
theorem d_M_peak_38 : decode prog_8_method_13_code 38 = .ok (.iload_n 1, 1) := by decide +kernel
theorem d_M_peak_39 : decode prog_8_method_13_code 39 = .ok (.ireturn, 1) := by decide +kernel
abbrev y_M_takeBest : MethodName := ⟨"FrameTablesModel", "takeBest", "(I)V"⟩
abbrev m_M_takeBest : MethodName × ByteArray × Nat × Option FieldType := (y_M_takeBest, prog_8_method_16_code, 3, none)
theorem mi_M_takeBest : .code y_M_takeBest prog_8_method_16_code 3 none ∈ wT := wT_m 695 (by decide +kernel) rfl
theorem d_M_takeBest_0 : decode prog_8_method_16_code 0 = .ok (.iconst 0, 1) := by decide +kernel
theorem d_M_takeBest_1 : decode prog_8_method_16_code 1 = .ok (.istore_n 2, 1) := by decide +kernel
theorem d_M_takeBest_2 : decode prog_8_method_16_code 2 = .ok (.iload_n 2, 1) := by decide +kernel
theorem d_M_takeBest_3 : decode prog_8_method_16_code 3 = .ok (.iload_n 1, 1) := by decide +kernel
theorem d_M_takeBest_4 : decode prog_8_method_16_code 4 = .ok (.if_icmp .ge 26, 3) := by decide +kernel
theorem d_M_takeBest_7 : decode prog_8_method_16_code 7 = .ok (.aload_n 0, 1) := by decide +kernel
theorem d_M_takeBest_8 : decode prog_8_method_16_code 8 = .ok (.getfield 22, 3) := by decide +kernel
theorem d_M_takeBest_11 : decode prog_8_method_16_code 11 = .ok (.aload_n 0, 1) := by decide +kernel
theorem d_M_takeBest_12 : decode prog_8_method_16_code 12 = .ok (.getfield 43, 3) := by decide +kernel
theorem d_M_takeBest_15 : decode prog_8_method_16_code 15 = .ok (.iload_n 2, 1) := by decide +kernel
theorem d_M_takeBest_16 : decode prog_8_method_16_code 16 = .ok (.iaload, 1) := by decide +kernel
theorem d_M_takeBest_17 : decode prog_8_method_16_code 17 = .ok (.aload_n 0, 1) := by decide +kernel
theorem d_M_takeBest_18 : decode prog_8_method_16_code 18 = .ok (.getfield 46, 3) := by decide +kernel
theorem d_M_takeBest_21 : decode prog_8_method_16_code 21 = .ok (.iload_n 2, 1) := by decide +kernel
theorem d_M_takeBest_22 : decode prog_8_method_16_code 22 = .ok (.iaload, 1) := by decide +kernel
theorem d_M_takeBest_23 : decode prog_8_method_16_code 23 = .ok (.iastore, 1) := by decide +kernel
theorem d_M_takeBest_24 : decode prog_8_method_16_code 24 = .ok (.iinc 2 1, 3) := by decide +kernel
theorem d_M_takeBest_27 : decode prog_8_method_16_code 27 = .ok (.goto (-25), 3) := by decide +kernel
theorem d_M_takeBest_30 : decode prog_8_method_16_code 30 = .ok (.return_, 1) := by decide +kernel
abbrev y_M_at : MethodName := ⟨"FrameTablesModel", "at", "(I)I"⟩
abbrev m_M_at : MethodName × ByteArray × Nat × Option FieldType := (y_M_at, prog_8_method_18_code, 2, some .int)
theorem mi_M_at : .code y_M_at prog_8_method_18_code 2 (some .int) ∈ wT := wT_m 699 (by decide +kernel) rfl
theorem d_M_at_0 : decode prog_8_method_18_code 0 = .ok (.aload_n 0, 1) := by decide +kernel
theorem d_M_at_1 : decode prog_8_method_18_code 1 = .ok (.iconst 0, 1) := by decide +kernel
theorem d_M_at_2 : decode prog_8_method_18_code 2 = .ok (.putfield 49, 3) := by decide +kernel
theorem d_M_at_5 : decode prog_8_method_18_code 5 = .ok (.aload_n 0, 1) := by decide +kernel
theorem d_M_at_6 : decode prog_8_method_18_code 6 = .ok (.iload_n 1, 1) := by decide +kernel
theorem d_M_at_7 : decode prog_8_method_18_code 7 = .ok (.invokevirtual 70, 3) := by decide +kernel
theorem d_M_at_10 : decode prog_8_method_18_code 10 = .ok (.ifCond .eq 12, 3) := by decide +kernel
theorem d_M_at_13 : decode prog_8_method_18_code 13 = .ok (.aload_n 0, 1) := by decide +kernel
theorem d_M_at_14 : decode prog_8_method_18_code 14 = .ok (.getfield 22, 3) := by decide +kernel
theorem d_M_at_17 : decode prog_8_method_18_code 17 = .ok (.iload_n 1, 1) := by decide +kernel
theorem d_M_at_18 : decode prog_8_method_18_code 18 = .ok (.iaload, 1) := by decide +kernel
theorem d_M_at_19 : decode prog_8_method_18_code 19 = .ok (.goto 4, 3) := by decide +kernel
theorem d_M_at_22 : decode prog_8_method_18_code 22 = .ok (.iconst (-1), 1) := by decide +kernel
theorem d_M_at_23 : decode prog_8_method_18_code 23 = .ok (.ireturn, 1) := by decide +kernel
abbrev y_M_exact : MethodName := ⟨"FrameTablesModel", "exact", "()Z"⟩
abbrev m_M_exact : MethodName × ByteArray × Nat × Option FieldType := (y_M_exact, prog_8_method_19_code, 1, some .boolean)
theorem mi_M_exact : .code y_M_exact prog_8_method_19_code 1 (some .boolean) ∈ wT := wT_m 703 (by decide +kernel) rfl
theorem d_M_exact_0 : decode prog_8_method_19_code 0 = .ok (.aload_n 0, 1) := by decide +kernel
theorem d_M_exact_1 : decode prog_8_method_19_code 1 = .ok (.iconst 0, 1) := by decide +kernel
theorem d_M_exact_2 : decode prog_8_method_19_code 2 = .ok (.putfield 49, 3) := by decide +kernel
theorem d_M_exact_5 : decode prog_8_method_19_code 5 = .ok (.aload_n 0, 1) := by decide +kernel
theorem d_M_exact_6 : decode prog_8_method_19_code 6 = .ok (.getfield 66, 3) := by decide +kernel
theorem d_M_exact_9 : decode prog_8_method_19_code 9 = .ok (.ireturn, 1) := by decide +kernel
abbrev y_M_gap : MethodName := ⟨"FrameTablesModel", "gap", "(II)I"⟩
abbrev m_M_gap : MethodName × ByteArray × Nat × Option FieldType := (y_M_gap, prog_8_method_20_code, 3, some .int)
theorem mi_M_gap : .code y_M_gap prog_8_method_20_code 3 (some .int) ∈ wT := wT_m 707 (by decide +kernel) rfl
theorem d_M_gap_0 : decode prog_8_method_20_code 0 = .ok (.aload_n 0, 1) := by decide +kernel
theorem d_M_gap_1 : decode prog_8_method_20_code 1 = .ok (.iconst 0, 1) := by decide +kernel
theorem d_M_gap_2 : decode prog_8_method_20_code 2 = .ok (.putfield 49, 3) := by decide +kernel
theorem d_M_gap_5 : decode prog_8_method_20_code 5 = .ok (.aload_n 0, 1) := by decide +kernel
theorem d_M_gap_6 : decode prog_8_method_20_code 6 = .ok (.iload_n 1, 1) := by decide +kernel
theorem d_M_gap_7 : decode prog_8_method_20_code 7 = .ok (.invokevirtual 70, 3) := by decide +kernel
theorem d_M_gap_10 : decode prog_8_method_20_code 10 = .ok (.ifCond .ne 5, 3) := by decide +kernel
theorem d_M_gap_13 : decode prog_8_method_20_code 13 = .ok (.iconst (-1), 1) := by decide +kernel
theorem d_M_gap_14 : decode prog_8_method_20_code 14 = .ok (.ireturn, 1) := by decide +kernel
theorem d_M_gap_15 : decode prog_8_method_20_code 15 = .ok (.iload_n 2, 1) := by decide +kernel
theorem d_M_gap_16 : decode prog_8_method_20_code 16 = .ok (.i2l, 1) := by decide +kernel
theorem d_M_gap_17 : decode prog_8_method_20_code 17 = .ok (.lconst 0, 1) := by decide +kernel
theorem d_M_gap_18 : decode prog_8_method_20_code 18 = .ok (.aload_n 0, 1) := by decide +kernel
theorem d_M_gap_19 : decode prog_8_method_20_code 19 = .ok (.getfield 13, 3) := by decide +kernel
theorem d_M_gap_22 : decode prog_8_method_20_code 22 = .ok (.iload_n 1, 1) := by decide +kernel
theorem d_M_gap_23 : decode prog_8_method_20_code 23 = .ok (.iaload, 1) := by decide +kernel
theorem d_M_gap_24 : decode prog_8_method_20_code 24 = .ok (.i2l, 1) := by decide +kernel
theorem d_M_gap_25 : decode prog_8_method_20_code 25 = .ok (.invokestatic 56, 3) := by decide +kernel
theorem d_M_gap_28 : decode prog_8_method_20_code 28 = .ok (.ifCond .ne 6, 3) := by decide +kernel
theorem d_M_gap_31 : decode prog_8_method_20_code 31 = .ok (.bipush (-2), 2) := by decide +kernel
theorem d_M_gap_33 : decode prog_8_method_20_code 33 = .ok (.ireturn, 1) := by decide +kernel
theorem d_M_gap_34 : decode prog_8_method_20_code 34 = .ok (.aload_n 0, 1) := by decide +kernel
theorem d_M_gap_35 : decode prog_8_method_20_code 35 = .ok (.getfield 19, 3) := by decide +kernel
theorem d_M_gap_38 : decode prog_8_method_20_code 38 = .ok (.iload_n 1, 1) := by decide +kernel
theorem d_M_gap_39 : decode prog_8_method_20_code 39 = .ok (.iload_n 2, 1) := by decide +kernel
theorem d_M_gap_40 : decode prog_8_method_20_code 40 = .ok (.iastore, 1) := by decide +kernel
theorem d_M_gap_41 : decode prog_8_method_20_code 41 = .ok (.iconst 1, 1) := by decide +kernel
theorem d_M_gap_42 : decode prog_8_method_20_code 42 = .ok (.ireturn, 1) := by decide +kernel
abbrev y_M_check : MethodName := ⟨"FrameTablesModel", "check", "()I"⟩
abbrev m_M_check : MethodName × ByteArray × Nat × Option FieldType := (y_M_check, prog_8_method_22_code, 3, some .int)
theorem mi_M_check : .code y_M_check prog_8_method_22_code 3 (some .int) ∈ wT := wT_m 711 (by decide +kernel) rfl
theorem d_M_check_0 : decode prog_8_method_22_code 0 = .ok (.aload_n 0, 1) := by decide +kernel
theorem d_M_check_1 : decode prog_8_method_22_code 1 = .ok (.iconst 0, 1) := by decide +kernel
theorem d_M_check_2 : decode prog_8_method_22_code 2 = .ok (.putfield 49, 3) := by decide +kernel
theorem d_M_check_5 : decode prog_8_method_22_code 5 = .ok (.iconst 1, 1) := by decide +kernel
theorem d_M_check_6 : decode prog_8_method_22_code 6 = .ok (.istore_n 1, 1) := by decide +kernel
theorem d_M_check_7 : decode prog_8_method_22_code 7 = .ok (.iload_n 1, 1) := by decide +kernel
theorem d_M_check_8 : decode prog_8_method_22_code 8 = .ok (.iconst 5, 1) := by decide +kernel
theorem d_M_check_9 : decode prog_8_method_22_code 9 = .ok (.if_icmp .ge 42, 3) := by decide +kernel
theorem d_M_check_12 : decode prog_8_method_22_code 12 = .ok (.iconst 1, 1) := by decide +kernel
theorem d_M_check_13 : decode prog_8_method_22_code 13 = .ok (.istore_n 2, 1) := by decide +kernel
theorem d_M_check_14 : decode prog_8_method_22_code 14 = .ok (.iload_n 2, 1) := by decide +kernel
theorem d_M_check_15 : decode prog_8_method_22_code 15 = .ok (.aload_n 0, 1) := by decide +kernel
theorem d_M_check_16 : decode prog_8_method_22_code 16 = .ok (.getfield 53, 3) := by decide +kernel
theorem d_M_check_19 : decode prog_8_method_22_code 19 = .ok (.if_icmp .gt 26, 3) := by decide +kernel
theorem d_M_check_22 : decode prog_8_method_22_code 22 = .ok (.aload_n 0, 1) := by decide +kernel
theorem d_M_check_23 : decode prog_8_method_22_code 23 = .ok (.iload_n 1, 1) := by decide +kernel
theorem d_M_check_24 : decode prog_8_method_22_code 24 = .ok (.iload_n 2, 1) := by decide +kernel
theorem d_M_check_25 : decode prog_8_method_22_code 25 = .ok (.invokevirtual 111, 3) := by decide +kernel
theorem d_M_check_28 : decode prog_8_method_22_code 28 = .ok (.ifCond .eq 11, 3) := by decide +kernel
theorem d_M_check_31 : decode prog_8_method_22_code 31 = .ok (.sipush 1000, 3) := by decide +kernel
theorem d_M_check_34 : decode prog_8_method_22_code 34 = .ok (.iload_n 1, 1) := by decide +kernel
theorem d_M_check_35 : decode prog_8_method_22_code 35 = .ok (.imul, 1) := by decide +kernel
theorem d_M_check_36 : decode prog_8_method_22_code 36 = .ok (.iload_n 2, 1) := by decide +kernel
theorem d_M_check_37 : decode prog_8_method_22_code 37 = .ok (.iadd, 1) := by decide +kernel
theorem d_M_check_38 : decode prog_8_method_22_code 38 = .ok (.ireturn, 1) := by decide +kernel
theorem d_M_check_39 : decode prog_8_method_22_code 39 = .ok (.iinc 2 1, 3) := by decide +kernel
theorem d_M_check_42 : decode prog_8_method_22_code 42 = .ok (.goto (-28), 3) := by decide +kernel
theorem d_M_check_45 : decode prog_8_method_22_code 45 = .ok (.iinc 1 1, 3) := by decide +kernel
theorem d_M_check_48 : decode prog_8_method_22_code 48 = .ok (.goto (-41), 3) := by decide +kernel
theorem d_M_check_51 : decode prog_8_method_22_code 51 = .ok (.iconst 0, 1) := by decide +kernel
theorem d_M_check_52 : decode prog_8_method_22_code 52 = .ok (.ireturn, 1) := by decide +kernel
abbrev y_M_isWrong : MethodName := ⟨"FrameTablesModel", "isWrong", "(II)Z"⟩
abbrev m_M_isWrong : MethodName × ByteArray × Nat × Option FieldType := (y_M_isWrong, prog_8_method_21_code, 5, some .boolean)
theorem mi_M_isWrong : .code y_M_isWrong prog_8_method_21_code 5 (some .boolean) ∈ wT := wT_m 715 (by decide +kernel) rfl
theorem d_M_isWrong_0 : decode prog_8_method_21_code 0 = .ok (.iload_n 1, 1) := by decide +kernel
theorem d_M_isWrong_1 : decode prog_8_method_21_code 1 = .ok (.iconst 1, 1) := by decide +kernel
theorem d_M_isWrong_2 : decode prog_8_method_21_code 2 = .ok (.if_icmp .ne 17, 3) := by decide +kernel
theorem d_M_isWrong_5 : decode prog_8_method_21_code 5 = .ok (.aload_n 0, 1) := by decide +kernel
theorem d_M_isWrong_6 : decode prog_8_method_21_code 6 = .ok (.iload_n 2, 1) := by decide +kernel
theorem d_M_isWrong_7 : decode prog_8_method_21_code 7 = .ok (.invokevirtual 80, 3) := by decide +kernel
theorem d_M_isWrong_10 : decode prog_8_method_21_code 10 = .ok (.ifCond .ge 7, 3) := by decide +kernel
theorem d_M_isWrong_13 : decode prog_8_method_21_code 13 = .ok (.iconst 1, 1) := by decide +kernel
theorem d_M_isWrong_14 : decode prog_8_method_21_code 14 = .ok (.goto 4, 3) := by decide +kernel
theorem d_M_isWrong_17 : decode prog_8_method_21_code 17 = .ok (.iconst 0, 1) := by decide +kernel
theorem d_M_isWrong_18 : decode prog_8_method_21_code 18 = .ok (.ireturn, 1) := by decide +kernel
theorem d_M_isWrong_19 : decode prog_8_method_21_code 19 = .ok (.iload_n 1, 1) := by decide +kernel
theorem d_M_isWrong_20 : decode prog_8_method_21_code 20 = .ok (.iconst 2, 1) := by decide +kernel
theorem d_M_isWrong_21 : decode prog_8_method_21_code 21 = .ok (.if_icmp .ne 17, 3) := by decide +kernel
theorem d_M_isWrong_24 : decode prog_8_method_21_code 24 = .ok (.aload_n 0, 1) := by decide +kernel
theorem d_M_isWrong_25 : decode prog_8_method_21_code 25 = .ok (.iload_n 2, 1) := by decide +kernel
theorem d_M_isWrong_26 : decode prog_8_method_21_code 26 = .ok (.invokevirtual 76, 3) := by decide +kernel
theorem d_M_isWrong_29 : decode prog_8_method_21_code 29 = .ok (.ifCond .ne 7, 3) := by decide +kernel
theorem d_M_isWrong_32 : decode prog_8_method_21_code 32 = .ok (.iconst 1, 1) := by decide +kernel
theorem d_M_isWrong_33 : decode prog_8_method_21_code 33 = .ok (.goto 4, 3) := by decide +kernel
theorem d_M_isWrong_36 : decode prog_8_method_21_code 36 = .ok (.iconst 0, 1) := by decide +kernel
theorem d_M_isWrong_37 : decode prog_8_method_21_code 37 = .ok (.ireturn, 1) := by decide +kernel
theorem d_M_isWrong_38 : decode prog_8_method_21_code 38 = .ok (.iconst 0, 1) := by decide +kernel
theorem d_M_isWrong_39 : decode prog_8_method_21_code 39 = .ok (.istore_n 3, 1) := by decide +kernel
theorem d_M_isWrong_40 : decode prog_8_method_21_code 40 = .ok (.iload_n 1, 1) := by decide +kernel
theorem d_M_isWrong_41 : decode prog_8_method_21_code 41 = .ok (.iconst 3, 1) := by decide +kernel
theorem d_M_isWrong_42 : decode prog_8_method_21_code 42 = .ok (.if_icmp .ne 67, 3) := by decide +kernel
theorem d_M_isWrong_45 : decode prog_8_method_21_code 45 = .ok (.iconst 1, 1) := by decide +kernel
theorem d_M_isWrong_46 : decode prog_8_method_21_code 46 = .ok (.istore 4, 2) := by decide +kernel
theorem d_M_isWrong_48 : decode prog_8_method_21_code 48 = .ok (.iload 4, 2) := by decide +kernel
theorem d_M_isWrong_50 : decode prog_8_method_21_code 50 = .ok (.bipush 20, 2) := by decide +kernel
theorem d_M_isWrong_52 : decode prog_8_method_21_code 52 = .ok (.if_icmp .gt 55, 3) := by decide +kernel
theorem d_M_isWrong_55 : decode prog_8_method_21_code 55 = .ok (.iload_n 3, 1) := by decide +kernel
theorem d_M_isWrong_56 : decode prog_8_method_21_code 56 = .ok (.ifCond .ne 39, 3) := by decide +kernel
theorem d_M_isWrong_59 : decode prog_8_method_21_code 59 = .ok (.aload_n 0, 1) := by decide +kernel
theorem d_M_isWrong_60 : decode prog_8_method_21_code 60 = .ok (.getfield 25, 3) := by decide +kernel
theorem d_M_isWrong_63 : decode prog_8_method_21_code 63 = .ok (.bipush 21, 2) := by decide +kernel
theorem d_M_isWrong_65 : decode prog_8_method_21_code 65 = .ok (.iload_n 2, 1) := by decide +kernel
theorem d_M_isWrong_66 : decode prog_8_method_21_code 66 = .ok (.imul, 1) := by decide +kernel
theorem d_M_isWrong_67 : decode prog_8_method_21_code 67 = .ok (.iload 4, 2) := by decide +kernel
theorem d_M_isWrong_69 : decode prog_8_method_21_code 69 = .ok (.iadd, 1) := by decide +kernel
theorem d_M_isWrong_70 : decode prog_8_method_21_code 70 = .ok (.iaload, 1) := by decide +kernel
theorem d_M_isWrong_71 : decode prog_8_method_21_code 71 = .ok (.ifCond .le 28, 3) := by decide +kernel
theorem d_M_isWrong_74 : decode prog_8_method_21_code 74 = .ok (.aload_n 0, 1) := by decide +kernel
theorem d_M_isWrong_75 : decode prog_8_method_21_code 75 = .ok (.getfield 25, 3) := by decide +kernel
theorem d_M_isWrong_78 : decode prog_8_method_21_code 78 = .ok (.bipush 21, 2) := by decide +kernel
theorem d_M_isWrong_80 : decode prog_8_method_21_code 80 = .ok (.iload_n 2, 1) := by decide +kernel
theorem d_M_isWrong_81 : decode prog_8_method_21_code 81 = .ok (.imul, 1) := by decide +kernel
theorem d_M_isWrong_82 : decode prog_8_method_21_code 82 = .ok (.iload 4, 2) := by decide +kernel
theorem d_M_isWrong_84 : decode prog_8_method_21_code 84 = .ok (.iadd, 1) := by decide +kernel
theorem d_M_isWrong_85 : decode prog_8_method_21_code 85 = .ok (.iaload, 1) := by decide +kernel
theorem d_M_isWrong_86 : decode prog_8_method_21_code 86 = .ok (.aload_n 0, 1) := by decide +kernel
theorem d_M_isWrong_87 : decode prog_8_method_21_code 87 = .ok (.getfield 13, 3) := by decide +kernel
theorem d_M_isWrong_90 : decode prog_8_method_21_code 90 = .ok (.iload_n 2, 1) := by decide +kernel
theorem d_M_isWrong_91 : decode prog_8_method_21_code 91 = .ok (.iaload, 1) := by decide +kernel
theorem d_M_isWrong_92 : decode prog_8_method_21_code 92 = .ok (.if_icmp .ge 7, 3) := by decide +kernel
theorem d_M_isWrong_95 : decode prog_8_method_21_code 95 = .ok (.iconst 1, 1) := by decide +kernel
theorem d_M_isWrong_96 : decode prog_8_method_21_code 96 = .ok (.goto 4, 3) := by decide +kernel
theorem d_M_isWrong_99 : decode prog_8_method_21_code 99 = .ok (.iconst 0, 1) := by decide +kernel
theorem d_M_isWrong_100 : decode prog_8_method_21_code 100 = .ok (.istore_n 3, 1) := by decide +kernel
theorem d_M_isWrong_101 : decode prog_8_method_21_code 101 = .ok (.iinc 4 1, 3) := by decide +kernel
theorem d_M_isWrong_104 : decode prog_8_method_21_code 104 = .ok (.goto (-56), 3) := by decide +kernel
theorem d_M_isWrong_107 : decode prog_8_method_21_code 107 = .ok (.iload_n 3, 1) := by decide +kernel
theorem d_M_isWrong_108 : decode prog_8_method_21_code 108 = .ok (.ireturn, 1) := by decide +kernel
theorem d_M_isWrong_109 : decode prog_8_method_21_code 109 = .ok (.iconst 1, 1) := by decide +kernel
theorem d_M_isWrong_110 : decode prog_8_method_21_code 110 = .ok (.istore 4, 2) := by decide +kernel
theorem d_M_isWrong_112 : decode prog_8_method_21_code 112 = .ok (.iload 4, 2) := by decide +kernel
theorem d_M_isWrong_114 : decode prog_8_method_21_code 114 = .ok (.iload_n 2, 1) := by decide +kernel
theorem d_M_isWrong_115 : decode prog_8_method_21_code 115 = .ok (.if_icmp .ge 67, 3) := by decide +kernel
theorem d_M_isWrong_118 : decode prog_8_method_21_code 118 = .ok (.iload_n 3, 1) := by decide +kernel
theorem d_M_isWrong_119 : decode prog_8_method_21_code 119 = .ok (.ifCond .ne 51, 3) := by decide +kernel
theorem d_M_isWrong_122 : decode prog_8_method_21_code 122 = .ok (.aload_n 0, 1) := by decide +kernel
theorem d_M_isWrong_123 : decode prog_8_method_21_code 123 = .ok (.getfield 7, 3) := by decide +kernel
theorem d_M_isWrong_126 : decode prog_8_method_21_code 126 = .ok (.iload 4, 2) := by decide +kernel
theorem d_M_isWrong_128 : decode prog_8_method_21_code 128 = .ok (.iaload, 1) := by decide +kernel
theorem d_M_isWrong_129 : decode prog_8_method_21_code 129 = .ok (.aload_n 0, 1) := by decide +kernel
theorem d_M_isWrong_130 : decode prog_8_method_21_code 130 = .ok (.getfield 7, 3) := by decide +kernel
theorem d_M_isWrong_133 : decode prog_8_method_21_code 133 = .ok (.iload_n 2, 1) := by decide +kernel
theorem d_M_isWrong_134 : decode prog_8_method_21_code 134 = .ok (.iaload, 1) := by decide +kernel
theorem d_M_isWrong_135 : decode prog_8_method_21_code 135 = .ok (.if_icmp .ne 39, 3) := by decide +kernel
theorem d_M_isWrong_138 : decode prog_8_method_21_code 138 = .ok (.aload_n 0, 1) := by decide +kernel
theorem d_M_isWrong_139 : decode prog_8_method_21_code 139 = .ok (.getfield 13, 3) := by decide +kernel
theorem d_M_isWrong_142 : decode prog_8_method_21_code 142 = .ok (.iload 4, 2) := by decide +kernel
theorem d_M_isWrong_144 : decode prog_8_method_21_code 144 = .ok (.iaload, 1) := by decide +kernel
theorem d_M_isWrong_145 : decode prog_8_method_21_code 145 = .ok (.aload_n 0, 1) := by decide +kernel
theorem d_M_isWrong_146 : decode prog_8_method_21_code 146 = .ok (.getfield 13, 3) := by decide +kernel
theorem d_M_isWrong_149 : decode prog_8_method_21_code 149 = .ok (.iload_n 2, 1) := by decide +kernel
theorem d_M_isWrong_150 : decode prog_8_method_21_code 150 = .ok (.iaload, 1) := by decide +kernel
theorem d_M_isWrong_151 : decode prog_8_method_21_code 151 = .ok (.if_icmp .ne 23, 3) := by decide +kernel
theorem d_M_isWrong_154 : decode prog_8_method_21_code 154 = .ok (.aload_n 0, 1) := by decide +kernel
theorem d_M_isWrong_155 : decode prog_8_method_21_code 155 = .ok (.getfield 16, 3) := by decide +kernel
theorem d_M_isWrong_158 : decode prog_8_method_21_code 158 = .ok (.iload 4, 2) := by decide +kernel
theorem d_M_isWrong_160 : decode prog_8_method_21_code 160 = .ok (.iaload, 1) := by decide +kernel
theorem d_M_isWrong_161 : decode prog_8_method_21_code 161 = .ok (.aload_n 0, 1) := by decide +kernel
theorem d_M_isWrong_162 : decode prog_8_method_21_code 162 = .ok (.getfield 16, 3) := by decide +kernel
theorem d_M_isWrong_165 : decode prog_8_method_21_code 165 = .ok (.iload_n 2, 1) := by decide +kernel
theorem d_M_isWrong_166 : decode prog_8_method_21_code 166 = .ok (.iaload, 1) := by decide +kernel
theorem d_M_isWrong_167 : decode prog_8_method_21_code 167 = .ok (.if_icmp .ne 7, 3) := by decide +kernel
theorem d_M_isWrong_170 : decode prog_8_method_21_code 170 = .ok (.iconst 1, 1) := by decide +kernel
theorem d_M_isWrong_171 : decode prog_8_method_21_code 171 = .ok (.goto 4, 3) := by decide +kernel
theorem d_M_isWrong_174 : decode prog_8_method_21_code 174 = .ok (.iconst 0, 1) := by decide +kernel
theorem d_M_isWrong_175 : decode prog_8_method_21_code 175 = .ok (.istore_n 3, 1) := by decide +kernel
theorem d_M_isWrong_176 : decode prog_8_method_21_code 176 = .ok (.iinc 4 1, 3) := by decide +kernel
theorem d_M_isWrong_179 : decode prog_8_method_21_code 179 = .ok (.goto (-67), 3) := by decide +kernel
theorem d_M_isWrong_182 : decode prog_8_method_21_code 182 = .ok (.iload_n 3, 1) := by decide +kernel
theorem d_M_isWrong_183 : decode prog_8_method_21_code 183 = .ok (.ireturn, 1) := by decide +kernel
abbrev y_M_sign : MethodName := ⟨"FrameTablesModel", "sign", "(I)V"⟩
abbrev m_M_sign : MethodName × ByteArray × Nat × Option FieldType := (y_M_sign, prog_8_method_24_code, 4, none)
theorem mi_M_sign : .code y_M_sign prog_8_method_24_code 4 none ∈ wT := wT_m 719 (by decide +kernel) rfl
theorem d_M_sign_0 : decode prog_8_method_24_code 0 = .ok (.aload_n 0, 1) := by decide +kernel
theorem d_M_sign_1 : decode prog_8_method_24_code 1 = .ok (.iconst 0, 1) := by decide +kernel
theorem d_M_sign_2 : decode prog_8_method_24_code 2 = .ok (.putfield 49, 3) := by decide +kernel
theorem d_M_sign_5 : decode prog_8_method_24_code 5 = .ok (.iconst 3, 1) := by decide +kernel
theorem d_M_sign_6 : decode prog_8_method_24_code 6 = .ok (.istore_n 2, 1) := by decide +kernel
theorem d_M_sign_7 : decode prog_8_method_24_code 7 = .ok (.iload_n 2, 1) := by decide +kernel
theorem d_M_sign_8 : decode prog_8_method_24_code 8 = .ok (.ifCond .lt 39, 3) := by decide +kernel
theorem d_M_sign_11 : decode prog_8_method_24_code 11 = .ok (.iload_n 1, 1) := by decide +kernel
theorem d_M_sign_12 : decode prog_8_method_24_code 12 = .ok (.bipush 8, 2) := by decide +kernel
theorem d_M_sign_14 : decode prog_8_method_24_code 14 = .ok (.iload_n 2, 1) := by decide +kernel
theorem d_M_sign_15 : decode prog_8_method_24_code 15 = .ok (.imul, 1) := by decide +kernel
theorem d_M_sign_16 : decode prog_8_method_24_code 16 = .ok (.ishr, 1) := by decide +kernel
theorem d_M_sign_17 : decode prog_8_method_24_code 17 = .ok (.sipush 255, 3) := by decide +kernel
theorem d_M_sign_20 : decode prog_8_method_24_code 20 = .ok (.iand, 1) := by decide +kernel
theorem d_M_sign_21 : decode prog_8_method_24_code 21 = .ok (.istore_n 3, 1) := by decide +kernel
theorem d_M_sign_22 : decode prog_8_method_24_code 22 = .ok (.iload_n 3, 1) := by decide +kernel
theorem d_M_sign_23 : decode prog_8_method_24_code 23 = .ok (.ifCond .eq 18, 3) := by decide +kernel
theorem d_M_sign_26 : decode prog_8_method_24_code 26 = .ok (.aload_n 0, 1) := by decide +kernel
theorem d_M_sign_27 : decode prog_8_method_24_code 27 = .ok (.getfield 115, 3) := by decide +kernel
theorem d_M_sign_30 : decode prog_8_method_24_code 30 = .ok (.sipush 2000, 3) := by decide +kernel
theorem d_M_sign_33 : decode prog_8_method_24_code 33 = .ok (.if_icmp .ge 8, 3) := by decide +kernel
theorem d_M_sign_36 : decode prog_8_method_24_code 36 = .ok (.aload_n 0, 1) := by decide +kernel
theorem d_M_sign_37 : decode prog_8_method_24_code 37 = .ok (.iload_n 3, 1) := by decide +kernel
theorem d_M_sign_38 : decode prog_8_method_24_code 38 = .ok (.invokevirtual 118, 3) := by decide +kernel
theorem d_M_sign_41 : decode prog_8_method_24_code 41 = .ok (.iinc 2 (-1), 3) := by decide +kernel
theorem d_M_sign_44 : decode prog_8_method_24_code 44 = .ok (.goto (-37), 3) := by decide +kernel
theorem d_M_sign_47 : decode prog_8_method_24_code 47 = .ok (.return_, 1) := by decide +kernel
abbrev y_M_type : MethodName := ⟨"FrameTablesModel", "type", "(I)V"⟩
abbrev m_M_type : MethodName × ByteArray × Nat × Option FieldType := (y_M_type, prog_8_method_23_code, 2, none)
theorem mi_M_type : .code y_M_type prog_8_method_23_code 2 none ∈ wT := wT_m 723 (by decide +kernel) rfl
theorem d_M_type_0 : decode prog_8_method_23_code 0 = .ok (.aload_n 0, 1) := by decide +kernel
theorem d_M_type_1 : decode prog_8_method_23_code 1 = .ok (.getfield 115, 3) := by decide +kernel
theorem d_M_type_4 : decode prog_8_method_23_code 4 = .ok (.sipush 2000, 3) := by decide +kernel
theorem d_M_type_7 : decode prog_8_method_23_code 7 = .ok (.if_icmp .gt 23, 3) := by decide +kernel
theorem d_M_type_10 : decode prog_8_method_23_code 10 = .ok (.aload_n 0, 1) := by decide +kernel
theorem d_M_type_11 : decode prog_8_method_23_code 11 = .ok (.getfield 34, 3) := by decide +kernel
theorem d_M_type_14 : decode prog_8_method_23_code 14 = .ok (.aload_n 0, 1) := by decide +kernel
theorem d_M_type_15 : decode prog_8_method_23_code 15 = .ok (.getfield 115, 3) := by decide +kernel
theorem d_M_type_18 : decode prog_8_method_23_code 18 = .ok (.iload_n 1, 1) := by decide +kernel
theorem d_M_type_19 : decode prog_8_method_23_code 19 = .ok (.iastore, 1) := by decide +kernel
theorem d_M_type_20 : decode prog_8_method_23_code 20 = .ok (.aload_n 0, 1) := by decide +kernel
theorem d_M_type_21 : decode prog_8_method_23_code 21 = .ok (.dup, 1) := by decide +kernel
theorem d_M_type_22 : decode prog_8_method_23_code 22 = .ok (.getfield 115, 3) := by decide +kernel
theorem d_M_type_25 : decode prog_8_method_23_code 25 = .ok (.iconst 1, 1) := by decide +kernel
theorem d_M_type_26 : decode prog_8_method_23_code 26 = .ok (.iadd, 1) := by decide +kernel
theorem d_M_type_27 : decode prog_8_method_23_code 27 = .ok (.putfield 115, 3) := by decide +kernel
theorem d_M_type_30 : decode prog_8_method_23_code 30 = .ok (.return_, 1) := by decide +kernel
abbrev y_M_print : MethodName := ⟨"FrameTablesModel", "print", "()I"⟩
abbrev m_M_print : MethodName × ByteArray × Nat × Option FieldType := (y_M_print, prog_8_method_27_code, 3, some .int)
theorem mi_M_print : .code y_M_print prog_8_method_27_code 3 (some .int) ∈ wT := wT_m 727 (by decide +kernel) rfl
theorem d_M_print_0 : decode prog_8_method_27_code 0 = .ok (.aload_n 0, 1) := by decide +kernel
theorem d_M_print_1 : decode prog_8_method_27_code 1 = .ok (.iconst 0, 1) := by decide +kernel
theorem d_M_print_2 : decode prog_8_method_27_code 2 = .ok (.putfield 49, 3) := by decide +kernel
theorem d_M_print_5 : decode prog_8_method_27_code 5 = .ok (.aload_n 0, 1) := by decide +kernel
theorem d_M_print_6 : decode prog_8_method_27_code 6 = .ok (.iconst 0, 1) := by decide +kernel
theorem d_M_print_7 : decode prog_8_method_27_code 7 = .ok (.putfield 115, 3) := by decide +kernel
theorem d_M_print_10 : decode prog_8_method_27_code 10 = .ok (.iconst 1, 1) := by decide +kernel
theorem d_M_print_11 : decode prog_8_method_27_code 11 = .ok (.istore_n 1, 1) := by decide +kernel
theorem d_M_print_12 : decode prog_8_method_27_code 12 = .ok (.iload_n 1, 1) := by decide +kernel
theorem d_M_print_13 : decode prog_8_method_27_code 13 = .ok (.aload_n 0, 1) := by decide +kernel
theorem d_M_print_14 : decode prog_8_method_27_code 14 = .ok (.getfield 53, 3) := by decide +kernel
theorem d_M_print_17 : decode prog_8_method_27_code 17 = .ok (.if_icmp .gt 119, 3) := by decide +kernel
theorem d_M_print_20 : decode prog_8_method_27_code 20 = .ok (.aload_n 0, 1) := by decide +kernel
theorem d_M_print_21 : decode prog_8_method_27_code 21 = .ok (.iconst 0, 1) := by decide +kernel
theorem d_M_print_22 : decode prog_8_method_27_code 22 = .ok (.invokevirtual 121, 3) := by decide +kernel
theorem d_M_print_25 : decode prog_8_method_27_code 25 = .ok (.aload_n 0, 1) := by decide +kernel
theorem d_M_print_26 : decode prog_8_method_27_code 26 = .ok (.aload_n 0, 1) := by decide +kernel
theorem d_M_print_27 : decode prog_8_method_27_code 27 = .ok (.getfield 7, 3) := by decide +kernel
theorem d_M_print_30 : decode prog_8_method_27_code 30 = .ok (.iload_n 1, 1) := by decide +kernel
theorem d_M_print_31 : decode prog_8_method_27_code 31 = .ok (.iaload, 1) := by decide +kernel
theorem d_M_print_32 : decode prog_8_method_27_code 32 = .ok (.invokevirtual 125, 3) := by decide +kernel
theorem d_M_print_35 : decode prog_8_method_27_code 35 = .ok (.aload_n 0, 1) := by decide +kernel
theorem d_M_print_36 : decode prog_8_method_27_code 36 = .ok (.aload_n 0, 1) := by decide +kernel
theorem d_M_print_37 : decode prog_8_method_27_code 37 = .ok (.getfield 13, 3) := by decide +kernel
theorem d_M_print_40 : decode prog_8_method_27_code 40 = .ok (.iload_n 1, 1) := by decide +kernel
theorem d_M_print_41 : decode prog_8_method_27_code 41 = .ok (.iaload, 1) := by decide +kernel
theorem d_M_print_42 : decode prog_8_method_27_code 42 = .ok (.invokevirtual 125, 3) := by decide +kernel
theorem d_M_print_45 : decode prog_8_method_27_code 45 = .ok (.aload_n 0, 1) := by decide +kernel
theorem d_M_print_46 : decode prog_8_method_27_code 46 = .ok (.aload_n 0, 1) := by decide +kernel
theorem d_M_print_47 : decode prog_8_method_27_code 47 = .ok (.getfield 16, 3) := by decide +kernel
theorem d_M_print_50 : decode prog_8_method_27_code 50 = .ok (.iload_n 1, 1) := by decide +kernel
theorem d_M_print_51 : decode prog_8_method_27_code 51 = .ok (.iaload, 1) := by decide +kernel
theorem d_M_print_52 : decode prog_8_method_27_code 52 = .ok (.invokevirtual 125, 3) := by decide +kernel
theorem d_M_print_55 : decode prog_8_method_27_code 55 = .ok (.aload_n 0, 1) := by decide +kernel
theorem d_M_print_56 : decode prog_8_method_27_code 56 = .ok (.aload_n 0, 1) := by decide +kernel
theorem d_M_print_57 : decode prog_8_method_27_code 57 = .ok (.getfield 19, 3) := by decide +kernel
theorem d_M_print_60 : decode prog_8_method_27_code 60 = .ok (.iload_n 1, 1) := by decide +kernel
theorem d_M_print_61 : decode prog_8_method_27_code 61 = .ok (.iaload, 1) := by decide +kernel
theorem d_M_print_62 : decode prog_8_method_27_code 62 = .ok (.invokevirtual 125, 3) := by decide +kernel
theorem d_M_print_65 : decode prog_8_method_27_code 65 = .ok (.iconst 1, 1) := by decide +kernel
theorem d_M_print_66 : decode prog_8_method_27_code 66 = .ok (.istore_n 2, 1) := by decide +kernel
theorem d_M_print_67 : decode prog_8_method_27_code 67 = .ok (.iload_n 2, 1) := by decide +kernel
theorem d_M_print_68 : decode prog_8_method_27_code 68 = .ok (.bipush 20, 2) := by decide +kernel
theorem d_M_print_70 : decode prog_8_method_27_code 70 = .ok (.if_icmp .gt 54, 3) := by decide +kernel
theorem d_M_print_73 : decode prog_8_method_27_code 73 = .ok (.aload_n 0, 1) := by decide +kernel
theorem d_M_print_74 : decode prog_8_method_27_code 74 = .ok (.getfield 25, 3) := by decide +kernel
theorem d_M_print_77 : decode prog_8_method_27_code 77 = .ok (.bipush 21, 2) := by decide +kernel
theorem d_M_print_79 : decode prog_8_method_27_code 79 = .ok (.iload_n 1, 1) := by decide +kernel
theorem d_M_print_80 : decode prog_8_method_27_code 80 = .ok (.imul, 1) := by decide +kernel
theorem d_M_print_81 : decode prog_8_method_27_code 81 = .ok (.iload_n 2, 1) := by decide +kernel
theorem d_M_print_82 : decode prog_8_method_27_code 82 = .ok (.iadd, 1) := by decide +kernel
theorem d_M_print_83 : decode prog_8_method_27_code 83 = .ok (.iaload, 1) := by decide +kernel
theorem d_M_print_84 : decode prog_8_method_27_code 84 = .ok (.ifCond .le 34, 3) := by decide +kernel
theorem d_M_print_87 : decode prog_8_method_27_code 87 = .ok (.aload_n 0, 1) := by decide +kernel
theorem d_M_print_88 : decode prog_8_method_27_code 88 = .ok (.bipush 32, 2) := by decide +kernel
theorem d_M_print_90 : decode prog_8_method_27_code 90 = .ok (.invokevirtual 118, 3) := by decide +kernel
theorem d_M_print_93 : decode prog_8_method_27_code 93 = .ok (.aload_n 0, 1) := by decide +kernel
theorem d_M_print_94 : decode prog_8_method_27_code 94 = .ok (.iconst 1, 1) := by decide +kernel
theorem d_M_print_95 : decode prog_8_method_27_code 95 = .ok (.invokevirtual 121, 3) := by decide +kernel
theorem d_M_print_98 : decode prog_8_method_27_code 98 = .ok (.aload_n 0, 1) := by decide +kernel
theorem d_M_print_99 : decode prog_8_method_27_code 99 = .ok (.iload_n 2, 1) := by decide +kernel
theorem d_M_print_100 : decode prog_8_method_27_code 100 = .ok (.invokevirtual 125, 3) := by decide +kernel
theorem d_M_print_103 : decode prog_8_method_27_code 103 = .ok (.aload_n 0, 1) := by decide +kernel
theorem d_M_print_104 : decode prog_8_method_27_code 104 = .ok (.aload_n 0, 1) := by decide +kernel
theorem d_M_print_105 : decode prog_8_method_27_code 105 = .ok (.getfield 25, 3) := by decide +kernel
theorem d_M_print_108 : decode prog_8_method_27_code 108 = .ok (.bipush 21, 2) := by decide +kernel
theorem d_M_print_110 : decode prog_8_method_27_code 110 = .ok (.iload_n 1, 1) := by decide +kernel
theorem d_M_print_111 : decode prog_8_method_27_code 111 = .ok (.imul, 1) := by decide +kernel
theorem d_M_print_112 : decode prog_8_method_27_code 112 = .ok (.iload_n 2, 1) := by decide +kernel
theorem d_M_print_113 : decode prog_8_method_27_code 113 = .ok (.iadd, 1) := by decide +kernel
theorem d_M_print_114 : decode prog_8_method_27_code 114 = .ok (.iaload, 1) := by decide +kernel
theorem d_M_print_115 : decode prog_8_method_27_code 115 = .ok (.invokevirtual 125, 3) := by decide +kernel
theorem d_M_print_118 : decode prog_8_method_27_code 118 = .ok (.iinc 2 1, 3) := by decide +kernel
theorem d_M_print_121 : decode prog_8_method_27_code 121 = .ok (.goto (-54), 3) := by decide +kernel
theorem d_M_print_124 : decode prog_8_method_27_code 124 = .ok (.aload_n 0, 1) := by decide +kernel
theorem d_M_print_125 : decode prog_8_method_27_code 125 = .ok (.bipush 10, 2) := by decide +kernel
theorem d_M_print_127 : decode prog_8_method_27_code 127 = .ok (.invokevirtual 118, 3) := by decide +kernel
theorem d_M_print_130 : decode prog_8_method_27_code 130 = .ok (.iinc 1 1, 3) := by decide +kernel
theorem d_M_print_133 : decode prog_8_method_27_code 133 = .ok (.goto (-121), 3) := by decide +kernel
theorem d_M_print_136 : decode prog_8_method_27_code 136 = .ok (.aload_n 0, 1) := by decide +kernel
theorem d_M_print_137 : decode prog_8_method_27_code 137 = .ok (.getfield 115, 3) := by decide +kernel
theorem d_M_print_140 : decode prog_8_method_27_code 140 = .ok (.sipush 2000, 3) := by decide +kernel
theorem d_M_print_143 : decode prog_8_method_27_code 143 = .ok (.if_icmp .le 11, 3) := by decide +kernel
theorem d_M_print_146 : decode prog_8_method_27_code 146 = .ok (.aload_n 0, 1) := by decide +kernel
theorem d_M_print_147 : decode prog_8_method_27_code 147 = .ok (.iconst 0, 1) := by decide +kernel
theorem d_M_print_148 : decode prog_8_method_27_code 148 = .ok (.putfield 115, 3) := by decide +kernel
theorem d_M_print_151 : decode prog_8_method_27_code 151 = .ok (.bipush (-4), 2) := by decide +kernel
theorem d_M_print_153 : decode prog_8_method_27_code 153 = .ok (.ireturn, 1) := by decide +kernel
theorem d_M_print_154 : decode prog_8_method_27_code 154 = .ok (.aload_n 0, 1) := by decide +kernel
theorem d_M_print_155 : decode prog_8_method_27_code 155 = .ok (.getfield 115, 3) := by decide +kernel
theorem d_M_print_158 : decode prog_8_method_27_code 158 = .ok (.ireturn, 1) := by decide +kernel
abbrev y_M_typeWord : MethodName := ⟨"FrameTablesModel", "typeWord", "(Z)V"⟩
abbrev m_M_typeWord : MethodName × ByteArray × Nat × Option FieldType := (y_M_typeWord, prog_8_method_26_code, 2, none)
theorem mi_M_typeWord : .code y_M_typeWord prog_8_method_26_code 2 none ∈ wT := wT_m 731 (by decide +kernel) rfl
theorem d_M_typeWord_0 : decode prog_8_method_26_code 0 = .ok (.aload_n 0, 1) := by decide +kernel
theorem d_M_typeWord_1 : decode prog_8_method_26_code 1 = .ok (.iload_n 1, 1) := by decide +kernel
theorem d_M_typeWord_2 : decode prog_8_method_26_code 2 = .ok (.ifCond .eq 8, 3) := by decide +kernel
theorem d_M_typeWord_5 : decode prog_8_method_26_code 5 = .ok (.bipush 114, 2) := by decide +kernel
theorem d_M_typeWord_7 : decode prog_8_method_26_code 7 = .ok (.goto 5, 3) := by decide +kernel
theorem d_M_typeWord_10 : decode prog_8_method_26_code 10 = .ok (.bipush 102, 2) := by decide +kernel
theorem d_M_typeWord_12 : decode prog_8_method_26_code 12 = .ok (.invokevirtual 118, 3) := by decide +kernel
theorem d_M_typeWord_15 : decode prog_8_method_26_code 15 = .ok (.aload_n 0, 1) := by decide +kernel
theorem d_M_typeWord_16 : decode prog_8_method_26_code 16 = .ok (.iload_n 1, 1) := by decide +kernel
theorem d_M_typeWord_17 : decode prog_8_method_26_code 17 = .ok (.ifCond .eq 8, 3) := by decide +kernel
theorem d_M_typeWord_20 : decode prog_8_method_26_code 20 = .ok (.bipush 101, 2) := by decide +kernel
theorem d_M_typeWord_22 : decode prog_8_method_26_code 22 = .ok (.goto 5, 3) := by decide +kernel
theorem d_M_typeWord_25 : decode prog_8_method_26_code 25 = .ok (.bipush 114, 2) := by decide +kernel
theorem d_M_typeWord_27 : decode prog_8_method_26_code 27 = .ok (.invokevirtual 118, 3) := by decide +kernel
theorem d_M_typeWord_30 : decode prog_8_method_26_code 30 = .ok (.aload_n 0, 1) := by decide +kernel
theorem d_M_typeWord_31 : decode prog_8_method_26_code 31 = .ok (.bipush 97, 2) := by decide +kernel
theorem d_M_typeWord_33 : decode prog_8_method_26_code 33 = .ok (.invokevirtual 118, 3) := by decide +kernel
theorem d_M_typeWord_36 : decode prog_8_method_26_code 36 = .ok (.aload_n 0, 1) := by decide +kernel
theorem d_M_typeWord_37 : decode prog_8_method_26_code 37 = .ok (.iload_n 1, 1) := by decide +kernel
theorem d_M_typeWord_38 : decode prog_8_method_26_code 38 = .ok (.ifCond .eq 8, 3) := by decide +kernel
theorem d_M_typeWord_41 : decode prog_8_method_26_code 41 = .ok (.bipush 100, 2) := by decide +kernel
theorem d_M_typeWord_43 : decode prog_8_method_26_code 43 = .ok (.goto 5, 3) := by decide +kernel
theorem d_M_typeWord_46 : decode prog_8_method_26_code 46 = .ok (.bipush 109, 2) := by decide +kernel
theorem d_M_typeWord_48 : decode prog_8_method_26_code 48 = .ok (.invokevirtual 118, 3) := by decide +kernel
theorem d_M_typeWord_51 : decode prog_8_method_26_code 51 = .ok (.aload_n 0, 1) := by decide +kernel
theorem d_M_typeWord_52 : decode prog_8_method_26_code 52 = .ok (.iload_n 1, 1) := by decide +kernel
theorem d_M_typeWord_53 : decode prog_8_method_26_code 53 = .ok (.ifCond .eq 8, 3) := by decide +kernel
theorem d_M_typeWord_56 : decode prog_8_method_26_code 56 = .ok (.bipush 115, 2) := by decide +kernel
theorem d_M_typeWord_58 : decode prog_8_method_26_code 58 = .ok (.goto 5, 3) := by decide +kernel
theorem d_M_typeWord_61 : decode prog_8_method_26_code 61 = .ok (.bipush 101, 2) := by decide +kernel
theorem d_M_typeWord_63 : decode prog_8_method_26_code 63 = .ok (.invokevirtual 118, 3) := by decide +kernel
theorem d_M_typeWord_66 : decode prog_8_method_26_code 66 = .ok (.return_, 1) := by decide +kernel
abbrev y_M_typeNumber : MethodName := ⟨"FrameTablesModel", "typeNumber", "(I)V"⟩
abbrev m_M_typeNumber : MethodName × ByteArray × Nat × Option FieldType := (y_M_typeNumber, prog_8_method_25_code, 3, none)
theorem mi_M_typeNumber : .code y_M_typeNumber prog_8_method_25_code 3 none ∈ wT := wT_m 735 (by decide +kernel) rfl
theorem d_M_typeNumber_0 : decode prog_8_method_25_code 0 = .ok (.aload_n 0, 1) := by decide +kernel
theorem d_M_typeNumber_1 : decode prog_8_method_25_code 1 = .ok (.bipush 32, 2) := by decide +kernel
theorem d_M_typeNumber_3 : decode prog_8_method_25_code 3 = .ok (.invokevirtual 118, 3) := by decide +kernel
theorem d_M_typeNumber_6 : decode prog_8_method_25_code 6 = .ok (.sipush 10000, 3) := by decide +kernel
theorem d_M_typeNumber_9 : decode prog_8_method_25_code 9 = .ok (.istore_n 2, 1) := by decide +kernel
theorem d_M_typeNumber_10 : decode prog_8_method_25_code 10 = .ok (.iload_n 2, 1) := by decide +kernel
theorem d_M_typeNumber_11 : decode prog_8_method_25_code 11 = .ok (.iload_n 1, 1) := by decide +kernel
theorem d_M_typeNumber_12 : decode prog_8_method_25_code 12 = .ok (.if_icmp .le 16, 3) := by decide +kernel
theorem d_M_typeNumber_15 : decode prog_8_method_25_code 15 = .ok (.iload_n 2, 1) := by decide +kernel
theorem d_M_typeNumber_16 : decode prog_8_method_25_code 16 = .ok (.iconst 1, 1) := by decide +kernel
theorem d_M_typeNumber_17 : decode prog_8_method_25_code 17 = .ok (.if_icmp .le 11, 3) := by decide +kernel
theorem d_M_typeNumber_20 : decode prog_8_method_25_code 20 = .ok (.iload_n 2, 1) := by decide +kernel
theorem d_M_typeNumber_21 : decode prog_8_method_25_code 21 = .ok (.bipush 10, 2) := by decide +kernel
theorem d_M_typeNumber_23 : decode prog_8_method_25_code 23 = .ok (.idiv, 1) := by decide +kernel
theorem d_M_typeNumber_24 : decode prog_8_method_25_code 24 = .ok (.istore_n 2, 1) := by decide +kernel
theorem d_M_typeNumber_25 : decode prog_8_method_25_code 25 = .ok (.goto (-15), 3) := by decide +kernel
theorem d_M_typeNumber_28 : decode prog_8_method_25_code 28 = .ok (.iload_n 2, 1) := by decide +kernel
theorem d_M_typeNumber_29 : decode prog_8_method_25_code 29 = .ok (.ifCond .le 24, 3) := by decide +kernel
theorem d_M_typeNumber_32 : decode prog_8_method_25_code 32 = .ok (.aload_n 0, 1) := by decide +kernel
theorem d_M_typeNumber_33 : decode prog_8_method_25_code 33 = .ok (.bipush 48, 2) := by decide +kernel
theorem d_M_typeNumber_35 : decode prog_8_method_25_code 35 = .ok (.iload_n 1, 1) := by decide +kernel
theorem d_M_typeNumber_36 : decode prog_8_method_25_code 36 = .ok (.iload_n 2, 1) := by decide +kernel
theorem d_M_typeNumber_37 : decode prog_8_method_25_code 37 = .ok (.idiv, 1) := by decide +kernel
theorem d_M_typeNumber_38 : decode prog_8_method_25_code 38 = .ok (.bipush 10, 2) := by decide +kernel
theorem d_M_typeNumber_40 : decode prog_8_method_25_code 40 = .ok (.irem, 1) := by decide +kernel
theorem d_M_typeNumber_41 : decode prog_8_method_25_code 41 = .ok (.iadd, 1) := by decide +kernel
theorem d_M_typeNumber_42 : decode prog_8_method_25_code 42 = .ok (.invokevirtual 118, 3) := by decide +kernel
theorem d_M_typeNumber_45 : decode prog_8_method_25_code 45 = .ok (.iload_n 2, 1) := by decide +kernel
theorem d_M_typeNumber_46 : decode prog_8_method_25_code 46 = .ok (.bipush 10, 2) := by decide +kernel
theorem d_M_typeNumber_48 : decode prog_8_method_25_code 48 = .ok (.idiv, 1) := by decide +kernel
theorem d_M_typeNumber_49 : decode prog_8_method_25_code 49 = .ok (.istore_n 2, 1) := by decide +kernel
theorem d_M_typeNumber_50 : decode prog_8_method_25_code 50 = .ok (.goto (-22), 3) := by decide +kernel
theorem d_M_typeNumber_53 : decode prog_8_method_25_code 53 = .ok (.return_, 1) := by decide +kernel
abbrev y_M_letter : MethodName := ⟨"FrameTablesModel", "letter", "(I)I"⟩
abbrev m_M_letter : MethodName × ByteArray × Nat × Option FieldType := (y_M_letter, prog_8_method_28_code, 2, some .int)
theorem mi_M_letter : .code y_M_letter prog_8_method_28_code 2 (some .int) ∈ wT := wT_m 739 (by decide +kernel) rfl
theorem d_M_letter_0 : decode prog_8_method_28_code 0 = .ok (.aload_n 0, 1) := by decide +kernel
theorem d_M_letter_1 : decode prog_8_method_28_code 1 = .ok (.iconst 0, 1) := by decide +kernel
theorem d_M_letter_2 : decode prog_8_method_28_code 2 = .ok (.putfield 49, 3) := by decide +kernel
theorem d_M_letter_5 : decode prog_8_method_28_code 5 = .ok (.iload_n 1, 1) := by decide +kernel
theorem d_M_letter_6 : decode prog_8_method_28_code 6 = .ok (.ifCond .lt 20, 3) := by decide +kernel
theorem d_M_letter_9 : decode prog_8_method_28_code 9 = .ok (.iload_n 1, 1) := by decide +kernel
theorem d_M_letter_10 : decode prog_8_method_28_code 10 = .ok (.aload_n 0, 1) := by decide +kernel
theorem d_M_letter_11 : decode prog_8_method_28_code 11 = .ok (.getfield 115, 3) := by decide +kernel
theorem d_M_letter_14 : decode prog_8_method_28_code 14 = .ok (.if_icmp .ge 12, 3) := by decide +kernel
theorem d_M_letter_17 : decode prog_8_method_28_code 17 = .ok (.aload_n 0, 1) := by decide +kernel
theorem d_M_letter_18 : decode prog_8_method_28_code 18 = .ok (.getfield 34, 3) := by decide +kernel
theorem d_M_letter_21 : decode prog_8_method_28_code 21 = .ok (.iload_n 1, 1) := by decide +kernel
theorem d_M_letter_22 : decode prog_8_method_28_code 22 = .ok (.iaload, 1) := by decide +kernel
theorem d_M_letter_23 : decode prog_8_method_28_code 23 = .ok (.goto 4, 3) := by decide +kernel
theorem d_M_letter_26 : decode prog_8_method_28_code 26 = .ok (.iconst (-1), 1) := by decide +kernel
theorem d_M_letter_27 : decode prog_8_method_28_code 27 = .ok (.ireturn, 1) := by decide +kernel
abbrev y_M_read : MethodName := ⟨"FrameTablesModel", "read", "()I"⟩
abbrev m_M_read : MethodName × ByteArray × Nat × Option FieldType := (y_M_read, prog_8_method_37_code, 3, some .int)
theorem mi_M_read : .code y_M_read prog_8_method_37_code 3 (some .int) ∈ wT := wT_m 743 (by decide +kernel) rfl
theorem d_M_read_0 : decode prog_8_method_37_code 0 = .ok (.aload_n 0, 1) := by decide +kernel
theorem d_M_read_1 : decode prog_8_method_37_code 1 = .ok (.iconst 0, 1) := by decide +kernel
theorem d_M_read_2 : decode prog_8_method_37_code 2 = .ok (.putfield 49, 3) := by decide +kernel
theorem d_M_read_5 : decode prog_8_method_37_code 5 = .ok (.aload_n 0, 1) := by decide +kernel
theorem d_M_read_6 : decode prog_8_method_37_code 6 = .ok (.iconst 0, 1) := by decide +kernel
theorem d_M_read_7 : decode prog_8_method_37_code 7 = .ok (.putfield 128, 3) := by decide +kernel
theorem d_M_read_10 : decode prog_8_method_37_code 10 = .ok (.iconst 0, 1) := by decide +kernel
theorem d_M_read_11 : decode prog_8_method_37_code 11 = .ok (.istore_n 1, 1) := by decide +kernel
theorem d_M_read_12 : decode prog_8_method_37_code 12 = .ok (.iconst 0, 1) := by decide +kernel
theorem d_M_read_13 : decode prog_8_method_37_code 13 = .ok (.istore_n 2, 1) := by decide +kernel
theorem d_M_read_14 : decode prog_8_method_37_code 14 = .ok (.aload_n 0, 1) := by decide +kernel
theorem d_M_read_15 : decode prog_8_method_37_code 15 = .ok (.getfield 128, 3) := by decide +kernel
theorem d_M_read_18 : decode prog_8_method_37_code 18 = .ok (.aload_n 0, 1) := by decide +kernel
theorem d_M_read_19 : decode prog_8_method_37_code 19 = .ok (.getfield 115, 3) := by decide +kernel
theorem d_M_read_22 : decode prog_8_method_37_code 22 = .ok (.if_icmp .ge 51, 3) := by decide +kernel
theorem d_M_read_25 : decode prog_8_method_37_code 25 = .ok (.iinc 1 1, 3) := by decide +kernel
theorem d_M_read_28 : decode prog_8_method_37_code 28 = .ok (.aload_n 0, 1) := by decide +kernel
theorem d_M_read_29 : decode prog_8_method_37_code 29 = .ok (.invokevirtual 141, 3) := by decide +kernel
theorem d_M_read_32 : decode prog_8_method_37_code 32 = .ok (.aload_n 0, 1) := by decide +kernel
theorem d_M_read_33 : decode prog_8_method_37_code 33 = .ok (.invokevirtual 134, 3) := by decide +kernel
theorem d_M_read_36 : decode prog_8_method_37_code 36 = .ok (.ifCond .ne 24, 3) := by decide +kernel
theorem d_M_read_39 : decode prog_8_method_37_code 39 = .ok (.aload_n 0, 1) := by decide +kernel
theorem d_M_read_40 : decode prog_8_method_37_code 40 = .ok (.iload_n 2, 1) := by decide +kernel
theorem d_M_read_41 : decode prog_8_method_37_code 41 = .ok (.iconst 1, 1) := by decide +kernel
theorem d_M_read_42 : decode prog_8_method_37_code 42 = .ok (.iadd, 1) := by decide +kernel
theorem d_M_read_43 : decode prog_8_method_37_code 43 = .ok (.invokevirtual 154, 3) := by decide +kernel
theorem d_M_read_46 : decode prog_8_method_37_code 46 = .ok (.ifCond .ne 11, 3) := by decide +kernel
theorem d_M_read_49 : decode prog_8_method_37_code 49 = .ok (.aload_n 0, 1) := by decide +kernel
theorem d_M_read_50 : decode prog_8_method_37_code 50 = .ok (.iconst 0, 1) := by decide +kernel
theorem d_M_read_51 : decode prog_8_method_37_code 51 = .ok (.putfield 115, 3) := by decide +kernel
theorem d_M_read_54 : decode prog_8_method_37_code 54 = .ok (.iload_n 1, 1) := by decide +kernel
theorem d_M_read_55 : decode prog_8_method_37_code 55 = .ok (.ineg, 1) := by decide +kernel
theorem d_M_read_56 : decode prog_8_method_37_code 56 = .ok (.ireturn, 1) := by decide +kernel
theorem d_M_read_57 : decode prog_8_method_37_code 57 = .ok (.iinc 2 1, 3) := by decide +kernel
theorem d_M_read_60 : decode prog_8_method_37_code 60 = .ok (.aload_n 0, 1) := by decide +kernel
theorem d_M_read_61 : decode prog_8_method_37_code 61 = .ok (.dup, 1) := by decide +kernel
theorem d_M_read_62 : decode prog_8_method_37_code 62 = .ok (.getfield 128, 3) := by decide +kernel
theorem d_M_read_65 : decode prog_8_method_37_code 65 = .ok (.iconst 1, 1) := by decide +kernel
theorem d_M_read_66 : decode prog_8_method_37_code 66 = .ok (.iadd, 1) := by decide +kernel
theorem d_M_read_67 : decode prog_8_method_37_code 67 = .ok (.putfield 128, 3) := by decide +kernel
theorem d_M_read_70 : decode prog_8_method_37_code 70 = .ok (.goto (-56), 3) := by decide +kernel
theorem d_M_read_73 : decode prog_8_method_37_code 73 = .ok (.aload_n 0, 1) := by decide +kernel
theorem d_M_read_74 : decode prog_8_method_37_code 74 = .ok (.iconst 0, 1) := by decide +kernel
theorem d_M_read_75 : decode prog_8_method_37_code 75 = .ok (.putfield 115, 3) := by decide +kernel
theorem d_M_read_78 : decode prog_8_method_37_code 78 = .ok (.aload_n 0, 1) := by decide +kernel
theorem d_M_read_79 : decode prog_8_method_37_code 79 = .ok (.iload_n 2, 1) := by decide +kernel
theorem d_M_read_80 : decode prog_8_method_37_code 80 = .ok (.invokevirtual 157, 3) := by decide +kernel
theorem d_M_read_83 : decode prog_8_method_37_code 83 = .ok (.iload_n 2, 1) := by decide +kernel
theorem d_M_read_84 : decode prog_8_method_37_code 84 = .ok (.ireturn, 1) := by decide +kernel
abbrev y_M_passSpaces : MethodName := ⟨"FrameTablesModel", "passSpaces", "()V"⟩
abbrev m_M_passSpaces : MethodName × ByteArray × Nat × Option FieldType := (y_M_passSpaces, prog_8_method_30_code, 1, none)
theorem mi_M_passSpaces : .code y_M_passSpaces prog_8_method_30_code 1 none ∈ wT := wT_m 747 (by decide +kernel) rfl
theorem d_M_passSpaces_0 : decode prog_8_method_30_code 0 = .ok (.aload_n 0, 1) := by decide +kernel
theorem d_M_passSpaces_1 : decode prog_8_method_30_code 1 = .ok (.invokevirtual 131, 3) := by decide +kernel
theorem d_M_passSpaces_4 : decode prog_8_method_30_code 4 = .ok (.bipush 32, 2) := by decide +kernel
theorem d_M_passSpaces_6 : decode prog_8_method_30_code 6 = .ok (.if_icmp .ne 16, 3) := by decide +kernel
theorem d_M_passSpaces_9 : decode prog_8_method_30_code 9 = .ok (.aload_n 0, 1) := by decide +kernel
theorem d_M_passSpaces_10 : decode prog_8_method_30_code 10 = .ok (.dup, 1) := by decide +kernel
theorem d_M_passSpaces_11 : decode prog_8_method_30_code 11 = .ok (.getfield 128, 3) := by decide +kernel
theorem d_M_passSpaces_14 : decode prog_8_method_30_code 14 = .ok (.iconst 1, 1) := by decide +kernel
theorem d_M_passSpaces_15 : decode prog_8_method_30_code 15 = .ok (.iadd, 1) := by decide +kernel
theorem d_M_passSpaces_16 : decode prog_8_method_30_code 16 = .ok (.putfield 128, 3) := by decide +kernel
theorem d_M_passSpaces_19 : decode prog_8_method_30_code 19 = .ok (.goto (-19), 3) := by decide +kernel
theorem d_M_passSpaces_22 : decode prog_8_method_30_code 22 = .ok (.return_, 1) := by decide +kernel
abbrev y_M_at0 : MethodName := ⟨"FrameTablesModel", "at0", "()I"⟩
abbrev m_M_at0 : MethodName × ByteArray × Nat × Option FieldType := (y_M_at0, prog_8_method_29_code, 1, some .int)
theorem mi_M_at0 : .code y_M_at0 prog_8_method_29_code 1 (some .int) ∈ wT := wT_m 751 (by decide +kernel) rfl
theorem d_M_at0_0 : decode prog_8_method_29_code 0 = .ok (.aload_n 0, 1) := by decide +kernel
theorem d_M_at0_1 : decode prog_8_method_29_code 1 = .ok (.getfield 128, 3) := by decide +kernel
theorem d_M_at0_4 : decode prog_8_method_29_code 4 = .ok (.aload_n 0, 1) := by decide +kernel
theorem d_M_at0_5 : decode prog_8_method_29_code 5 = .ok (.getfield 115, 3) := by decide +kernel
theorem d_M_at0_8 : decode prog_8_method_29_code 8 = .ok (.if_icmp .ge 15, 3) := by decide +kernel
theorem d_M_at0_11 : decode prog_8_method_29_code 11 = .ok (.aload_n 0, 1) := by decide +kernel
theorem d_M_at0_12 : decode prog_8_method_29_code 12 = .ok (.getfield 34, 3) := by decide +kernel
theorem d_M_at0_15 : decode prog_8_method_29_code 15 = .ok (.aload_n 0, 1) := by decide +kernel
theorem d_M_at0_16 : decode prog_8_method_29_code 16 = .ok (.getfield 128, 3) := by decide +kernel
theorem d_M_at0_19 : decode prog_8_method_29_code 19 = .ok (.iaload, 1) := by decide +kernel
theorem d_M_at0_20 : decode prog_8_method_29_code 20 = .ok (.goto 5, 3) := by decide +kernel
theorem d_M_at0_23 : decode prog_8_method_29_code 23 = .ok (.bipush 10, 2) := by decide +kernel
theorem d_M_at0_25 : decode prog_8_method_29_code 25 = .ok (.ireturn, 1) := by decide +kernel
abbrev y_M_isEnd : MethodName := ⟨"FrameTablesModel", "isEnd", "()Z"⟩
abbrev m_M_isEnd : MethodName × ByteArray × Nat × Option FieldType := (y_M_isEnd, prog_8_method_31_code, 1, some .boolean)
theorem mi_M_isEnd : .code y_M_isEnd prog_8_method_31_code 1 (some .boolean) ∈ wT := wT_m 755 (by decide +kernel) rfl
theorem d_M_isEnd_0 : decode prog_8_method_31_code 0 = .ok (.aload_n 0, 1) := by decide +kernel
theorem d_M_isEnd_1 : decode prog_8_method_31_code 1 = .ok (.invokevirtual 131, 3) := by decide +kernel
theorem d_M_isEnd_4 : decode prog_8_method_31_code 4 = .ok (.bipush 10, 2) := by decide +kernel
theorem d_M_isEnd_6 : decode prog_8_method_31_code 6 = .ok (.if_icmp .ne 7, 3) := by decide +kernel
theorem d_M_isEnd_9 : decode prog_8_method_31_code 9 = .ok (.iconst 1, 1) := by decide +kernel
theorem d_M_isEnd_10 : decode prog_8_method_31_code 10 = .ok (.goto 4, 3) := by decide +kernel
theorem d_M_isEnd_13 : decode prog_8_method_31_code 13 = .ok (.iconst 0, 1) := by decide +kernel
theorem d_M_isEnd_14 : decode prog_8_method_31_code 14 = .ok (.ireturn, 1) := by decide +kernel
abbrev y_M_isLine : MethodName := ⟨"FrameTablesModel", "isLine", "(I)Z"⟩
abbrev m_M_isLine : MethodName × ByteArray × Nat × Option FieldType := (y_M_isLine, prog_8_method_35_code, 4, some .boolean)
theorem mi_M_isLine : .code y_M_isLine prog_8_method_35_code 4 (some .boolean) ∈ wT := wT_m 759 (by decide +kernel) rfl
theorem d_M_isLine_0 : decode prog_8_method_35_code 0 = .ok (.iload_n 1, 1) := by decide +kernel
theorem d_M_isLine_1 : decode prog_8_method_35_code 1 = .ok (.bipush 40, 2) := by decide +kernel
theorem d_M_isLine_3 : decode prog_8_method_35_code 3 = .ok (.if_icmp .gt 21, 3) := by decide +kernel
theorem d_M_isLine_6 : decode prog_8_method_35_code 6 = .ok (.aload_n 0, 1) := by decide +kernel
theorem d_M_isLine_7 : decode prog_8_method_35_code 7 = .ok (.iconst 0, 1) := by decide +kernel
theorem d_M_isLine_8 : decode prog_8_method_35_code 8 = .ok (.invokevirtual 147, 3) := by decide +kernel
theorem d_M_isLine_11 : decode prog_8_method_35_code 11 = .ok (.ifCond .eq 13, 3) := by decide +kernel
theorem d_M_isLine_14 : decode prog_8_method_35_code 14 = .ok (.aload_n 0, 1) := by decide +kernel
theorem d_M_isLine_15 : decode prog_8_method_35_code 15 = .ok (.iconst 1, 1) := by decide +kernel
theorem d_M_isLine_16 : decode prog_8_method_35_code 16 = .ok (.bipush 20, 2) := by decide +kernel
theorem d_M_isLine_18 : decode prog_8_method_35_code 18 = .ok (.invokevirtual 151, 3) := by decide +kernel
theorem d_M_isLine_21 : decode prog_8_method_35_code 21 = .ok (.ifCond .ne 5, 3) := by decide +kernel
theorem d_M_isLine_24 : decode prog_8_method_35_code 24 = .ok (.iconst 0, 1) := by decide +kernel
theorem d_M_isLine_25 : decode prog_8_method_35_code 25 = .ok (.ireturn, 1) := by decide +kernel
theorem d_M_isLine_26 : decode prog_8_method_35_code 26 = .ok (.bipush 41, 2) := by decide +kernel
theorem d_M_isLine_28 : decode prog_8_method_35_code 28 = .ok (.iload_n 1, 1) := by decide +kernel
theorem d_M_isLine_29 : decode prog_8_method_35_code 29 = .ok (.iadd, 1) := by decide +kernel
theorem d_M_isLine_30 : decode prog_8_method_35_code 30 = .ok (.istore_n 2, 1) := by decide +kernel
theorem d_M_isLine_31 : decode prog_8_method_35_code 31 = .ok (.aload_n 0, 1) := by decide +kernel
theorem d_M_isLine_32 : decode prog_8_method_35_code 32 = .ok (.getfield 7, 3) := by decide +kernel
theorem d_M_isLine_35 : decode prog_8_method_35_code 35 = .ok (.iload_n 2, 1) := by decide +kernel
theorem d_M_isLine_36 : decode prog_8_method_35_code 36 = .ok (.aload_n 0, 1) := by decide +kernel
theorem d_M_isLine_37 : decode prog_8_method_35_code 37 = .ok (.getfield 144, 3) := by decide +kernel
theorem d_M_isLine_40 : decode prog_8_method_35_code 40 = .ok (.iastore, 1) := by decide +kernel
theorem d_M_isLine_41 : decode prog_8_method_35_code 41 = .ok (.aload_n 0, 1) := by decide +kernel
theorem d_M_isLine_42 : decode prog_8_method_35_code 42 = .ok (.iconst 1, 1) := by decide +kernel
theorem d_M_isLine_43 : decode prog_8_method_35_code 43 = .ok (.bipush 60, 2) := by decide +kernel
theorem d_M_isLine_45 : decode prog_8_method_35_code 45 = .ok (.invokevirtual 151, 3) := by decide +kernel
theorem d_M_isLine_48 : decode prog_8_method_35_code 48 = .ok (.ifCond .ne 5, 3) := by decide +kernel
theorem d_M_isLine_51 : decode prog_8_method_35_code 51 = .ok (.iconst 0, 1) := by decide +kernel
theorem d_M_isLine_52 : decode prog_8_method_35_code 52 = .ok (.ireturn, 1) := by decide +kernel
theorem d_M_isLine_53 : decode prog_8_method_35_code 53 = .ok (.aload_n 0, 1) := by decide +kernel
theorem d_M_isLine_54 : decode prog_8_method_35_code 54 = .ok (.getfield 13, 3) := by decide +kernel
theorem d_M_isLine_57 : decode prog_8_method_35_code 57 = .ok (.iload_n 2, 1) := by decide +kernel
theorem d_M_isLine_58 : decode prog_8_method_35_code 58 = .ok (.aload_n 0, 1) := by decide +kernel
theorem d_M_isLine_59 : decode prog_8_method_35_code 59 = .ok (.getfield 144, 3) := by decide +kernel
theorem d_M_isLine_62 : decode prog_8_method_35_code 62 = .ok (.iastore, 1) := by decide +kernel
theorem d_M_isLine_63 : decode prog_8_method_35_code 63 = .ok (.aload_n 0, 1) := by decide +kernel
theorem d_M_isLine_64 : decode prog_8_method_35_code 64 = .ok (.iconst 0, 1) := by decide +kernel
theorem d_M_isLine_65 : decode prog_8_method_35_code 65 = .ok (.bipush 99, 2) := by decide +kernel
theorem d_M_isLine_67 : decode prog_8_method_35_code 67 = .ok (.invokevirtual 151, 3) := by decide +kernel
theorem d_M_isLine_70 : decode prog_8_method_35_code 70 = .ok (.ifCond .ne 5, 3) := by decide +kernel
theorem d_M_isLine_73 : decode prog_8_method_35_code 73 = .ok (.iconst 0, 1) := by decide +kernel
theorem d_M_isLine_74 : decode prog_8_method_35_code 74 = .ok (.ireturn, 1) := by decide +kernel
theorem d_M_isLine_75 : decode prog_8_method_35_code 75 = .ok (.aload_n 0, 1) := by decide +kernel
theorem d_M_isLine_76 : decode prog_8_method_35_code 76 = .ok (.getfield 16, 3) := by decide +kernel
theorem d_M_isLine_79 : decode prog_8_method_35_code 79 = .ok (.iload_n 2, 1) := by decide +kernel
theorem d_M_isLine_80 : decode prog_8_method_35_code 80 = .ok (.aload_n 0, 1) := by decide +kernel
theorem d_M_isLine_81 : decode prog_8_method_35_code 81 = .ok (.getfield 144, 3) := by decide +kernel
theorem d_M_isLine_84 : decode prog_8_method_35_code 84 = .ok (.iastore, 1) := by decide +kernel
theorem d_M_isLine_85 : decode prog_8_method_35_code 85 = .ok (.aload_n 0, 1) := by decide +kernel
theorem d_M_isLine_86 : decode prog_8_method_35_code 86 = .ok (.iconst 0, 1) := by decide +kernel
theorem d_M_isLine_87 : decode prog_8_method_35_code 87 = .ok (.aload_n 0, 1) := by decide +kernel
theorem d_M_isLine_88 : decode prog_8_method_35_code 88 = .ok (.getfield 13, 3) := by decide +kernel
theorem d_M_isLine_91 : decode prog_8_method_35_code 91 = .ok (.iload_n 2, 1) := by decide +kernel
theorem d_M_isLine_92 : decode prog_8_method_35_code 92 = .ok (.iaload, 1) := by decide +kernel
theorem d_M_isLine_93 : decode prog_8_method_35_code 93 = .ok (.invokevirtual 151, 3) := by decide +kernel
theorem d_M_isLine_96 : decode prog_8_method_35_code 96 = .ok (.ifCond .ne 5, 3) := by decide +kernel
theorem d_M_isLine_99 : decode prog_8_method_35_code 99 = .ok (.iconst 0, 1) := by decide +kernel
theorem d_M_isLine_100 : decode prog_8_method_35_code 100 = .ok (.ireturn, 1) := by decide +kernel
theorem d_M_isLine_101 : decode prog_8_method_35_code 101 = .ok (.aload_n 0, 1) := by decide +kernel
theorem d_M_isLine_102 : decode prog_8_method_35_code 102 = .ok (.getfield 19, 3) := by decide +kernel
theorem d_M_isLine_105 : decode prog_8_method_35_code 105 = .ok (.iload_n 2, 1) := by decide +kernel
theorem d_M_isLine_106 : decode prog_8_method_35_code 106 = .ok (.aload_n 0, 1) := by decide +kernel
theorem d_M_isLine_107 : decode prog_8_method_35_code 107 = .ok (.getfield 144, 3) := by decide +kernel
theorem d_M_isLine_110 : decode prog_8_method_35_code 110 = .ok (.iastore, 1) := by decide +kernel
theorem d_M_isLine_111 : decode prog_8_method_35_code 111 = .ok (.iconst 1, 1) := by decide +kernel
theorem d_M_isLine_112 : decode prog_8_method_35_code 112 = .ok (.istore_n 3, 1) := by decide +kernel
theorem d_M_isLine_113 : decode prog_8_method_35_code 113 = .ok (.iload_n 3, 1) := by decide +kernel
theorem d_M_isLine_114 : decode prog_8_method_35_code 114 = .ok (.bipush 20, 2) := by decide +kernel
theorem d_M_isLine_116 : decode prog_8_method_35_code 116 = .ok (.if_icmp .gt 21, 3) := by decide +kernel
theorem d_M_isLine_119 : decode prog_8_method_35_code 119 = .ok (.aload_n 0, 1) := by decide +kernel
theorem d_M_isLine_120 : decode prog_8_method_35_code 120 = .ok (.getfield 25, 3) := by decide +kernel
theorem d_M_isLine_123 : decode prog_8_method_35_code 123 = .ok (.bipush 21, 2) := by decide +kernel
theorem d_M_isLine_125 : decode prog_8_method_35_code 125 = .ok (.iload_n 2, 1) := by decide +kernel
theorem d_M_isLine_126 : decode prog_8_method_35_code 126 = .ok (.imul, 1) := by decide +kernel
theorem d_M_isLine_127 : decode prog_8_method_35_code 127 = .ok (.iload_n 3, 1) := by decide +kernel
theorem d_M_isLine_128 : decode prog_8_method_35_code 128 = .ok (.iadd, 1) := by decide +kernel
theorem d_M_isLine_129 : decode prog_8_method_35_code 129 = .ok (.iconst 0, 1) := by decide +kernel
theorem d_M_isLine_130 : decode prog_8_method_35_code 130 = .ok (.iastore, 1) := by decide +kernel
theorem d_M_isLine_131 : decode prog_8_method_35_code 131 = .ok (.iinc 3 1, 3) := by decide +kernel
theorem d_M_isLine_134 : decode prog_8_method_35_code 134 = .ok (.goto (-21), 3) := by decide +kernel
theorem d_M_isLine_137 : decode prog_8_method_35_code 137 = .ok (.aload_n 0, 1) := by decide +kernel
theorem d_M_isLine_138 : decode prog_8_method_35_code 138 = .ok (.invokevirtual 134, 3) := by decide +kernel
theorem d_M_isLine_141 : decode prog_8_method_35_code 141 = .ok (.ifCond .ne 72, 3) := by decide +kernel
theorem d_M_isLine_144 : decode prog_8_method_35_code 144 = .ok (.aload_n 0, 1) := by decide +kernel
theorem d_M_isLine_145 : decode prog_8_method_35_code 145 = .ok (.iconst 1, 1) := by decide +kernel
theorem d_M_isLine_146 : decode prog_8_method_35_code 146 = .ok (.invokevirtual 147, 3) := by decide +kernel
theorem d_M_isLine_149 : decode prog_8_method_35_code 149 = .ok (.ifCond .eq 26, 3) := by decide +kernel
theorem d_M_isLine_152 : decode prog_8_method_35_code 152 = .ok (.aload_n 0, 1) := by decide +kernel
theorem d_M_isLine_153 : decode prog_8_method_35_code 153 = .ok (.iconst 1, 1) := by decide +kernel
theorem d_M_isLine_154 : decode prog_8_method_35_code 154 = .ok (.bipush 20, 2) := by decide +kernel
theorem d_M_isLine_156 : decode prog_8_method_35_code 156 = .ok (.invokevirtual 151, 3) := by decide +kernel
theorem d_M_isLine_159 : decode prog_8_method_35_code 159 = .ok (.ifCond .eq 16, 3) := by decide +kernel
theorem d_M_isLine_162 : decode prog_8_method_35_code 162 = .ok (.aload_n 0, 1) := by decide +kernel
theorem d_M_isLine_163 : decode prog_8_method_35_code 163 = .ok (.getfield 144, 3) := by decide +kernel
theorem d_M_isLine_166 : decode prog_8_method_35_code 166 = .ok (.aload_n 0, 1) := by decide +kernel
theorem d_M_isLine_167 : decode prog_8_method_35_code 167 = .ok (.getfield 7, 3) := by decide +kernel
theorem d_M_isLine_170 : decode prog_8_method_35_code 170 = .ok (.iload_n 2, 1) := by decide +kernel
theorem d_M_isLine_171 : decode prog_8_method_35_code 171 = .ok (.iaload, 1) := by decide +kernel
theorem d_M_isLine_172 : decode prog_8_method_35_code 172 = .ok (.if_icmp .ne 5, 3) := by decide +kernel
theorem d_M_isLine_175 : decode prog_8_method_35_code 175 = .ok (.iconst 0, 1) := by decide +kernel
theorem d_M_isLine_176 : decode prog_8_method_35_code 176 = .ok (.ireturn, 1) := by decide +kernel
theorem d_M_isLine_177 : decode prog_8_method_35_code 177 = .ok (.aload_n 0, 1) := by decide +kernel
theorem d_M_isLine_178 : decode prog_8_method_35_code 178 = .ok (.getfield 144, 3) := by decide +kernel
theorem d_M_isLine_181 : decode prog_8_method_35_code 181 = .ok (.istore_n 3, 1) := by decide +kernel
theorem d_M_isLine_182 : decode prog_8_method_35_code 182 = .ok (.aload_n 0, 1) := by decide +kernel
theorem d_M_isLine_183 : decode prog_8_method_35_code 183 = .ok (.iconst 1, 1) := by decide +kernel
theorem d_M_isLine_184 : decode prog_8_method_35_code 184 = .ok (.sipush 10000, 3) := by decide +kernel
theorem d_M_isLine_187 : decode prog_8_method_35_code 187 = .ok (.invokevirtual 151, 3) := by decide +kernel
theorem d_M_isLine_190 : decode prog_8_method_35_code 190 = .ok (.ifCond .ne 5, 3) := by decide +kernel
theorem d_M_isLine_193 : decode prog_8_method_35_code 193 = .ok (.iconst 0, 1) := by decide +kernel
theorem d_M_isLine_194 : decode prog_8_method_35_code 194 = .ok (.ireturn, 1) := by decide +kernel
theorem d_M_isLine_195 : decode prog_8_method_35_code 195 = .ok (.aload_n 0, 1) := by decide +kernel
theorem d_M_isLine_196 : decode prog_8_method_35_code 196 = .ok (.getfield 25, 3) := by decide +kernel
theorem d_M_isLine_199 : decode prog_8_method_35_code 199 = .ok (.bipush 21, 2) := by decide +kernel
theorem d_M_isLine_201 : decode prog_8_method_35_code 201 = .ok (.iload_n 2, 1) := by decide +kernel
theorem d_M_isLine_202 : decode prog_8_method_35_code 202 = .ok (.imul, 1) := by decide +kernel
theorem d_M_isLine_203 : decode prog_8_method_35_code 203 = .ok (.iload_n 3, 1) := by decide +kernel
theorem d_M_isLine_204 : decode prog_8_method_35_code 204 = .ok (.iadd, 1) := by decide +kernel
theorem d_M_isLine_205 : decode prog_8_method_35_code 205 = .ok (.aload_n 0, 1) := by decide +kernel
theorem d_M_isLine_206 : decode prog_8_method_35_code 206 = .ok (.getfield 144, 3) := by decide +kernel
theorem d_M_isLine_209 : decode prog_8_method_35_code 209 = .ok (.iastore, 1) := by decide +kernel
theorem d_M_isLine_210 : decode prog_8_method_35_code 210 = .ok (.goto (-73), 3) := by decide +kernel
theorem d_M_isLine_213 : decode prog_8_method_35_code 213 = .ok (.iconst 1, 1) := by decide +kernel
theorem d_M_isLine_214 : decode prog_8_method_35_code 214 = .ok (.ireturn, 1) := by decide +kernel
abbrev y_M_isWord : MethodName := ⟨"FrameTablesModel", "isWord", "(Z)Z"⟩
abbrev m_M_isWord : MethodName × ByteArray × Nat × Option FieldType := (y_M_isWord, prog_8_method_33_code, 5, some .boolean)
theorem mi_M_isWord : .code y_M_isWord prog_8_method_33_code 5 (some .boolean) ∈ wT := wT_m 763 (by decide +kernel) rfl
theorem d_M_isWord_0 : decode prog_8_method_33_code 0 = .ok (.iconst 1, 1) := by decide +kernel
theorem d_M_isWord_1 : decode prog_8_method_33_code 1 = .ok (.istore_n 2, 1) := by decide +kernel
theorem d_M_isWord_2 : decode prog_8_method_33_code 2 = .ok (.iconst 0, 1) := by decide +kernel
theorem d_M_isWord_3 : decode prog_8_method_33_code 3 = .ok (.istore_n 3, 1) := by decide +kernel
theorem d_M_isWord_4 : decode prog_8_method_33_code 4 = .ok (.iload_n 3, 1) := by decide +kernel
theorem d_M_isWord_5 : decode prog_8_method_33_code 5 = .ok (.iconst 5, 1) := by decide +kernel
theorem d_M_isWord_6 : decode prog_8_method_33_code 6 = .ok (.if_icmp .ge 125, 3) := by decide +kernel
theorem d_M_isWord_9 : decode prog_8_method_33_code 9 = .ok (.iload_n 3, 1) := by decide +kernel
theorem d_M_isWord_10 : decode prog_8_method_33_code 10 = .ok (.ifCond .ne 17, 3) := by decide +kernel
theorem d_M_isWord_13 : decode prog_8_method_33_code 13 = .ok (.iload_n 1, 1) := by decide +kernel
theorem d_M_isWord_14 : decode prog_8_method_33_code 14 = .ok (.ifCond .eq 8, 3) := by decide +kernel
theorem d_M_isWord_17 : decode prog_8_method_33_code 17 = .ok (.bipush 114, 2) := by decide +kernel
theorem d_M_isWord_19 : decode prog_8_method_33_code 19 = .ok (.goto 67, 3) := by decide +kernel
theorem d_M_isWord_22 : decode prog_8_method_33_code 22 = .ok (.bipush 102, 2) := by decide +kernel
theorem d_M_isWord_24 : decode prog_8_method_33_code 24 = .ok (.goto 62, 3) := by decide +kernel
theorem d_M_isWord_27 : decode prog_8_method_33_code 27 = .ok (.iload_n 3, 1) := by decide +kernel
theorem d_M_isWord_28 : decode prog_8_method_33_code 28 = .ok (.iconst 1, 1) := by decide +kernel
theorem d_M_isWord_29 : decode prog_8_method_33_code 29 = .ok (.if_icmp .ne 17, 3) := by decide +kernel
theorem d_M_isWord_32 : decode prog_8_method_33_code 32 = .ok (.iload_n 1, 1) := by decide +kernel
theorem d_M_isWord_33 : decode prog_8_method_33_code 33 = .ok (.ifCond .eq 8, 3) := by decide +kernel
theorem d_M_isWord_36 : decode prog_8_method_33_code 36 = .ok (.bipush 101, 2) := by decide +kernel
theorem d_M_isWord_38 : decode prog_8_method_33_code 38 = .ok (.goto 48, 3) := by decide +kernel
theorem d_M_isWord_41 : decode prog_8_method_33_code 41 = .ok (.bipush 114, 2) := by decide +kernel
theorem d_M_isWord_43 : decode prog_8_method_33_code 43 = .ok (.goto 43, 3) := by decide +kernel
theorem d_M_isWord_46 : decode prog_8_method_33_code 46 = .ok (.iload_n 3, 1) := by decide +kernel
theorem d_M_isWord_47 : decode prog_8_method_33_code 47 = .ok (.iconst 2, 1) := by decide +kernel
theorem d_M_isWord_48 : decode prog_8_method_33_code 48 = .ok (.if_icmp .ne 8, 3) := by decide +kernel
theorem d_M_isWord_51 : decode prog_8_method_33_code 51 = .ok (.bipush 97, 2) := by decide +kernel
theorem d_M_isWord_53 : decode prog_8_method_33_code 53 = .ok (.goto 33, 3) := by decide +kernel
theorem d_M_isWord_56 : decode prog_8_method_33_code 56 = .ok (.iload_n 3, 1) := by decide +kernel
theorem d_M_isWord_57 : decode prog_8_method_33_code 57 = .ok (.iconst 3, 1) := by decide +kernel
theorem d_M_isWord_58 : decode prog_8_method_33_code 58 = .ok (.if_icmp .ne 17, 3) := by decide +kernel
theorem d_M_isWord_61 : decode prog_8_method_33_code 61 = .ok (.iload_n 1, 1) := by decide +kernel
theorem d_M_isWord_62 : decode prog_8_method_33_code 62 = .ok (.ifCond .eq 8, 3) := by decide +kernel
theorem d_M_isWord_65 : decode prog_8_method_33_code 65 = .ok (.bipush 100, 2) := by decide +kernel
theorem d_M_isWord_67 : decode prog_8_method_33_code 67 = .ok (.goto 19, 3) := by decide +kernel
theorem d_M_isWord_70 : decode prog_8_method_33_code 70 = .ok (.bipush 109, 2) := by decide +kernel
theorem d_M_isWord_72 : decode prog_8_method_33_code 72 = .ok (.goto 14, 3) := by decide +kernel
theorem d_M_isWord_75 : decode prog_8_method_33_code 75 = .ok (.iload_n 1, 1) := by decide +kernel
theorem d_M_isWord_76 : decode prog_8_method_33_code 76 = .ok (.ifCond .eq 8, 3) := by decide +kernel
theorem d_M_isWord_79 : decode prog_8_method_33_code 79 = .ok (.bipush 115, 2) := by decide +kernel
theorem d_M_isWord_81 : decode prog_8_method_33_code 81 = .ok (.goto 5, 3) := by decide +kernel
theorem d_M_isWord_84 : decode prog_8_method_33_code 84 = .ok (.bipush 101, 2) := by decide +kernel
theorem d_M_isWord_86 : decode prog_8_method_33_code 86 = .ok (.istore 4, 2) := by decide +kernel
theorem d_M_isWord_88 : decode prog_8_method_33_code 88 = .ok (.iload_n 2, 1) := by decide +kernel
theorem d_M_isWord_89 : decode prog_8_method_33_code 89 = .ok (.ifCond .eq 16, 3) := by decide +kernel
theorem d_M_isWord_92 : decode prog_8_method_33_code 92 = .ok (.aload_n 0, 1) := by decide +kernel
theorem d_M_isWord_93 : decode prog_8_method_33_code 93 = .ok (.invokevirtual 131, 3) := by decide +kernel
theorem d_M_isWord_96 : decode prog_8_method_33_code 96 = .ok (.iload 4, 2) := by decide +kernel
theorem d_M_isWord_98 : decode prog_8_method_33_code 98 = .ok (.if_icmp .ne 7, 3) := by decide +kernel
theorem d_M_isWord_101 : decode prog_8_method_33_code 101 = .ok (.iconst 1, 1) := by decide +kernel
theorem d_M_isWord_102 : decode prog_8_method_33_code 102 = .ok (.goto 4, 3) := by decide +kernel
theorem d_M_isWord_105 : decode prog_8_method_33_code 105 = .ok (.iconst 0, 1) := by decide +kernel
theorem d_M_isWord_106 : decode prog_8_method_33_code 106 = .ok (.istore_n 2, 1) := by decide +kernel
theorem d_M_isWord_107 : decode prog_8_method_33_code 107 = .ok (.aload_n 0, 1) := by decide +kernel
theorem d_M_isWord_108 : decode prog_8_method_33_code 108 = .ok (.dup, 1) := by decide +kernel
theorem d_M_isWord_109 : decode prog_8_method_33_code 109 = .ok (.getfield 128, 3) := by decide +kernel
theorem d_M_isWord_112 : decode prog_8_method_33_code 112 = .ok (.iload_n 2, 1) := by decide +kernel
theorem d_M_isWord_113 : decode prog_8_method_33_code 113 = .ok (.ifCond .eq 7, 3) := by decide +kernel
theorem d_M_isWord_116 : decode prog_8_method_33_code 116 = .ok (.iconst 1, 1) := by decide +kernel
theorem d_M_isWord_117 : decode prog_8_method_33_code 117 = .ok (.goto 4, 3) := by decide +kernel
theorem d_M_isWord_120 : decode prog_8_method_33_code 120 = .ok (.iconst 0, 1) := by decide +kernel
theorem d_M_isWord_121 : decode prog_8_method_33_code 121 = .ok (.iadd, 1) := by decide +kernel
theorem d_M_isWord_122 : decode prog_8_method_33_code 122 = .ok (.putfield 128, 3) := by decide +kernel
theorem d_M_isWord_125 : decode prog_8_method_33_code 125 = .ok (.iinc 3 1, 3) := by decide +kernel
theorem d_M_isWord_128 : decode prog_8_method_33_code 128 = .ok (.goto (-124), 3) := by decide +kernel
theorem d_M_isWord_131 : decode prog_8_method_33_code 131 = .ok (.iload_n 2, 1) := by decide +kernel
theorem d_M_isWord_132 : decode prog_8_method_33_code 132 = .ok (.ifCond .eq 14, 3) := by decide +kernel
theorem d_M_isWord_135 : decode prog_8_method_33_code 135 = .ok (.aload_n 0, 1) := by decide +kernel
theorem d_M_isWord_136 : decode prog_8_method_33_code 136 = .ok (.invokevirtual 138, 3) := by decide +kernel
theorem d_M_isWord_139 : decode prog_8_method_33_code 139 = .ok (.ifCond .eq 7, 3) := by decide +kernel
theorem d_M_isWord_142 : decode prog_8_method_33_code 142 = .ok (.iconst 1, 1) := by decide +kernel
theorem d_M_isWord_143 : decode prog_8_method_33_code 143 = .ok (.goto 4, 3) := by decide +kernel
theorem d_M_isWord_146 : decode prog_8_method_33_code 146 = .ok (.iconst 0, 1) := by decide +kernel
theorem d_M_isWord_147 : decode prog_8_method_33_code 147 = .ok (.istore_n 2, 1) := by decide +kernel
theorem d_M_isWord_148 : decode prog_8_method_33_code 148 = .ok (.aload_n 0, 1) := by decide +kernel
theorem d_M_isWord_149 : decode prog_8_method_33_code 149 = .ok (.invokevirtual 141, 3) := by decide +kernel
theorem d_M_isWord_152 : decode prog_8_method_33_code 152 = .ok (.iload_n 2, 1) := by decide +kernel
theorem d_M_isWord_153 : decode prog_8_method_33_code 153 = .ok (.ireturn, 1) := by decide +kernel
abbrev y_M_isBetween : MethodName := ⟨"FrameTablesModel", "isBetween", "()Z"⟩
abbrev m_M_isBetween : MethodName × ByteArray × Nat × Option FieldType := (y_M_isBetween, prog_8_method_32_code, 1, some .boolean)
theorem mi_M_isBetween : .code y_M_isBetween prog_8_method_32_code 1 (some .boolean) ∈ wT := wT_m 767 (by decide +kernel) rfl
theorem d_M_isBetween_0 : decode prog_8_method_32_code 0 = .ok (.aload_n 0, 1) := by decide +kernel
theorem d_M_isBetween_1 : decode prog_8_method_32_code 1 = .ok (.invokevirtual 131, 3) := by decide +kernel
theorem d_M_isBetween_4 : decode prog_8_method_32_code 4 = .ok (.bipush 32, 2) := by decide +kernel
theorem d_M_isBetween_6 : decode prog_8_method_32_code 6 = .ok (.if_icmp .eq 10, 3) := by decide +kernel
theorem d_M_isBetween_9 : decode prog_8_method_32_code 9 = .ok (.aload_n 0, 1) := by decide +kernel
theorem d_M_isBetween_10 : decode prog_8_method_32_code 10 = .ok (.invokevirtual 134, 3) := by decide +kernel
theorem d_M_isBetween_13 : decode prog_8_method_32_code 13 = .ok (.ifCond .eq 7, 3) := by decide +kernel
theorem d_M_isBetween_16 : decode prog_8_method_32_code 16 = .ok (.iconst 1, 1) := by decide +kernel
theorem d_M_isBetween_17 : decode prog_8_method_32_code 17 = .ok (.goto 4, 3) := by decide +kernel
theorem d_M_isBetween_20 : decode prog_8_method_32_code 20 = .ok (.iconst 0, 1) := by decide +kernel
theorem d_M_isBetween_21 : decode prog_8_method_32_code 21 = .ok (.ireturn, 1) := by decide +kernel
abbrev y_M_isNumber : MethodName := ⟨"FrameTablesModel", "isNumber", "(II)Z"⟩
abbrev m_M_isNumber : MethodName × ByteArray × Nat × Option FieldType := (y_M_isNumber, prog_8_method_34_code, 5, some .boolean)
theorem mi_M_isNumber : .code y_M_isNumber prog_8_method_34_code 5 (some .boolean) ∈ wT := wT_m 771 (by decide +kernel) rfl
theorem d_M_isNumber_0 : decode prog_8_method_34_code 0 = .ok (.iconst 0, 1) := by decide +kernel
theorem d_M_isNumber_1 : decode prog_8_method_34_code 1 = .ok (.istore_n 3, 1) := by decide +kernel
theorem d_M_isNumber_2 : decode prog_8_method_34_code 2 = .ok (.aload_n 0, 1) := by decide +kernel
theorem d_M_isNumber_3 : decode prog_8_method_34_code 3 = .ok (.iconst 0, 1) := by decide +kernel
theorem d_M_isNumber_4 : decode prog_8_method_34_code 4 = .ok (.putfield 144, 3) := by decide +kernel
theorem d_M_isNumber_7 : decode prog_8_method_34_code 7 = .ok (.aload_n 0, 1) := by decide +kernel
theorem d_M_isNumber_8 : decode prog_8_method_34_code 8 = .ok (.invokevirtual 131, 3) := by decide +kernel
theorem d_M_isNumber_11 : decode prog_8_method_34_code 11 = .ok (.bipush 48, 2) := by decide +kernel
theorem d_M_isNumber_13 : decode prog_8_method_34_code 13 = .ok (.if_icmp .lt 53, 3) := by decide +kernel
theorem d_M_isNumber_16 : decode prog_8_method_34_code 16 = .ok (.aload_n 0, 1) := by decide +kernel
theorem d_M_isNumber_17 : decode prog_8_method_34_code 17 = .ok (.invokevirtual 131, 3) := by decide +kernel
theorem d_M_isNumber_20 : decode prog_8_method_34_code 20 = .ok (.bipush 57, 2) := by decide +kernel
theorem d_M_isNumber_22 : decode prog_8_method_34_code 22 = .ok (.if_icmp .gt 44, 3) := by decide +kernel
theorem d_M_isNumber_25 : decode prog_8_method_34_code 25 = .ok (.iload_n 3, 1) := by decide +kernel
theorem d_M_isNumber_26 : decode prog_8_method_34_code 26 = .ok (.bipush 7, 2) := by decide +kernel
theorem d_M_isNumber_28 : decode prog_8_method_34_code 28 = .ok (.if_icmp .ge 38, 3) := by decide +kernel
theorem d_M_isNumber_31 : decode prog_8_method_34_code 31 = .ok (.aload_n 0, 1) := by decide +kernel
theorem d_M_isNumber_32 : decode prog_8_method_34_code 32 = .ok (.bipush 10, 2) := by decide +kernel
theorem d_M_isNumber_34 : decode prog_8_method_34_code 34 = .ok (.aload_n 0, 1) := by decide +kernel
theorem d_M_isNumber_35 : decode prog_8_method_34_code 35 = .ok (.getfield 144, 3) := by decide +kernel
theorem d_M_isNumber_38 : decode prog_8_method_34_code 38 = .ok (.imul, 1) := by decide +kernel
theorem d_M_isNumber_39 : decode prog_8_method_34_code 39 = .ok (.aload_n 0, 1) := by decide +kernel
theorem d_M_isNumber_40 : decode prog_8_method_34_code 40 = .ok (.invokevirtual 131, 3) := by decide +kernel
theorem d_M_isNumber_43 : decode prog_8_method_34_code 43 = .ok (.iadd, 1) := by decide +kernel
theorem d_M_isNumber_44 : decode prog_8_method_34_code 44 = .ok (.bipush 48, 2) := by decide +kernel
theorem d_M_isNumber_46 : decode prog_8_method_34_code 46 = .ok (.isub, 1) := by decide +kernel
theorem d_M_isNumber_47 : decode prog_8_method_34_code 47 = .ok (.putfield 144, 3) := by decide +kernel
theorem d_M_isNumber_50 : decode prog_8_method_34_code 50 = .ok (.iinc 3 1, 3) := by decide +kernel
theorem d_M_isNumber_53 : decode prog_8_method_34_code 53 = .ok (.aload_n 0, 1) := by decide +kernel
theorem d_M_isNumber_54 : decode prog_8_method_34_code 54 = .ok (.dup, 1) := by decide +kernel
theorem d_M_isNumber_55 : decode prog_8_method_34_code 55 = .ok (.getfield 128, 3) := by decide +kernel
theorem d_M_isNumber_58 : decode prog_8_method_34_code 58 = .ok (.iconst 1, 1) := by decide +kernel
theorem d_M_isNumber_59 : decode prog_8_method_34_code 59 = .ok (.iadd, 1) := by decide +kernel
theorem d_M_isNumber_60 : decode prog_8_method_34_code 60 = .ok (.putfield 128, 3) := by decide +kernel
theorem d_M_isNumber_63 : decode prog_8_method_34_code 63 = .ok (.goto (-56), 3) := by decide +kernel
theorem d_M_isNumber_66 : decode prog_8_method_34_code 66 = .ok (.iload_n 3, 1) := by decide +kernel
theorem d_M_isNumber_67 : decode prog_8_method_34_code 67 = .ok (.ifCond .le 36, 3) := by decide +kernel
theorem d_M_isNumber_70 : decode prog_8_method_34_code 70 = .ok (.iload_n 3, 1) := by decide +kernel
theorem d_M_isNumber_71 : decode prog_8_method_34_code 71 = .ok (.bipush 7, 2) := by decide +kernel
theorem d_M_isNumber_73 : decode prog_8_method_34_code 73 = .ok (.if_icmp .ge 30, 3) := by decide +kernel
theorem d_M_isNumber_76 : decode prog_8_method_34_code 76 = .ok (.aload_n 0, 1) := by decide +kernel
theorem d_M_isNumber_77 : decode prog_8_method_34_code 77 = .ok (.invokevirtual 138, 3) := by decide +kernel
theorem d_M_isNumber_80 : decode prog_8_method_34_code 80 = .ok (.ifCond .eq 23, 3) := by decide +kernel
theorem d_M_isNumber_83 : decode prog_8_method_34_code 83 = .ok (.aload_n 0, 1) := by decide +kernel
theorem d_M_isNumber_84 : decode prog_8_method_34_code 84 = .ok (.getfield 144, 3) := by decide +kernel
theorem d_M_isNumber_87 : decode prog_8_method_34_code 87 = .ok (.iload_n 1, 1) := by decide +kernel
theorem d_M_isNumber_88 : decode prog_8_method_34_code 88 = .ok (.if_icmp .lt 15, 3) := by decide +kernel
theorem d_M_isNumber_91 : decode prog_8_method_34_code 91 = .ok (.aload_n 0, 1) := by decide +kernel
theorem d_M_isNumber_92 : decode prog_8_method_34_code 92 = .ok (.getfield 144, 3) := by decide +kernel
theorem d_M_isNumber_95 : decode prog_8_method_34_code 95 = .ok (.iload_n 2, 1) := by decide +kernel
theorem d_M_isNumber_96 : decode prog_8_method_34_code 96 = .ok (.if_icmp .gt 7, 3) := by decide +kernel
theorem d_M_isNumber_99 : decode prog_8_method_34_code 99 = .ok (.iconst 1, 1) := by decide +kernel
theorem d_M_isNumber_100 : decode prog_8_method_34_code 100 = .ok (.goto 4, 3) := by decide +kernel
theorem d_M_isNumber_103 : decode prog_8_method_34_code 103 = .ok (.iconst 0, 1) := by decide +kernel
theorem d_M_isNumber_104 : decode prog_8_method_34_code 104 = .ok (.istore 4, 2) := by decide +kernel
theorem d_M_isNumber_106 : decode prog_8_method_34_code 106 = .ok (.aload_n 0, 1) := by decide +kernel
theorem d_M_isNumber_107 : decode prog_8_method_34_code 107 = .ok (.invokevirtual 141, 3) := by decide +kernel
theorem d_M_isNumber_110 : decode prog_8_method_34_code 110 = .ok (.iload 4, 2) := by decide +kernel
theorem d_M_isNumber_112 : decode prog_8_method_34_code 112 = .ok (.ireturn, 1) := by decide +kernel
abbrev y_M_takeFrames : MethodName := ⟨"FrameTablesModel", "takeFrames", "(I)V"⟩
abbrev m_M_takeFrames : MethodName × ByteArray × Nat × Option FieldType := (y_M_takeFrames, prog_8_method_36_code, 4, none)
theorem mi_M_takeFrames : .code y_M_takeFrames prog_8_method_36_code 4 none ∈ wT := wT_m 775 (by decide +kernel) rfl
theorem d_M_takeFrames_0 : decode prog_8_method_36_code 0 = .ok (.aload_n 0, 1) := by decide +kernel
theorem d_M_takeFrames_1 : decode prog_8_method_36_code 1 = .ok (.iload_n 1, 1) := by decide +kernel
theorem d_M_takeFrames_2 : decode prog_8_method_36_code 2 = .ok (.putfield 53, 3) := by decide +kernel
theorem d_M_takeFrames_5 : decode prog_8_method_36_code 5 = .ok (.iconst 1, 1) := by decide +kernel
theorem d_M_takeFrames_6 : decode prog_8_method_36_code 6 = .ok (.istore_n 2, 1) := by decide +kernel
theorem d_M_takeFrames_7 : decode prog_8_method_36_code 7 = .ok (.iload_n 2, 1) := by decide +kernel
theorem d_M_takeFrames_8 : decode prog_8_method_36_code 8 = .ok (.iload_n 1, 1) := by decide +kernel
theorem d_M_takeFrames_9 : decode prog_8_method_36_code 9 = .ok (.if_icmp .gt 115, 3) := by decide +kernel
theorem d_M_takeFrames_12 : decode prog_8_method_36_code 12 = .ok (.aload_n 0, 1) := by decide +kernel
theorem d_M_takeFrames_13 : decode prog_8_method_36_code 13 = .ok (.getfield 7, 3) := by decide +kernel
theorem d_M_takeFrames_16 : decode prog_8_method_36_code 16 = .ok (.iload_n 2, 1) := by decide +kernel
theorem d_M_takeFrames_17 : decode prog_8_method_36_code 17 = .ok (.aload_n 0, 1) := by decide +kernel
theorem d_M_takeFrames_18 : decode prog_8_method_36_code 18 = .ok (.getfield 7, 3) := by decide +kernel
theorem d_M_takeFrames_21 : decode prog_8_method_36_code 21 = .ok (.bipush 41, 2) := by decide +kernel
theorem d_M_takeFrames_23 : decode prog_8_method_36_code 23 = .ok (.iload_n 2, 1) := by decide +kernel
theorem d_M_takeFrames_24 : decode prog_8_method_36_code 24 = .ok (.iadd, 1) := by decide +kernel
theorem d_M_takeFrames_25 : decode prog_8_method_36_code 25 = .ok (.iaload, 1) := by decide +kernel
theorem d_M_takeFrames_26 : decode prog_8_method_36_code 26 = .ok (.iastore, 1) := by decide +kernel
theorem d_M_takeFrames_27 : decode prog_8_method_36_code 27 = .ok (.aload_n 0, 1) := by decide +kernel
theorem d_M_takeFrames_28 : decode prog_8_method_36_code 28 = .ok (.getfield 13, 3) := by decide +kernel
theorem d_M_takeFrames_31 : decode prog_8_method_36_code 31 = .ok (.iload_n 2, 1) := by decide +kernel
theorem d_M_takeFrames_32 : decode prog_8_method_36_code 32 = .ok (.aload_n 0, 1) := by decide +kernel
theorem d_M_takeFrames_33 : decode prog_8_method_36_code 33 = .ok (.getfield 13, 3) := by decide +kernel
theorem d_M_takeFrames_36 : decode prog_8_method_36_code 36 = .ok (.bipush 41, 2) := by decide +kernel
theorem d_M_takeFrames_38 : decode prog_8_method_36_code 38 = .ok (.iload_n 2, 1) := by decide +kernel
theorem d_M_takeFrames_39 : decode prog_8_method_36_code 39 = .ok (.iadd, 1) := by decide +kernel
theorem d_M_takeFrames_40 : decode prog_8_method_36_code 40 = .ok (.iaload, 1) := by decide +kernel
theorem d_M_takeFrames_41 : decode prog_8_method_36_code 41 = .ok (.iastore, 1) := by decide +kernel
theorem d_M_takeFrames_42 : decode prog_8_method_36_code 42 = .ok (.aload_n 0, 1) := by decide +kernel
theorem d_M_takeFrames_43 : decode prog_8_method_36_code 43 = .ok (.getfield 16, 3) := by decide +kernel
theorem d_M_takeFrames_46 : decode prog_8_method_36_code 46 = .ok (.iload_n 2, 1) := by decide +kernel
theorem d_M_takeFrames_47 : decode prog_8_method_36_code 47 = .ok (.aload_n 0, 1) := by decide +kernel
theorem d_M_takeFrames_48 : decode prog_8_method_36_code 48 = .ok (.getfield 16, 3) := by decide +kernel
theorem d_M_takeFrames_51 : decode prog_8_method_36_code 51 = .ok (.bipush 41, 2) := by decide +kernel
theorem d_M_takeFrames_53 : decode prog_8_method_36_code 53 = .ok (.iload_n 2, 1) := by decide +kernel
theorem d_M_takeFrames_54 : decode prog_8_method_36_code 54 = .ok (.iadd, 1) := by decide +kernel
theorem d_M_takeFrames_55 : decode prog_8_method_36_code 55 = .ok (.iaload, 1) := by decide +kernel
theorem d_M_takeFrames_56 : decode prog_8_method_36_code 56 = .ok (.iastore, 1) := by decide +kernel
theorem d_M_takeFrames_57 : decode prog_8_method_36_code 57 = .ok (.aload_n 0, 1) := by decide +kernel
theorem d_M_takeFrames_58 : decode prog_8_method_36_code 58 = .ok (.getfield 19, 3) := by decide +kernel
theorem d_M_takeFrames_61 : decode prog_8_method_36_code 61 = .ok (.iload_n 2, 1) := by decide +kernel
theorem d_M_takeFrames_62 : decode prog_8_method_36_code 62 = .ok (.aload_n 0, 1) := by decide +kernel
theorem d_M_takeFrames_63 : decode prog_8_method_36_code 63 = .ok (.getfield 19, 3) := by decide +kernel
theorem d_M_takeFrames_66 : decode prog_8_method_36_code 66 = .ok (.bipush 41, 2) := by decide +kernel
theorem d_M_takeFrames_68 : decode prog_8_method_36_code 68 = .ok (.iload_n 2, 1) := by decide +kernel
theorem d_M_takeFrames_69 : decode prog_8_method_36_code 69 = .ok (.iadd, 1) := by decide +kernel
theorem d_M_takeFrames_70 : decode prog_8_method_36_code 70 = .ok (.iaload, 1) := by decide +kernel
theorem d_M_takeFrames_71 : decode prog_8_method_36_code 71 = .ok (.iastore, 1) := by decide +kernel
theorem d_M_takeFrames_72 : decode prog_8_method_36_code 72 = .ok (.aload_n 0, 1) := by decide +kernel
theorem d_M_takeFrames_73 : decode prog_8_method_36_code 73 = .ok (.getfield 22, 3) := by decide +kernel
theorem d_M_takeFrames_76 : decode prog_8_method_36_code 76 = .ok (.iload_n 2, 1) := by decide +kernel
theorem d_M_takeFrames_77 : decode prog_8_method_36_code 77 = .ok (.iconst 0, 1) := by decide +kernel
theorem d_M_takeFrames_78 : decode prog_8_method_36_code 78 = .ok (.iastore, 1) := by decide +kernel
theorem d_M_takeFrames_79 : decode prog_8_method_36_code 79 = .ok (.iconst 1, 1) := by decide +kernel
theorem d_M_takeFrames_80 : decode prog_8_method_36_code 80 = .ok (.istore_n 3, 1) := by decide +kernel
theorem d_M_takeFrames_81 : decode prog_8_method_36_code 81 = .ok (.iload_n 3, 1) := by decide +kernel
theorem d_M_takeFrames_82 : decode prog_8_method_36_code 82 = .ok (.bipush 20, 2) := by decide +kernel
theorem d_M_takeFrames_84 : decode prog_8_method_36_code 84 = .ok (.if_icmp .gt 34, 3) := by decide +kernel
theorem d_M_takeFrames_87 : decode prog_8_method_36_code 87 = .ok (.aload_n 0, 1) := by decide +kernel
theorem d_M_takeFrames_88 : decode prog_8_method_36_code 88 = .ok (.getfield 25, 3) := by decide +kernel
theorem d_M_takeFrames_91 : decode prog_8_method_36_code 91 = .ok (.bipush 21, 2) := by decide +kernel
theorem d_M_takeFrames_93 : decode prog_8_method_36_code 93 = .ok (.iload_n 2, 1) := by decide +kernel
theorem d_M_takeFrames_94 : decode prog_8_method_36_code 94 = .ok (.imul, 1) := by decide +kernel
theorem d_M_takeFrames_95 : decode prog_8_method_36_code 95 = .ok (.iload_n 3, 1) := by decide +kernel
theorem d_M_takeFrames_96 : decode prog_8_method_36_code 96 = .ok (.iadd, 1) := by decide +kernel
theorem d_M_takeFrames_97 : decode prog_8_method_36_code 97 = .ok (.aload_n 0, 1) := by decide +kernel
theorem d_M_takeFrames_98 : decode prog_8_method_36_code 98 = .ok (.getfield 25, 3) := by decide +kernel
theorem d_M_takeFrames_101 : decode prog_8_method_36_code 101 = .ok (.bipush 21, 2) := by decide +kernel
theorem d_M_takeFrames_103 : decode prog_8_method_36_code 103 = .ok (.bipush 41, 2) := by decide +kernel
theorem d_M_takeFrames_105 : decode prog_8_method_36_code 105 = .ok (.iload_n 2, 1) := by decide +kernel
theorem d_M_takeFrames_106 : decode prog_8_method_36_code 106 = .ok (.iadd, 1) := by decide +kernel
theorem d_M_takeFrames_107 : decode prog_8_method_36_code 107 = .ok (.imul, 1) := by decide +kernel
theorem d_M_takeFrames_108 : decode prog_8_method_36_code 108 = .ok (.iload_n 3, 1) := by decide +kernel
theorem d_M_takeFrames_109 : decode prog_8_method_36_code 109 = .ok (.iadd, 1) := by decide +kernel
theorem d_M_takeFrames_110 : decode prog_8_method_36_code 110 = .ok (.iaload, 1) := by decide +kernel
theorem d_M_takeFrames_111 : decode prog_8_method_36_code 111 = .ok (.iastore, 1) := by decide +kernel
theorem d_M_takeFrames_112 : decode prog_8_method_36_code 112 = .ok (.iinc 3 1, 3) := by decide +kernel
theorem d_M_takeFrames_115 : decode prog_8_method_36_code 115 = .ok (.goto (-34), 3) := by decide +kernel
theorem d_M_takeFrames_118 : decode prog_8_method_36_code 118 = .ok (.iinc 2 1, 3) := by decide +kernel
theorem d_M_takeFrames_121 : decode prog_8_method_36_code 121 = .ok (.goto (-114), 3) := by decide +kernel
theorem d_M_takeFrames_124 : decode prog_8_method_36_code 124 = .ok (.aload_n 0, 1) := by decide +kernel
theorem d_M_takeFrames_125 : decode prog_8_method_36_code 125 = .ok (.iconst 0, 1) := by decide +kernel
theorem d_M_takeFrames_126 : decode prog_8_method_36_code 126 = .ok (.putfield 66, 3) := by decide +kernel
theorem d_M_takeFrames_129 : decode prog_8_method_36_code 129 = .ok (.return_, 1) := by decide +kernel
abbrev y_M_touched : MethodName := ⟨"FrameTablesModel", "touched", "(II)I"⟩
abbrev m_M_touched : MethodName × ByteArray × Nat × Option FieldType := (y_M_touched, prog_8_method_38_code, 5, some .int)
theorem mi_M_touched : .code y_M_touched prog_8_method_38_code 5 (some .int) ∈ wT := wT_m 779 (by decide +kernel) rfl
theorem d_M_touched_0 : decode prog_8_method_38_code 0 = .ok (.aload_n 0, 1) := by decide +kernel
theorem d_M_touched_1 : decode prog_8_method_38_code 1 = .ok (.iconst 0, 1) := by decide +kernel
theorem d_M_touched_2 : decode prog_8_method_38_code 2 = .ok (.putfield 49, 3) := by decide +kernel
theorem d_M_touched_5 : decode prog_8_method_38_code 5 = .ok (.aload_n 0, 1) := by decide +kernel
theorem d_M_touched_6 : decode prog_8_method_38_code 6 = .ok (.iload_n 1, 1) := by decide +kernel
theorem d_M_touched_7 : decode prog_8_method_38_code 7 = .ok (.invokevirtual 70, 3) := by decide +kernel
theorem d_M_touched_10 : decode prog_8_method_38_code 10 = .ok (.ifCond .ne 5, 3) := by decide +kernel
theorem d_M_touched_13 : decode prog_8_method_38_code 13 = .ok (.iconst (-1), 1) := by decide +kernel
theorem d_M_touched_14 : decode prog_8_method_38_code 14 = .ok (.ireturn, 1) := by decide +kernel
theorem d_M_touched_15 : decode prog_8_method_38_code 15 = .ok (.iconst 0, 1) := by decide +kernel
theorem d_M_touched_16 : decode prog_8_method_38_code 16 = .ok (.istore_n 3, 1) := by decide +kernel
theorem d_M_touched_17 : decode prog_8_method_38_code 17 = .ok (.iconst 1, 1) := by decide +kernel
theorem d_M_touched_18 : decode prog_8_method_38_code 18 = .ok (.istore 4, 2) := by decide +kernel
theorem d_M_touched_20 : decode prog_8_method_38_code 20 = .ok (.iload 4, 2) := by decide +kernel
theorem d_M_touched_22 : decode prog_8_method_38_code 22 = .ok (.bipush 20, 2) := by decide +kernel
theorem d_M_touched_24 : decode prog_8_method_38_code 24 = .ok (.if_icmp .gt 46, 3) := by decide +kernel
theorem d_M_touched_27 : decode prog_8_method_38_code 27 = .ok (.iload 4, 2) := by decide +kernel
theorem d_M_touched_29 : decode prog_8_method_38_code 29 = .ok (.aload_n 0, 1) := by decide +kernel
theorem d_M_touched_30 : decode prog_8_method_38_code 30 = .ok (.getfield 7, 3) := by decide +kernel
theorem d_M_touched_33 : decode prog_8_method_38_code 33 = .ok (.iload_n 1, 1) := by decide +kernel
theorem d_M_touched_34 : decode prog_8_method_38_code 34 = .ok (.iaload, 1) := by decide +kernel
theorem d_M_touched_35 : decode prog_8_method_38_code 35 = .ok (.if_icmp .eq 18, 3) := by decide +kernel
theorem d_M_touched_38 : decode prog_8_method_38_code 38 = .ok (.aload_n 0, 1) := by decide +kernel
theorem d_M_touched_39 : decode prog_8_method_38_code 39 = .ok (.getfield 25, 3) := by decide +kernel
theorem d_M_touched_42 : decode prog_8_method_38_code 42 = .ok (.bipush 21, 2) := by decide +kernel
theorem d_M_touched_44 : decode prog_8_method_38_code 44 = .ok (.iload_n 1, 1) := by decide +kernel
theorem d_M_touched_45 : decode prog_8_method_38_code 45 = .ok (.imul, 1) := by decide +kernel
theorem d_M_touched_46 : decode prog_8_method_38_code 46 = .ok (.iload 4, 2) := by decide +kernel
theorem d_M_touched_48 : decode prog_8_method_38_code 48 = .ok (.iadd, 1) := by decide +kernel
theorem d_M_touched_49 : decode prog_8_method_38_code 49 = .ok (.iaload, 1) := by decide +kernel
theorem d_M_touched_50 : decode prog_8_method_38_code 50 = .ok (.ifCond .le 14, 3) := by decide +kernel
theorem d_M_touched_53 : decode prog_8_method_38_code 53 = .ok (.iload_n 3, 1) := by decide +kernel
theorem d_M_touched_54 : decode prog_8_method_38_code 54 = .ok (.iload_n 2, 1) := by decide +kernel
theorem d_M_touched_55 : decode prog_8_method_38_code 55 = .ok (.if_icmp .ne 6, 3) := by decide +kernel
theorem d_M_touched_58 : decode prog_8_method_38_code 58 = .ok (.iload 4, 2) := by decide +kernel
theorem d_M_touched_60 : decode prog_8_method_38_code 60 = .ok (.ireturn, 1) := by decide +kernel
theorem d_M_touched_61 : decode prog_8_method_38_code 61 = .ok (.iinc 3 1, 3) := by decide +kernel
theorem d_M_touched_64 : decode prog_8_method_38_code 64 = .ok (.iinc 4 1, 3) := by decide +kernel
theorem d_M_touched_67 : decode prog_8_method_38_code 67 = .ok (.goto (-47), 3) := by decide +kernel
theorem d_M_touched_70 : decode prog_8_method_38_code 70 = .ok (.iconst 0, 1) := by decide +kernel
theorem d_M_touched_71 : decode prog_8_method_38_code 71 = .ok (.ireturn, 1) := by decide +kernel
