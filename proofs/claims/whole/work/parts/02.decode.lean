-- decode rows as the kit prints them
theorem dX0_init_0 : decode cX0_init 0 = .ok (.aload_n 0, 1) := by decide +kernel
theorem dX0_init_1 : decode cX0_init 1 = .ok (.invokespecial 3, 3) := by decide +kernel
theorem dX0_init_4 : decode cX0_init 4 = .ok (.aload_n 0, 1) := by decide +kernel
theorem dX0_init_5 : decode cX0_init 5 = .ok (.bipush 30, 2) := by decide +kernel
theorem dX0_init_7 : decode cX0_init 7 = .ok (.newarray .int, 2) := by decide +kernel
theorem dX0_init_9 : decode cX0_init 9 = .ok (.putfield 9, 3) := by decide +kernel
theorem dX0_init_12 : decode cX0_init 12 = .ok (.aload_n 0, 1) := by decide +kernel
theorem dX0_init_13 : decode cX0_init 13 = .ok (.bipush 30, 2) := by decide +kernel
theorem dX0_init_15 : decode cX0_init 15 = .ok (.newarray .int, 2) := by decide +kernel
theorem dX0_init_17 : decode cX0_init 17 = .ok (.putfield 15, 3) := by decide +kernel
theorem dX0_init_20 : decode cX0_init 20 = .ok (.aload_n 0, 1) := by decide +kernel
theorem dX0_init_21 : decode cX0_init 21 = .ok (.bipush 30, 2) := by decide +kernel
theorem dX0_init_23 : decode cX0_init 23 = .ok (.newarray .int, 2) := by decide +kernel
theorem dX0_init_25 : decode cX0_init 25 = .ok (.putfield 18, 3) := by decide +kernel
theorem dX0_init_28 : decode cX0_init 28 = .ok (.aload_n 0, 1) := by decide +kernel
theorem dX0_init_29 : decode cX0_init 29 = .ok (.iconst 0, 1) := by decide +kernel
theorem dX0_init_30 : decode cX0_init 30 = .ok (.putfield 21, 3) := by decide +kernel
theorem dX0_init_33 : decode cX0_init 33 = .ok (.aload_n 0, 1) := by decide +kernel
theorem dX0_init_34 : decode cX0_init 34 = .ok (.iconst 0, 1) := by decide +kernel
theorem dX0_init_35 : decode cX0_init 35 = .ok (.putfield 25, 3) := by decide +kernel
theorem dX0_init_38 : decode cX0_init 38 = .ok (.return_, 1) := by decide +kernel
theorem dX0_read_0 : decode cX0_read 0 = .ok (.aload_n 0, 1) := by decide +kernel
theorem dX0_read_1 : decode cX0_read 1 = .ok (.iconst 0, 1) := by decide +kernel
theorem dX0_read_2 : decode cX0_read 2 = .ok (.putfield 21, 3) := by decide +kernel
theorem dX0_read_5 : decode cX0_read 5 = .ok (.aload_n 0, 1) := by decide +kernel
theorem dX0_read_6 : decode cX0_read 6 = .ok (.iconst 0, 1) := by decide +kernel
theorem dX0_read_7 : decode cX0_read 7 = .ok (.putfield 25, 3) := by decide +kernel
theorem dX0_read_10 : decode cX0_read 10 = .ok (.iconst 0, 1) := by decide +kernel
theorem dX0_read_11 : decode cX0_read 11 = .ok (.istore_n 2, 1) := by decide +kernel
theorem dX0_read_12 : decode cX0_read 12 = .ok (.iload_n 2, 1) := by decide +kernel
theorem dX0_read_13 : decode cX0_read 13 = .ok (.bipush 30, 2) := by decide +kernel
theorem dX0_read_15 : decode cX0_read 15 = .ok (.if_icmp .ge 61, 3) := by decide +kernel
theorem dX0_read_18 : decode cX0_read 18 = .ok (.aload_n 0, 1) := by decide +kernel
theorem dX0_read_19 : decode cX0_read 19 = .ok (.aload_n 1, 1) := by decide +kernel
theorem dX0_read_20 : decode cX0_read 20 = .ok (.iload_n 2, 1) := by decide +kernel
theorem dX0_read_21 : decode cX0_read 21 = .ok (.invokevirtual 28, 3) := by decide +kernel
theorem dX0_read_24 : decode cX0_read 24 = .ok (.ifCond .ne 8, 3) := by decide +kernel
theorem dX0_read_27 : decode cX0_read 27 = .ok (.aload_n 0, 1) := by decide +kernel
theorem dX0_read_28 : decode cX0_read 28 = .ok (.getfield 25, 3) := by decide +kernel
theorem dX0_read_31 : decode cX0_read 31 = .ok (.ireturn, 1) := by decide +kernel
theorem dX0_read_32 : decode cX0_read 32 = .ok (.aload_n 0, 1) := by decide +kernel
theorem dX0_read_33 : decode cX0_read 33 = .ok (.dup, 1) := by decide +kernel
theorem dX0_read_34 : decode cX0_read 34 = .ok (.getfield 21, 3) := by decide +kernel
theorem dX0_read_37 : decode cX0_read 37 = .ok (.iconst 1, 1) := by decide +kernel
theorem dX0_read_38 : decode cX0_read 38 = .ok (.iadd, 1) := by decide +kernel
theorem dX0_read_39 : decode cX0_read 39 = .ok (.putfield 21, 3) := by decide +kernel
theorem dX0_read_42 : decode cX0_read 42 = .ok (.aload_n 0, 1) := by decide +kernel
theorem dX0_read_43 : decode cX0_read 43 = .ok (.getfield 25, 3) := by decide +kernel
theorem dX0_read_46 : decode cX0_read 46 = .ok (.aload_n 1, 1) := by decide +kernel
theorem dX0_read_47 : decode cX0_read 47 = .ok (.getfield 32, 3) := by decide +kernel
theorem dX0_read_50 : decode cX0_read 50 = .ok (.if_icmp .ne 5, 3) := by decide +kernel
theorem dX0_read_53 : decode cX0_read 53 = .ok (.iconst (-1), 1) := by decide +kernel
theorem dX0_read_54 : decode cX0_read 54 = .ok (.ireturn, 1) := by decide +kernel
theorem dX0_read_55 : decode cX0_read 55 = .ok (.aload_n 0, 1) := by decide +kernel
theorem dX0_read_56 : decode cX0_read 56 = .ok (.aload_n 1, 1) := by decide +kernel
theorem dX0_read_57 : decode cX0_read 57 = .ok (.bipush 59, 2) := by decide +kernel
theorem dX0_read_59 : decode cX0_read 59 = .ok (.invokevirtual 37, 3) := by decide +kernel
theorem dX0_read_62 : decode cX0_read 62 = .ok (.ifCond .ne 8, 3) := by decide +kernel
theorem dX0_read_65 : decode cX0_read 65 = .ok (.aload_n 0, 1) := by decide +kernel
theorem dX0_read_66 : decode cX0_read 66 = .ok (.getfield 25, 3) := by decide +kernel
theorem dX0_read_69 : decode cX0_read 69 = .ok (.ireturn, 1) := by decide +kernel
theorem dX0_read_70 : decode cX0_read 70 = .ok (.iinc 2 1, 3) := by decide +kernel
theorem dX0_read_73 : decode cX0_read 73 = .ok (.goto (-61), 3) := by decide +kernel
theorem dX0_read_76 : decode cX0_read 76 = .ok (.aload_n 0, 1) := by decide +kernel
theorem dX0_read_77 : decode cX0_read 77 = .ok (.getfield 25, 3) := by decide +kernel
theorem dX0_read_80 : decode cX0_read 80 = .ok (.ireturn, 1) := by decide +kernel
theorem dX0_readCommand_0 : decode cX0_readCommand 0 = .ok (.aload_n 1, 1) := by decide +kernel
theorem dX0_readCommand_1 : decode cX0_readCommand 1 = .ok (.aload_n 0, 1) := by decide +kernel
theorem dX0_readCommand_2 : decode cX0_readCommand 2 = .ok (.getfield 25, 3) := by decide +kernel
theorem dX0_readCommand_5 : decode cX0_readCommand 5 = .ok (.invokevirtual 40, 3) := by decide +kernel
theorem dX0_readCommand_8 : decode cX0_readCommand 8 = .ok (.istore_n 3, 1) := by decide +kernel
theorem dX0_readCommand_9 : decode cX0_readCommand 9 = .ok (.iload_n 3, 1) := by decide +kernel
theorem dX0_readCommand_10 : decode cX0_readCommand 10 = .ok (.bipush 97, 2) := by decide +kernel
theorem dX0_readCommand_12 : decode cX0_readCommand 12 = .ok (.if_icmp .eq 15, 3) := by decide +kernel
theorem dX0_readCommand_15 : decode cX0_readCommand 15 = .ok (.iload_n 3, 1) := by decide +kernel
theorem dX0_readCommand_16 : decode cX0_readCommand 16 = .ok (.bipush 111, 2) := by decide +kernel
theorem dX0_readCommand_18 : decode cX0_readCommand 18 = .ok (.if_icmp .eq 9, 3) := by decide +kernel
theorem dX0_readCommand_21 : decode cX0_readCommand 21 = .ok (.iload_n 3, 1) := by decide +kernel
theorem dX0_readCommand_22 : decode cX0_readCommand 22 = .ok (.bipush 116, 2) := by decide +kernel
theorem dX0_readCommand_24 : decode cX0_readCommand 24 = .ok (.if_icmp .ne 7, 3) := by decide +kernel
theorem dX0_readCommand_27 : decode cX0_readCommand 27 = .ok (.iconst 1, 1) := by decide +kernel
theorem dX0_readCommand_28 : decode cX0_readCommand 28 = .ok (.goto 4, 3) := by decide +kernel
theorem dX0_readCommand_31 : decode cX0_readCommand 31 = .ok (.iconst 0, 1) := by decide +kernel
theorem dX0_readCommand_32 : decode cX0_readCommand 32 = .ok (.istore 4, 2) := by decide +kernel
theorem dX0_readCommand_34 : decode cX0_readCommand 34 = .ok (.iload 4, 2) := by decide +kernel
theorem dX0_readCommand_36 : decode cX0_readCommand 36 = .ok (.ifCond .ne 23, 3) := by decide +kernel
theorem dX0_readCommand_39 : decode cX0_readCommand 39 = .ok (.iload_n 3, 1) := by decide +kernel
theorem dX0_readCommand_40 : decode cX0_readCommand 40 = .ok (.bipush 108, 2) := by decide +kernel
theorem dX0_readCommand_42 : decode cX0_readCommand 42 = .ok (.if_icmp .eq 17, 3) := by decide +kernel
theorem dX0_readCommand_45 : decode cX0_readCommand 45 = .ok (.iload_n 3, 1) := by decide +kernel
theorem dX0_readCommand_46 : decode cX0_readCommand 46 = .ok (.bipush 120, 2) := by decide +kernel
theorem dX0_readCommand_48 : decode cX0_readCommand 48 = .ok (.if_icmp .eq 11, 3) := by decide +kernel
theorem dX0_readCommand_51 : decode cX0_readCommand 51 = .ok (.iload_n 3, 1) := by decide +kernel
theorem dX0_readCommand_52 : decode cX0_readCommand 52 = .ok (.bipush 103, 2) := by decide +kernel
theorem dX0_readCommand_54 : decode cX0_readCommand 54 = .ok (.if_icmp .eq 5, 3) := by decide +kernel
theorem dX0_readCommand_57 : decode cX0_readCommand 57 = .ok (.iconst 0, 1) := by decide +kernel
theorem dX0_readCommand_58 : decode cX0_readCommand 58 = .ok (.ireturn, 1) := by decide +kernel
theorem dX0_readCommand_59 : decode cX0_readCommand 59 = .ok (.aload_n 0, 1) := by decide +kernel
theorem dX0_readCommand_60 : decode cX0_readCommand 60 = .ok (.dup, 1) := by decide +kernel
theorem dX0_readCommand_61 : decode cX0_readCommand 61 = .ok (.getfield 25, 3) := by decide +kernel
theorem dX0_readCommand_64 : decode cX0_readCommand 64 = .ok (.iconst 1, 1) := by decide +kernel
theorem dX0_readCommand_65 : decode cX0_readCommand 65 = .ok (.iadd, 1) := by decide +kernel
theorem dX0_readCommand_66 : decode cX0_readCommand 66 = .ok (.putfield 25, 3) := by decide +kernel
theorem dX0_readCommand_69 : decode cX0_readCommand 69 = .ok (.aload_n 0, 1) := by decide +kernel
theorem dX0_readCommand_70 : decode cX0_readCommand 70 = .ok (.getfield 9, 3) := by decide +kernel
theorem dX0_readCommand_73 : decode cX0_readCommand 73 = .ok (.iload_n 2, 1) := by decide +kernel
theorem dX0_readCommand_74 : decode cX0_readCommand 74 = .ok (.iload_n 3, 1) := by decide +kernel
theorem dX0_readCommand_75 : decode cX0_readCommand 75 = .ok (.iastore, 1) := by decide +kernel
theorem dX0_readCommand_76 : decode cX0_readCommand 76 = .ok (.aload_n 0, 1) := by decide +kernel
theorem dX0_readCommand_77 : decode cX0_readCommand 77 = .ok (.getfield 15, 3) := by decide +kernel
theorem dX0_readCommand_80 : decode cX0_readCommand 80 = .ok (.iload_n 2, 1) := by decide +kernel
theorem dX0_readCommand_81 : decode cX0_readCommand 81 = .ok (.aload_n 0, 1) := by decide +kernel
theorem dX0_readCommand_82 : decode cX0_readCommand 82 = .ok (.aload_n 1, 1) := by decide +kernel
theorem dX0_readCommand_83 : decode cX0_readCommand 83 = .ok (.invokevirtual 43, 3) := by decide +kernel
theorem dX0_readCommand_86 : decode cX0_readCommand 86 = .ok (.iastore, 1) := by decide +kernel
theorem dX0_readCommand_87 : decode cX0_readCommand 87 = .ok (.aload_n 0, 1) := by decide +kernel
theorem dX0_readCommand_88 : decode cX0_readCommand 88 = .ok (.getfield 18, 3) := by decide +kernel
theorem dX0_readCommand_91 : decode cX0_readCommand 91 = .ok (.iload_n 2, 1) := by decide +kernel
theorem dX0_readCommand_92 : decode cX0_readCommand 92 = .ok (.iconst 0, 1) := by decide +kernel
theorem dX0_readCommand_93 : decode cX0_readCommand 93 = .ok (.iastore, 1) := by decide +kernel
theorem dX0_readCommand_94 : decode cX0_readCommand 94 = .ok (.iload 4, 2) := by decide +kernel
theorem dX0_readCommand_96 : decode cX0_readCommand 96 = .ok (.ifCond .eq 38, 3) := by decide +kernel
theorem dX0_readCommand_99 : decode cX0_readCommand 99 = .ok (.aload_n 0, 1) := by decide +kernel
theorem dX0_readCommand_100 : decode cX0_readCommand 100 = .ok (.getfield 15, 3) := by decide +kernel
theorem dX0_readCommand_103 : decode cX0_readCommand 103 = .ok (.iload_n 2, 1) := by decide +kernel
theorem dX0_readCommand_104 : decode cX0_readCommand 104 = .ok (.iaload, 1) := by decide +kernel
theorem dX0_readCommand_105 : decode cX0_readCommand 105 = .ok (.ifCond .lt 29, 3) := by decide +kernel
theorem dX0_readCommand_108 : decode cX0_readCommand 108 = .ok (.aload_n 0, 1) := by decide +kernel
theorem dX0_readCommand_109 : decode cX0_readCommand 109 = .ok (.getfield 18, 3) := by decide +kernel
theorem dX0_readCommand_112 : decode cX0_readCommand 112 = .ok (.iload_n 2, 1) := by decide +kernel
theorem dX0_readCommand_113 : decode cX0_readCommand 113 = .ok (.aload_n 0, 1) := by decide +kernel
theorem dX0_readCommand_114 : decode cX0_readCommand 114 = .ok (.aload_n 1, 1) := by decide +kernel
theorem dX0_readCommand_115 : decode cX0_readCommand 115 = .ok (.bipush 44, 2) := by decide +kernel
theorem dX0_readCommand_117 : decode cX0_readCommand 117 = .ok (.invokevirtual 37, 3) := by decide +kernel
theorem dX0_readCommand_120 : decode cX0_readCommand 120 = .ok (.ifCond .eq 11, 3) := by decide +kernel
theorem dX0_readCommand_123 : decode cX0_readCommand 123 = .ok (.aload_n 0, 1) := by decide +kernel
theorem dX0_readCommand_124 : decode cX0_readCommand 124 = .ok (.aload_n 1, 1) := by decide +kernel
theorem dX0_readCommand_125 : decode cX0_readCommand 125 = .ok (.invokevirtual 43, 3) := by decide +kernel
theorem dX0_readCommand_128 : decode cX0_readCommand 128 = .ok (.goto 5, 3) := by decide +kernel
theorem dX0_readCommand_131 : decode cX0_readCommand 131 = .ok (.bipush (-5), 2) := by decide +kernel
theorem dX0_readCommand_133 : decode cX0_readCommand 133 = .ok (.iastore, 1) := by decide +kernel
theorem dX0_readCommand_134 : decode cX0_readCommand 134 = .ok (.aload_n 0, 1) := by decide +kernel
theorem dX0_readCommand_135 : decode cX0_readCommand 135 = .ok (.getfield 15, 3) := by decide +kernel
theorem dX0_readCommand_138 : decode cX0_readCommand 138 = .ok (.iload_n 2, 1) := by decide +kernel
theorem dX0_readCommand_139 : decode cX0_readCommand 139 = .ok (.iaload, 1) := by decide +kernel
theorem dX0_readCommand_140 : decode cX0_readCommand 140 = .ok (.ifCond .lt 16, 3) := by decide +kernel
theorem dX0_readCommand_143 : decode cX0_readCommand 143 = .ok (.aload_n 0, 1) := by decide +kernel
theorem dX0_readCommand_144 : decode cX0_readCommand 144 = .ok (.getfield 18, 3) := by decide +kernel
theorem dX0_readCommand_147 : decode cX0_readCommand 147 = .ok (.iload_n 2, 1) := by decide +kernel
theorem dX0_readCommand_148 : decode cX0_readCommand 148 = .ok (.iaload, 1) := by decide +kernel
theorem dX0_readCommand_149 : decode cX0_readCommand 149 = .ok (.ifCond .lt 7, 3) := by decide +kernel
theorem dX0_readCommand_152 : decode cX0_readCommand 152 = .ok (.iconst 1, 1) := by decide +kernel
theorem dX0_readCommand_153 : decode cX0_readCommand 153 = .ok (.goto 4, 3) := by decide +kernel
theorem dX0_readCommand_156 : decode cX0_readCommand 156 = .ok (.iconst 0, 1) := by decide +kernel
theorem dX0_readCommand_157 : decode cX0_readCommand 157 = .ok (.ireturn, 1) := by decide +kernel
theorem dX0_readSign_0 : decode cX0_readSign 0 = .ok (.aload_n 1, 1) := by decide +kernel
theorem dX0_readSign_1 : decode cX0_readSign 1 = .ok (.aload_n 0, 1) := by decide +kernel
theorem dX0_readSign_2 : decode cX0_readSign 2 = .ok (.getfield 25, 3) := by decide +kernel
theorem dX0_readSign_5 : decode cX0_readSign 5 = .ok (.invokevirtual 40, 3) := by decide +kernel
theorem dX0_readSign_8 : decode cX0_readSign 8 = .ok (.iload_n 2, 1) := by decide +kernel
theorem dX0_readSign_9 : decode cX0_readSign 9 = .ok (.if_icmp .eq 5, 3) := by decide +kernel
theorem dX0_readSign_12 : decode cX0_readSign 12 = .ok (.iconst 0, 1) := by decide +kernel
theorem dX0_readSign_13 : decode cX0_readSign 13 = .ok (.ireturn, 1) := by decide +kernel
theorem dX0_readSign_14 : decode cX0_readSign 14 = .ok (.aload_n 0, 1) := by decide +kernel
theorem dX0_readSign_15 : decode cX0_readSign 15 = .ok (.dup, 1) := by decide +kernel
theorem dX0_readSign_16 : decode cX0_readSign 16 = .ok (.getfield 25, 3) := by decide +kernel
theorem dX0_readSign_19 : decode cX0_readSign 19 = .ok (.iconst 1, 1) := by decide +kernel
theorem dX0_readSign_20 : decode cX0_readSign 20 = .ok (.iadd, 1) := by decide +kernel
theorem dX0_readSign_21 : decode cX0_readSign 21 = .ok (.putfield 25, 3) := by decide +kernel
theorem dX0_readSign_24 : decode cX0_readSign 24 = .ok (.iconst 1, 1) := by decide +kernel
theorem dX0_readSign_25 : decode cX0_readSign 25 = .ok (.ireturn, 1) := by decide +kernel
theorem dX0_readNumber_0 : decode cX0_readNumber 0 = .ok (.aload_n 1, 1) := by decide +kernel
theorem dX0_readNumber_1 : decode cX0_readNumber 1 = .ok (.aload_n 0, 1) := by decide +kernel
theorem dX0_readNumber_2 : decode cX0_readNumber 2 = .ok (.getfield 25, 3) := by decide +kernel
theorem dX0_readNumber_5 : decode cX0_readNumber 5 = .ok (.invokevirtual 40, 3) := by decide +kernel
theorem dX0_readNumber_8 : decode cX0_readNumber 8 = .ok (.invokestatic 47, 3) := by decide +kernel
theorem dX0_readNumber_11 : decode cX0_readNumber 11 = .ok (.ifCond .ne 6, 3) := by decide +kernel
theorem dX0_readNumber_14 : decode cX0_readNumber 14 = .ok (.bipush (-5), 2) := by decide +kernel
theorem dX0_readNumber_16 : decode cX0_readNumber 16 = .ok (.ireturn, 1) := by decide +kernel
theorem dX0_readNumber_17 : decode cX0_readNumber 17 = .ok (.aload_n 1, 1) := by decide +kernel
theorem dX0_readNumber_18 : decode cX0_readNumber 18 = .ok (.aload_n 0, 1) := by decide +kernel
theorem dX0_readNumber_19 : decode cX0_readNumber 19 = .ok (.getfield 25, 3) := by decide +kernel
theorem dX0_readNumber_22 : decode cX0_readNumber 22 = .ok (.invokevirtual 40, 3) := by decide +kernel
theorem dX0_readNumber_25 : decode cX0_readNumber 25 = .ok (.bipush 48, 2) := by decide +kernel
theorem dX0_readNumber_27 : decode cX0_readNumber 27 = .ok (.isub, 1) := by decide +kernel
theorem dX0_readNumber_28 : decode cX0_readNumber 28 = .ok (.istore_n 2, 1) := by decide +kernel
theorem dX0_readNumber_29 : decode cX0_readNumber 29 = .ok (.aload_n 0, 1) := by decide +kernel
theorem dX0_readNumber_30 : decode cX0_readNumber 30 = .ok (.dup, 1) := by decide +kernel
theorem dX0_readNumber_31 : decode cX0_readNumber 31 = .ok (.getfield 25, 3) := by decide +kernel
theorem dX0_readNumber_34 : decode cX0_readNumber 34 = .ok (.iconst 1, 1) := by decide +kernel
theorem dX0_readNumber_35 : decode cX0_readNumber 35 = .ok (.iadd, 1) := by decide +kernel
theorem dX0_readNumber_36 : decode cX0_readNumber 36 = .ok (.putfield 25, 3) := by decide +kernel
theorem dX0_readNumber_39 : decode cX0_readNumber 39 = .ok (.aload_n 1, 1) := by decide +kernel
theorem dX0_readNumber_40 : decode cX0_readNumber 40 = .ok (.aload_n 0, 1) := by decide +kernel
theorem dX0_readNumber_41 : decode cX0_readNumber 41 = .ok (.getfield 25, 3) := by decide +kernel
theorem dX0_readNumber_44 : decode cX0_readNumber 44 = .ok (.invokevirtual 40, 3) := by decide +kernel
theorem dX0_readNumber_47 : decode cX0_readNumber 47 = .ok (.invokestatic 47, 3) := by decide +kernel
theorem dX0_readNumber_50 : decode cX0_readNumber 50 = .ok (.ifCond .eq 30, 3) := by decide +kernel
theorem dX0_readNumber_53 : decode cX0_readNumber 53 = .ok (.bipush 10, 2) := by decide +kernel
theorem dX0_readNumber_55 : decode cX0_readNumber 55 = .ok (.iload_n 2, 1) := by decide +kernel
theorem dX0_readNumber_56 : decode cX0_readNumber 56 = .ok (.imul, 1) := by decide +kernel
theorem dX0_readNumber_57 : decode cX0_readNumber 57 = .ok (.aload_n 1, 1) := by decide +kernel
theorem dX0_readNumber_58 : decode cX0_readNumber 58 = .ok (.aload_n 0, 1) := by decide +kernel
theorem dX0_readNumber_59 : decode cX0_readNumber 59 = .ok (.getfield 25, 3) := by decide +kernel
theorem dX0_readNumber_62 : decode cX0_readNumber 62 = .ok (.invokevirtual 40, 3) := by decide +kernel
theorem dX0_readNumber_65 : decode cX0_readNumber 65 = .ok (.iadd, 1) := by decide +kernel
theorem dX0_readNumber_66 : decode cX0_readNumber 66 = .ok (.bipush 48, 2) := by decide +kernel
theorem dX0_readNumber_68 : decode cX0_readNumber 68 = .ok (.isub, 1) := by decide +kernel
theorem dX0_readNumber_69 : decode cX0_readNumber 69 = .ok (.istore_n 2, 1) := by decide +kernel
theorem dX0_readNumber_70 : decode cX0_readNumber 70 = .ok (.aload_n 0, 1) := by decide +kernel
theorem dX0_readNumber_71 : decode cX0_readNumber 71 = .ok (.dup, 1) := by decide +kernel
theorem dX0_readNumber_72 : decode cX0_readNumber 72 = .ok (.getfield 25, 3) := by decide +kernel
theorem dX0_readNumber_75 : decode cX0_readNumber 75 = .ok (.iconst 1, 1) := by decide +kernel
theorem dX0_readNumber_76 : decode cX0_readNumber 76 = .ok (.iadd, 1) := by decide +kernel
theorem dX0_readNumber_77 : decode cX0_readNumber 77 = .ok (.putfield 25, 3) := by decide +kernel
theorem dX0_readNumber_80 : decode cX0_readNumber 80 = .ok (.iload_n 2, 1) := by decide +kernel
theorem dX0_readNumber_81 : decode cX0_readNumber 81 = .ok (.ireturn, 1) := by decide +kernel
theorem dX0_isDigit_0 : decode cX0_isDigit 0 = .ok (.iload_n 0, 1) := by decide +kernel
theorem dX0_isDigit_1 : decode cX0_isDigit 1 = .ok (.bipush 48, 2) := by decide +kernel
theorem dX0_isDigit_3 : decode cX0_isDigit 3 = .ok (.if_icmp .lt 13, 3) := by decide +kernel
theorem dX0_isDigit_6 : decode cX0_isDigit 6 = .ok (.iload_n 0, 1) := by decide +kernel
theorem dX0_isDigit_7 : decode cX0_isDigit 7 = .ok (.bipush 57, 2) := by decide +kernel
theorem dX0_isDigit_9 : decode cX0_isDigit 9 = .ok (.if_icmp .gt 7, 3) := by decide +kernel
theorem dX0_isDigit_12 : decode cX0_isDigit 12 = .ok (.iconst 1, 1) := by decide +kernel
theorem dX0_isDigit_13 : decode cX0_isDigit 13 = .ok (.goto 4, 3) := by decide +kernel
theorem dX0_isDigit_16 : decode cX0_isDigit 16 = .ok (.iconst 0, 1) := by decide +kernel
theorem dX0_isDigit_17 : decode cX0_isDigit 17 = .ok (.ireturn, 1) := by decide +kernel
theorem dX1_init_0 : decode cX1_init 0 = .ok (.aload_n 0, 1) := by decide +kernel
theorem dX1_init_1 : decode cX1_init 1 = .ok (.invokespecial 3, 3) := by decide +kernel
theorem dX1_init_4 : decode cX1_init 4 = .ok (.aload_n 0, 1) := by decide +kernel
theorem dX1_init_5 : decode cX1_init 5 = .ok (.bipush 10, 2) := by decide +kernel
theorem dX1_init_7 : decode cX1_init 7 = .ok (.newarray .int, 2) := by decide +kernel
theorem dX1_init_9 : decode cX1_init 9 = .ok (.putfield 9, 3) := by decide +kernel
theorem dX1_init_12 : decode cX1_init 12 = .ok (.aload_n 0, 1) := by decide +kernel
theorem dX1_init_13 : decode cX1_init 13 = .ok (.bipush 10, 2) := by decide +kernel
theorem dX1_init_15 : decode cX1_init 15 = .ok (.newarray .int, 2) := by decide +kernel
theorem dX1_init_17 : decode cX1_init 17 = .ok (.putfield 15, 3) := by decide +kernel
theorem dX1_init_20 : decode cX1_init 20 = .ok (.aload_n 0, 1) := by decide +kernel
theorem dX1_init_21 : decode cX1_init 21 = .ok (.bipush 10, 2) := by decide +kernel
theorem dX1_init_23 : decode cX1_init 23 = .ok (.newarray .int, 2) := by decide +kernel
theorem dX1_init_25 : decode cX1_init 25 = .ok (.putfield 18, 3) := by decide +kernel
theorem dX1_init_28 : decode cX1_init 28 = .ok (.aload_n 0, 1) := by decide +kernel
theorem dX1_init_29 : decode cX1_init 29 = .ok (.iconst 0, 1) := by decide +kernel
theorem dX1_init_30 : decode cX1_init 30 = .ok (.putfield 21, 3) := by decide +kernel
theorem dX1_init_33 : decode cX1_init 33 = .ok (.aload_n 0, 1) := by decide +kernel
theorem dX1_init_34 : decode cX1_init 34 = .ok (.iconst 0, 1) := by decide +kernel
theorem dX1_init_35 : decode cX1_init 35 = .ok (.putfield 25, 3) := by decide +kernel
theorem dX1_init_38 : decode cX1_init 38 = .ok (.aload_n 0, 1) := by decide +kernel
theorem dX1_init_39 : decode cX1_init 39 = .ok (.iconst 0, 1) := by decide +kernel
theorem dX1_init_40 : decode cX1_init 40 = .ok (.putfield 28, 3) := by decide +kernel
theorem dX1_init_43 : decode cX1_init 43 = .ok (.aload_n 0, 1) := by decide +kernel
theorem dX1_init_44 : decode cX1_init 44 = .ok (.new 31, 3) := by decide +kernel
theorem dX1_init_47 : decode cX1_init 47 = .ok (.dup, 1) := by decide +kernel
theorem dX1_init_48 : decode cX1_init 48 = .ok (.invokespecial 33, 3) := by decide +kernel
theorem dX1_init_51 : decode cX1_init 51 = .ok (.putfield 34, 3) := by decide +kernel
theorem dX1_init_54 : decode cX1_init 54 = .ok (.aload_n 0, 1) := by decide +kernel
theorem dX1_init_55 : decode cX1_init 55 = .ok (.bipush 10, 2) := by decide +kernel
theorem dX1_init_57 : decode cX1_init 57 = .ok (.newarray .int, 2) := by decide +kernel
theorem dX1_init_59 : decode cX1_init 59 = .ok (.putfield 38, 3) := by decide +kernel
theorem dX1_init_62 : decode cX1_init 62 = .ok (.aload_n 0, 1) := by decide +kernel
theorem dX1_init_63 : decode cX1_init 63 = .ok (.iconst 0, 1) := by decide +kernel
theorem dX1_init_64 : decode cX1_init 64 = .ok (.putfield 41, 3) := by decide +kernel
theorem dX1_init_67 : decode cX1_init 67 = .ok (.aload_n 0, 1) := by decide +kernel
theorem dX1_init_68 : decode cX1_init 68 = .ok (.bipush 10, 2) := by decide +kernel
theorem dX1_init_70 : decode cX1_init 70 = .ok (.newarray .int, 2) := by decide +kernel
theorem dX1_init_72 : decode cX1_init 72 = .ok (.putfield 44, 3) := by decide +kernel
theorem dX1_init_75 : decode cX1_init 75 = .ok (.aload_n 0, 1) := by decide +kernel
theorem dX1_init_76 : decode cX1_init 76 = .ok (.sipush 512, 3) := by decide +kernel
theorem dX1_init_79 : decode cX1_init 79 = .ok (.newarray .int, 2) := by decide +kernel
theorem dX1_init_81 : decode cX1_init 81 = .ok (.putfield 47, 3) := by decide +kernel
theorem dX1_init_84 : decode cX1_init 84 = .ok (.aload_n 0, 1) := by decide +kernel
theorem dX1_init_85 : decode cX1_init 85 = .ok (.aload_n 1, 1) := by decide +kernel
theorem dX1_init_86 : decode cX1_init 86 = .ok (.putfield 50, 3) := by decide +kernel
theorem dX1_init_89 : decode cX1_init 89 = .ok (.aload_n 0, 1) := by decide +kernel
theorem dX1_init_90 : decode cX1_init 90 = .ok (.aload_n 2, 1) := by decide +kernel
theorem dX1_init_91 : decode cX1_init 91 = .ok (.putfield 54, 3) := by decide +kernel
theorem dX1_init_94 : decode cX1_init 94 = .ok (.return_, 1) := by decide +kernel
theorem dX1_renew_0 : decode cX1_renew 0 = .ok (.aload_n 0, 1) := by decide +kernel
theorem dX1_renew_1 : decode cX1_renew 1 = .ok (.getfield 9, 3) := by decide +kernel
theorem dX1_renew_4 : decode cX1_renew 4 = .ok (.bipush (-5), 2) := by decide +kernel
theorem dX1_renew_6 : decode cX1_renew 6 = .ok (.invokestatic 58, 3) := by decide +kernel
theorem dX1_renew_9 : decode cX1_renew 9 = .ok (.aload_n 0, 1) := by decide +kernel
theorem dX1_renew_10 : decode cX1_renew 10 = .ok (.getfield 15, 3) := by decide +kernel
theorem dX1_renew_13 : decode cX1_renew 13 = .ok (.bipush (-5), 2) := by decide +kernel
theorem dX1_renew_15 : decode cX1_renew 15 = .ok (.invokestatic 58, 3) := by decide +kernel
theorem dX1_renew_18 : decode cX1_renew 18 = .ok (.aload_n 0, 1) := by decide +kernel
theorem dX1_renew_19 : decode cX1_renew 19 = .ok (.iconst 0, 1) := by decide +kernel
theorem dX1_renew_20 : decode cX1_renew 20 = .ok (.putfield 25, 3) := by decide +kernel
theorem dX1_renew_23 : decode cX1_renew 23 = .ok (.aload_n 0, 1) := by decide +kernel
theorem dX1_renew_24 : decode cX1_renew 24 = .ok (.iconst 0, 1) := by decide +kernel
theorem dX1_renew_25 : decode cX1_renew 25 = .ok (.putfield 28, 3) := by decide +kernel
theorem dX1_renew_28 : decode cX1_renew 28 = .ok (.aload_n 0, 1) := by decide +kernel
theorem dX1_renew_29 : decode cX1_renew 29 = .ok (.invokevirtual 64, 3) := by decide +kernel
theorem dX1_renew_32 : decode cX1_renew 32 = .ok (.aload_n 0, 1) := by decide +kernel
theorem dX1_renew_33 : decode cX1_renew 33 = .ok (.invokevirtual 67, 3) := by decide +kernel
theorem dX1_renew_36 : decode cX1_renew 36 = .ok (.aload_n 0, 1) := by decide +kernel
theorem dX1_renew_37 : decode cX1_renew 37 = .ok (.getfield 41, 3) := by decide +kernel
theorem dX1_renew_40 : decode cX1_renew 40 = .ok (.ifCond .eq 10, 3) := by decide +kernel
theorem dX1_renew_43 : decode cX1_renew 43 = .ok (.aload_n 0, 1) := by decide +kernel
theorem dX1_renew_44 : decode cX1_renew 44 = .ok (.getfield 21, 3) := by decide +kernel
theorem dX1_renew_47 : decode cX1_renew 47 = .ok (.ifCond .ne 4, 3) := by decide +kernel
theorem dX1_renew_50 : decode cX1_renew 50 = .ok (.return_, 1) := by decide +kernel
theorem dX1_renew_51 : decode cX1_renew 51 = .ok (.aload_n 0, 1) := by decide +kernel
theorem dX1_renew_52 : decode cX1_renew 52 = .ok (.invokevirtual 70, 3) := by decide +kernel
theorem dX1_renew_55 : decode cX1_renew 55 = .ok (.aload_n 0, 1) := by decide +kernel
theorem dX1_renew_56 : decode cX1_renew 56 = .ok (.getfield 34, 3) := by decide +kernel
theorem dX1_renew_59 : decode cX1_renew 59 = .ok (.aload_n 0, 1) := by decide +kernel
theorem dX1_renew_60 : decode cX1_renew 60 = .ok (.getfield 41, 3) := by decide +kernel
theorem dX1_renew_63 : decode cX1_renew 63 = .ok (.aload_n 0, 1) := by decide +kernel
theorem dX1_renew_64 : decode cX1_renew 64 = .ok (.getfield 21, 3) := by decide +kernel
theorem dX1_renew_67 : decode cX1_renew 67 = .ok (.aload_n 0, 1) := by decide +kernel
theorem dX1_renew_68 : decode cX1_renew 68 = .ok (.getfield 41, 3) := by decide +kernel
theorem dX1_renew_71 : decode cX1_renew 71 = .ok (.iadd, 1) := by decide +kernel
theorem dX1_renew_72 : decode cX1_renew 72 = .ok (.invokevirtual 73, 3) := by decide +kernel
theorem dX1_renew_75 : decode cX1_renew 75 = .ok (.iconst 1, 1) := by decide +kernel
theorem dX1_renew_76 : decode cX1_renew 76 = .ok (.istore_n 1, 1) := by decide +kernel
theorem dX1_renew_77 : decode cX1_renew 77 = .ok (.iload_n 1, 1) := by decide +kernel
theorem dX1_renew_78 : decode cX1_renew 78 = .ok (.aload_n 0, 1) := by decide +kernel
theorem dX1_renew_79 : decode cX1_renew 79 = .ok (.getfield 21, 3) := by decide +kernel
theorem dX1_renew_82 : decode cX1_renew 82 = .ok (.if_icmp .gt 49, 3) := by decide +kernel
theorem dX1_renew_85 : decode cX1_renew 85 = .ok (.aload_n 0, 1) := by decide +kernel
theorem dX1_renew_86 : decode cX1_renew 86 = .ok (.getfield 34, 3) := by decide +kernel
theorem dX1_renew_89 : decode cX1_renew 89 = .ok (.getfield 77, 3) := by decide +kernel
theorem dX1_renew_92 : decode cX1_renew 92 = .ok (.iload_n 1, 1) := by decide +kernel
theorem dX1_renew_93 : decode cX1_renew 93 = .ok (.iaload, 1) := by decide +kernel
theorem dX1_renew_94 : decode cX1_renew 94 = .ok (.ifCond .le 31, 3) := by decide +kernel
theorem dX1_renew_97 : decode cX1_renew 97 = .ok (.aload_n 0, 1) := by decide +kernel
theorem dX1_renew_98 : decode cX1_renew 98 = .ok (.aload_n 0, 1) := by decide +kernel
theorem dX1_renew_99 : decode cX1_renew 99 = .ok (.getfield 44, 3) := by decide +kernel
theorem dX1_renew_102 : decode cX1_renew 102 = .ok (.iload_n 1, 1) := by decide +kernel
theorem dX1_renew_103 : decode cX1_renew 103 = .ok (.iconst 1, 1) := by decide +kernel
theorem dX1_renew_104 : decode cX1_renew 104 = .ok (.isub, 1) := by decide +kernel
theorem dX1_renew_105 : decode cX1_renew 105 = .ok (.iaload, 1) := by decide +kernel
theorem dX1_renew_106 : decode cX1_renew 106 = .ok (.aload_n 0, 1) := by decide +kernel
theorem dX1_renew_107 : decode cX1_renew 107 = .ok (.getfield 38, 3) := by decide +kernel
theorem dX1_renew_110 : decode cX1_renew 110 = .ok (.aload_n 0, 1) := by decide +kernel
theorem dX1_renew_111 : decode cX1_renew 111 = .ok (.getfield 34, 3) := by decide +kernel
theorem dX1_renew_114 : decode cX1_renew 114 = .ok (.getfield 77, 3) := by decide +kernel
theorem dX1_renew_117 : decode cX1_renew 117 = .ok (.iload_n 1, 1) := by decide +kernel
theorem dX1_renew_118 : decode cX1_renew 118 = .ok (.iaload, 1) := by decide +kernel
theorem dX1_renew_119 : decode cX1_renew 119 = .ok (.iconst 1, 1) := by decide +kernel
theorem dX1_renew_120 : decode cX1_renew 120 = .ok (.isub, 1) := by decide +kernel
theorem dX1_renew_121 : decode cX1_renew 121 = .ok (.iaload, 1) := by decide +kernel
theorem dX1_renew_122 : decode cX1_renew 122 = .ok (.invokevirtual 80, 3) := by decide +kernel
theorem dX1_renew_125 : decode cX1_renew 125 = .ok (.iinc 1 1, 3) := by decide +kernel
theorem dX1_renew_128 : decode cX1_renew 128 = .ok (.goto (-51), 3) := by decide +kernel
theorem dX1_renew_131 : decode cX1_renew 131 = .ok (.return_, 1) := by decide +kernel
theorem dX1_isFormed_0 : decode cX1_isFormed 0 = .ok (.aload_n 0, 1) := by decide +kernel
theorem dX1_isFormed_1 : decode cX1_isFormed 1 = .ok (.getfield 50, 3) := by decide +kernel
theorem dX1_isFormed_4 : decode cX1_isFormed 4 = .ok (.invokevirtual 83, 3) := by decide +kernel
theorem dX1_isFormed_7 : decode cX1_isFormed 7 = .ok (.getfield 89, 3) := by decide +kernel
theorem dX1_isFormed_10 : decode cX1_isFormed 10 = .ok (.istore_n 1, 1) := by decide +kernel
theorem dX1_isFormed_11 : decode cX1_isFormed 11 = .ok (.aload_n 0, 1) := by decide +kernel
theorem dX1_isFormed_12 : decode cX1_isFormed 12 = .ok (.getfield 50, 3) := by decide +kernel
theorem dX1_isFormed_15 : decode cX1_isFormed 15 = .ok (.invokevirtual 94, 3) := by decide +kernel
theorem dX1_isFormed_18 : decode cX1_isFormed 18 = .ok (.ifCond .lt 26, 3) := by decide +kernel
theorem dX1_isFormed_21 : decode cX1_isFormed 21 = .ok (.aload_n 0, 1) := by decide +kernel
theorem dX1_isFormed_22 : decode cX1_isFormed 22 = .ok (.getfield 28, 3) := by decide +kernel
theorem dX1_isFormed_25 : decode cX1_isFormed 25 = .ok (.ifCond .ne 19, 3) := by decide +kernel
theorem dX1_isFormed_28 : decode cX1_isFormed 28 = .ok (.aload_n 0, 1) := by decide +kernel
theorem dX1_isFormed_29 : decode cX1_isFormed 29 = .ok (.getfield 25, 3) := by decide +kernel
theorem dX1_isFormed_32 : decode cX1_isFormed 32 = .ok (.ifCond .gt 8, 3) := by decide +kernel
theorem dX1_isFormed_35 : decode cX1_isFormed 35 = .ok (.iload_n 1, 1) := by decide +kernel
theorem dX1_isFormed_36 : decode cX1_isFormed 36 = .ok (.iconst 1, 1) := by decide +kernel
theorem dX1_isFormed_37 : decode cX1_isFormed 37 = .ok (.if_icmp .ne 7, 3) := by decide +kernel
theorem dX1_isFormed_40 : decode cX1_isFormed 40 = .ok (.iconst 1, 1) := by decide +kernel
theorem dX1_isFormed_41 : decode cX1_isFormed 41 = .ok (.goto 4, 3) := by decide +kernel
theorem dX1_isFormed_44 : decode cX1_isFormed 44 = .ok (.iconst 0, 1) := by decide +kernel
theorem dX1_isFormed_45 : decode cX1_isFormed 45 = .ok (.ireturn, 1) := by decide +kernel
theorem dX1_listFollowers_0 : decode cX1_listFollowers 0 = .ok (.aload_n 0, 1) := by decide +kernel
theorem dX1_listFollowers_1 : decode cX1_listFollowers 1 = .ok (.getfield 50, 3) := by decide +kernel
theorem dX1_listFollowers_4 : decode cX1_listFollowers 4 = .ok (.invokevirtual 94, 3) := by decide +kernel
theorem dX1_listFollowers_7 : decode cX1_listFollowers 7 = .ok (.istore_n 1, 1) := by decide +kernel
theorem dX1_listFollowers_8 : decode cX1_listFollowers 8 = .ok (.aload_n 0, 1) := by decide +kernel
theorem dX1_listFollowers_9 : decode cX1_listFollowers 9 = .ok (.iconst 0, 1) := by decide +kernel
theorem dX1_listFollowers_10 : decode cX1_listFollowers 10 = .ok (.putfield 41, 3) := by decide +kernel
theorem dX1_listFollowers_13 : decode cX1_listFollowers 13 = .ok (.iconst 0, 1) := by decide +kernel
theorem dX1_listFollowers_14 : decode cX1_listFollowers 14 = .ok (.istore_n 2, 1) := by decide +kernel
theorem dX1_listFollowers_15 : decode cX1_listFollowers 15 = .ok (.iload_n 2, 1) := by decide +kernel
theorem dX1_listFollowers_16 : decode cX1_listFollowers 16 = .ok (.bipush 10, 2) := by decide +kernel
theorem dX1_listFollowers_18 : decode cX1_listFollowers 18 = .ok (.if_icmp .ge 45, 3) := by decide +kernel
theorem dX1_listFollowers_21 : decode cX1_listFollowers 21 = .ok (.iload_n 2, 1) := by decide +kernel
theorem dX1_listFollowers_22 : decode cX1_listFollowers 22 = .ok (.iload_n 1, 1) := by decide +kernel
theorem dX1_listFollowers_23 : decode cX1_listFollowers 23 = .ok (.if_icmp .eq 34, 3) := by decide +kernel
theorem dX1_listFollowers_26 : decode cX1_listFollowers 26 = .ok (.aload_n 0, 1) := by decide +kernel
theorem dX1_listFollowers_27 : decode cX1_listFollowers 27 = .ok (.getfield 50, 3) := by decide +kernel
theorem dX1_listFollowers_30 : decode cX1_listFollowers 30 = .ok (.iload_n 2, 1) := by decide +kernel
theorem dX1_listFollowers_31 : decode cX1_listFollowers 31 = .ok (.invokevirtual 98, 3) := by decide +kernel
theorem dX1_listFollowers_34 : decode cX1_listFollowers 34 = .ok (.ifCond .eq 23, 3) := by decide +kernel
theorem dX1_listFollowers_37 : decode cX1_listFollowers 37 = .ok (.aload_n 0, 1) := by decide +kernel
theorem dX1_listFollowers_38 : decode cX1_listFollowers 38 = .ok (.getfield 38, 3) := by decide +kernel
theorem dX1_listFollowers_41 : decode cX1_listFollowers 41 = .ok (.aload_n 0, 1) := by decide +kernel
theorem dX1_listFollowers_42 : decode cX1_listFollowers 42 = .ok (.getfield 41, 3) := by decide +kernel
theorem dX1_listFollowers_45 : decode cX1_listFollowers 45 = .ok (.iload_n 2, 1) := by decide +kernel
theorem dX1_listFollowers_46 : decode cX1_listFollowers 46 = .ok (.iastore, 1) := by decide +kernel
theorem dX1_listFollowers_47 : decode cX1_listFollowers 47 = .ok (.aload_n 0, 1) := by decide +kernel
theorem dX1_listFollowers_48 : decode cX1_listFollowers 48 = .ok (.dup, 1) := by decide +kernel
theorem dX1_listFollowers_49 : decode cX1_listFollowers 49 = .ok (.getfield 41, 3) := by decide +kernel
theorem dX1_listFollowers_52 : decode cX1_listFollowers 52 = .ok (.iconst 1, 1) := by decide +kernel
theorem dX1_listFollowers_53 : decode cX1_listFollowers 53 = .ok (.iadd, 1) := by decide +kernel
theorem dX1_listFollowers_54 : decode cX1_listFollowers 54 = .ok (.putfield 41, 3) := by decide +kernel
theorem dX1_listFollowers_57 : decode cX1_listFollowers 57 = .ok (.iinc 2 1, 3) := by decide +kernel
theorem dX1_listFollowers_60 : decode cX1_listFollowers 60 = .ok (.goto (-45), 3) := by decide +kernel
theorem dX1_listFollowers_63 : decode cX1_listFollowers 63 = .ok (.return_, 1) := by decide +kernel
theorem dX1_listOpenSlots_0 : decode cX1_listOpenSlots 0 = .ok (.aload_n 0, 1) := by decide +kernel
theorem dX1_listOpenSlots_1 : decode cX1_listOpenSlots 1 = .ok (.getfield 50, 3) := by decide +kernel
theorem dX1_listOpenSlots_4 : decode cX1_listOpenSlots 4 = .ok (.invokevirtual 83, 3) := by decide +kernel
theorem dX1_listOpenSlots_7 : decode cX1_listOpenSlots 7 = .ok (.astore_n 1, 1) := by decide +kernel
theorem dX1_listOpenSlots_8 : decode cX1_listOpenSlots 8 = .ok (.aload_n 0, 1) := by decide +kernel
theorem dX1_listOpenSlots_9 : decode cX1_listOpenSlots 9 = .ok (.getfield 50, 3) := by decide +kernel
theorem dX1_listOpenSlots_12 : decode cX1_listOpenSlots 12 = .ok (.invokevirtual 94, 3) := by decide +kernel
theorem dX1_listOpenSlots_15 : decode cX1_listOpenSlots 15 = .ok (.istore_n 2, 1) := by decide +kernel
theorem dX1_listOpenSlots_16 : decode cX1_listOpenSlots 16 = .ok (.aload_n 0, 1) := by decide +kernel
theorem dX1_listOpenSlots_17 : decode cX1_listOpenSlots 17 = .ok (.iconst 0, 1) := by decide +kernel
theorem dX1_listOpenSlots_18 : decode cX1_listOpenSlots 18 = .ok (.putfield 21, 3) := by decide +kernel
theorem dX1_listOpenSlots_21 : decode cX1_listOpenSlots 21 = .ok (.iconst 0, 1) := by decide +kernel
theorem dX1_listOpenSlots_22 : decode cX1_listOpenSlots 22 = .ok (.istore_n 3, 1) := by decide +kernel
theorem dX1_listOpenSlots_23 : decode cX1_listOpenSlots 23 = .ok (.iload_n 3, 1) := by decide +kernel
theorem dX1_listOpenSlots_24 : decode cX1_listOpenSlots 24 = .ok (.aload_n 1, 1) := by decide +kernel
theorem dX1_listOpenSlots_25 : decode cX1_listOpenSlots 25 = .ok (.getfield 89, 3) := by decide +kernel
theorem dX1_listOpenSlots_28 : decode cX1_listOpenSlots 28 = .ok (.if_icmp .ge 76, 3) := by decide +kernel
theorem dX1_listOpenSlots_31 : decode cX1_listOpenSlots 31 = .ok (.aload_n 0, 1) := by decide +kernel
theorem dX1_listOpenSlots_32 : decode cX1_listOpenSlots 32 = .ok (.getfield 18, 3) := by decide +kernel
theorem dX1_listOpenSlots_35 : decode cX1_listOpenSlots 35 = .ok (.iload_n 3, 1) := by decide +kernel
theorem dX1_listOpenSlots_36 : decode cX1_listOpenSlots 36 = .ok (.iload_n 2, 1) := by decide +kernel
theorem dX1_listOpenSlots_37 : decode cX1_listOpenSlots 37 = .ok (.ifCond .ge 8, 3) := by decide +kernel
theorem dX1_listOpenSlots_40 : decode cX1_listOpenSlots 40 = .ok (.bipush (-5), 2) := by decide +kernel
theorem dX1_listOpenSlots_42 : decode cX1_listOpenSlots 42 = .ok (.goto 18, 3) := by decide +kernel
theorem dX1_listOpenSlots_45 : decode cX1_listOpenSlots 45 = .ok (.aload_n 0, 1) := by decide +kernel
theorem dX1_listOpenSlots_46 : decode cX1_listOpenSlots 46 = .ok (.aload_n 0, 1) := by decide +kernel
theorem dX1_listOpenSlots_47 : decode cX1_listOpenSlots 47 = .ok (.getfield 50, 3) := by decide +kernel
theorem dX1_listOpenSlots_50 : decode cX1_listOpenSlots 50 = .ok (.getfield 102, 3) := by decide +kernel
theorem dX1_listOpenSlots_53 : decode cX1_listOpenSlots 53 = .ok (.iload_n 2, 1) := by decide +kernel
theorem dX1_listOpenSlots_54 : decode cX1_listOpenSlots 54 = .ok (.iaload, 1) := by decide +kernel
theorem dX1_listOpenSlots_55 : decode cX1_listOpenSlots 55 = .ok (.aload_n 1, 1) := by decide +kernel
theorem dX1_listOpenSlots_56 : decode cX1_listOpenSlots 56 = .ok (.iload_n 3, 1) := by decide +kernel
theorem dX1_listOpenSlots_57 : decode cX1_listOpenSlots 57 = .ok (.invokevirtual 105, 3) := by decide +kernel
theorem dX1_listOpenSlots_60 : decode cX1_listOpenSlots 60 = .ok (.iastore, 1) := by decide +kernel
theorem dX1_listOpenSlots_61 : decode cX1_listOpenSlots 61 = .ok (.aload_n 0, 1) := by decide +kernel
theorem dX1_listOpenSlots_62 : decode cX1_listOpenSlots 62 = .ok (.getfield 18, 3) := by decide +kernel
theorem dX1_listOpenSlots_65 : decode cX1_listOpenSlots 65 = .ok (.iload_n 3, 1) := by decide +kernel
theorem dX1_listOpenSlots_66 : decode cX1_listOpenSlots 66 = .ok (.iaload, 1) := by decide +kernel
theorem dX1_listOpenSlots_67 : decode cX1_listOpenSlots 67 = .ok (.ifCond .lt 31, 3) := by decide +kernel
theorem dX1_listOpenSlots_70 : decode cX1_listOpenSlots 70 = .ok (.iload_n 3, 1) := by decide +kernel
theorem dX1_listOpenSlots_71 : decode cX1_listOpenSlots 71 = .ok (.aload_n 1, 1) := by decide +kernel
theorem dX1_listOpenSlots_72 : decode cX1_listOpenSlots 72 = .ok (.getfield 109, 3) := by decide +kernel
theorem dX1_listOpenSlots_75 : decode cX1_listOpenSlots 75 = .ok (.if_icmp .eq 23, 3) := by decide +kernel
theorem dX1_listOpenSlots_78 : decode cX1_listOpenSlots 78 = .ok (.aload_n 0, 1) := by decide +kernel
theorem dX1_listOpenSlots_79 : decode cX1_listOpenSlots 79 = .ok (.getfield 44, 3) := by decide +kernel
theorem dX1_listOpenSlots_82 : decode cX1_listOpenSlots 82 = .ok (.aload_n 0, 1) := by decide +kernel
theorem dX1_listOpenSlots_83 : decode cX1_listOpenSlots 83 = .ok (.getfield 21, 3) := by decide +kernel
theorem dX1_listOpenSlots_86 : decode cX1_listOpenSlots 86 = .ok (.iload_n 3, 1) := by decide +kernel
theorem dX1_listOpenSlots_87 : decode cX1_listOpenSlots 87 = .ok (.iastore, 1) := by decide +kernel
theorem dX1_listOpenSlots_88 : decode cX1_listOpenSlots 88 = .ok (.aload_n 0, 1) := by decide +kernel
theorem dX1_listOpenSlots_89 : decode cX1_listOpenSlots 89 = .ok (.dup, 1) := by decide +kernel
theorem dX1_listOpenSlots_90 : decode cX1_listOpenSlots 90 = .ok (.getfield 21, 3) := by decide +kernel
theorem dX1_listOpenSlots_93 : decode cX1_listOpenSlots 93 = .ok (.iconst 1, 1) := by decide +kernel
theorem dX1_listOpenSlots_94 : decode cX1_listOpenSlots 94 = .ok (.iadd, 1) := by decide +kernel
theorem dX1_listOpenSlots_95 : decode cX1_listOpenSlots 95 = .ok (.putfield 21, 3) := by decide +kernel
theorem dX1_listOpenSlots_98 : decode cX1_listOpenSlots 98 = .ok (.iinc 3 1, 3) := by decide +kernel
theorem dX1_listOpenSlots_101 : decode cX1_listOpenSlots 101 = .ok (.goto (-78), 3) := by decide +kernel
theorem dX1_listOpenSlots_104 : decode cX1_listOpenSlots 104 = .ok (.return_, 1) := by decide +kernel
theorem dX1_placeFrom_0 : decode cX1_placeFrom 0 = .ok (.iload_n 1, 1) := by decide +kernel
theorem dX1_placeFrom_1 : decode cX1_placeFrom 1 = .ok (.bipush 12, 2) := by decide +kernel
theorem dX1_placeFrom_3 : decode cX1_placeFrom 3 = .ok (.irem, 1) := by decide +kernel
theorem dX1_placeFrom_4 : decode cX1_placeFrom 4 = .ok (.aload_n 2, 1) := by decide +kernel
theorem dX1_placeFrom_5 : decode cX1_placeFrom 5 = .ok (.iload_n 3, 1) := by decide +kernel
theorem dX1_placeFrom_6 : decode cX1_placeFrom 6 = .ok (.invokevirtual 112, 3) := by decide +kernel
theorem dX1_placeFrom_9 : decode cX1_placeFrom 9 = .ok (.iadd, 1) := by decide +kernel
theorem dX1_placeFrom_10 : decode cX1_placeFrom 10 = .ok (.iload_n 1, 1) := by decide +kernel
theorem dX1_placeFrom_11 : decode cX1_placeFrom 11 = .ok (.bipush 12, 2) := by decide +kernel
theorem dX1_placeFrom_13 : decode cX1_placeFrom 13 = .ok (.idiv, 1) := by decide +kernel
theorem dX1_placeFrom_14 : decode cX1_placeFrom 14 = .ok (.aload_n 2, 1) := by decide +kernel
theorem dX1_placeFrom_15 : decode cX1_placeFrom 15 = .ok (.iload_n 3, 1) := by decide +kernel
theorem dX1_placeFrom_16 : decode cX1_placeFrom 16 = .ok (.invokevirtual 116, 3) := by decide +kernel
theorem dX1_placeFrom_19 : decode cX1_placeFrom 19 = .ok (.iadd, 1) := by decide +kernel
theorem dX1_placeFrom_20 : decode cX1_placeFrom 20 = .ok (.invokestatic 119, 3) := by decide +kernel
theorem dX1_placeFrom_23 : decode cX1_placeFrom 23 = .ok (.istore 4, 2) := by decide +kernel
theorem dX1_placeFrom_25 : decode cX1_placeFrom 25 = .ok (.iload 4, 2) := by decide +kernel
theorem dX1_placeFrom_27 : decode cX1_placeFrom 27 = .ok (.ifCond .lt 23, 3) := by decide +kernel
theorem dX1_placeFrom_30 : decode cX1_placeFrom 30 = .ok (.aload_n 0, 1) := by decide +kernel
theorem dX1_placeFrom_31 : decode cX1_placeFrom 31 = .ok (.getfield 50, 3) := by decide +kernel
theorem dX1_placeFrom_34 : decode cX1_placeFrom 34 = .ok (.getfield 123, 3) := by decide +kernel
theorem dX1_placeFrom_37 : decode cX1_placeFrom 37 = .ok (.iload 4, 2) := by decide +kernel
theorem dX1_placeFrom_39 : decode cX1_placeFrom 39 = .ok (.iaload, 1) := by decide +kernel
theorem dX1_placeFrom_40 : decode cX1_placeFrom 40 = .ok (.bipush (-2), 2) := by decide +kernel
theorem dX1_placeFrom_42 : decode cX1_placeFrom 42 = .ok (.if_icmp .eq 8, 3) := by decide +kernel
theorem dX1_placeFrom_45 : decode cX1_placeFrom 45 = .ok (.iload 4, 2) := by decide +kernel
theorem dX1_placeFrom_47 : decode cX1_placeFrom 47 = .ok (.goto 5, 3) := by decide +kernel
theorem dX1_placeFrom_50 : decode cX1_placeFrom 50 = .ok (.bipush (-5), 2) := by decide +kernel
theorem dX1_placeFrom_52 : decode cX1_placeFrom 52 = .ok (.ireturn, 1) := by decide +kernel
theorem dX1_priceChoices_0 : decode cX1_priceChoices 0 = .ok (.lconst 1, 1) := by decide +kernel
theorem dX1_priceChoices_1 : decode cX1_priceChoices 1 = .ok (.lstore_n 1, 1) := by decide +kernel
theorem dX1_priceChoices_2 : decode cX1_priceChoices 2 = .ok (.aload_n 0, 1) := by decide +kernel
theorem dX1_priceChoices_3 : decode cX1_priceChoices 3 = .ok (.getfield 41, 3) := by decide +kernel
theorem dX1_priceChoices_6 : decode cX1_priceChoices 6 = .ok (.istore_n 3, 1) := by decide +kernel
theorem dX1_priceChoices_7 : decode cX1_priceChoices 7 = .ok (.iload_n 3, 1) := by decide +kernel
theorem dX1_priceChoices_8 : decode cX1_priceChoices 8 = .ok (.iconst 1, 1) := by decide +kernel
theorem dX1_priceChoices_9 : decode cX1_priceChoices 9 = .ok (.if_icmp .lt 161, 3) := by decide +kernel
theorem dX1_priceChoices_12 : decode cX1_priceChoices 12 = .ok (.aload_n 0, 1) := by decide +kernel
theorem dX1_priceChoices_13 : decode cX1_priceChoices 13 = .ok (.getfield 50, 3) := by decide +kernel
theorem dX1_priceChoices_16 : decode cX1_priceChoices 16 = .ok (.getfield 102, 3) := by decide +kernel
theorem dX1_priceChoices_19 : decode cX1_priceChoices 19 = .ok (.aload_n 0, 1) := by decide +kernel
theorem dX1_priceChoices_20 : decode cX1_priceChoices 20 = .ok (.getfield 38, 3) := by decide +kernel
theorem dX1_priceChoices_23 : decode cX1_priceChoices 23 = .ok (.iload_n 3, 1) := by decide +kernel
theorem dX1_priceChoices_24 : decode cX1_priceChoices 24 = .ok (.iconst 1, 1) := by decide +kernel
theorem dX1_priceChoices_25 : decode cX1_priceChoices 25 = .ok (.isub, 1) := by decide +kernel
theorem dX1_priceChoices_26 : decode cX1_priceChoices 26 = .ok (.iaload, 1) := by decide +kernel
theorem dX1_priceChoices_27 : decode cX1_priceChoices 27 = .ok (.iaload, 1) := by decide +kernel
theorem dX1_priceChoices_28 : decode cX1_priceChoices 28 = .ok (.istore 4, 2) := by decide +kernel
theorem dX1_priceChoices_30 : decode cX1_priceChoices 30 = .ok (.iconst 1, 1) := by decide +kernel
theorem dX1_priceChoices_31 : decode cX1_priceChoices 31 = .ok (.istore 5, 2) := by decide +kernel
theorem dX1_priceChoices_33 : decode cX1_priceChoices 33 = .ok (.iload 5, 2) := by decide +kernel
theorem dX1_priceChoices_35 : decode cX1_priceChoices 35 = .ok (.aload_n 0, 1) := by decide +kernel
theorem dX1_priceChoices_36 : decode cX1_priceChoices 36 = .ok (.getfield 21, 3) := by decide +kernel
theorem dX1_priceChoices_39 : decode cX1_priceChoices 39 = .ok (.if_icmp .gt 75, 3) := by decide +kernel
theorem dX1_priceChoices_42 : decode cX1_priceChoices 42 = .ok (.aload_n 0, 1) := by decide +kernel
theorem dX1_priceChoices_43 : decode cX1_priceChoices 43 = .ok (.getfield 44, 3) := by decide +kernel
theorem dX1_priceChoices_46 : decode cX1_priceChoices 46 = .ok (.iload 5, 2) := by decide +kernel
theorem dX1_priceChoices_48 : decode cX1_priceChoices 48 = .ok (.iconst 1, 1) := by decide +kernel
theorem dX1_priceChoices_49 : decode cX1_priceChoices 49 = .ok (.isub, 1) := by decide +kernel
theorem dX1_priceChoices_50 : decode cX1_priceChoices 50 = .ok (.iaload, 1) := by decide +kernel
theorem dX1_priceChoices_51 : decode cX1_priceChoices 51 = .ok (.istore 6, 2) := by decide +kernel
theorem dX1_priceChoices_53 : decode cX1_priceChoices 53 = .ok (.aload_n 0, 1) := by decide +kernel
theorem dX1_priceChoices_54 : decode cX1_priceChoices 54 = .ok (.getfield 54, 3) := by decide +kernel
theorem dX1_priceChoices_57 : decode cX1_priceChoices 57 = .ok (.aload_n 0, 1) := by decide +kernel
theorem dX1_priceChoices_58 : decode cX1_priceChoices 58 = .ok (.getfield 18, 3) := by decide +kernel
theorem dX1_priceChoices_61 : decode cX1_priceChoices 61 = .ok (.iload 6, 2) := by decide +kernel
theorem dX1_priceChoices_63 : decode cX1_priceChoices 63 = .ok (.iaload, 1) := by decide +kernel
theorem dX1_priceChoices_64 : decode cX1_priceChoices 64 = .ok (.invokevirtual 126, 3) := by decide +kernel
theorem dX1_priceChoices_67 : decode cX1_priceChoices 67 = .ok (.iload 4, 2) := by decide +kernel
theorem dX1_priceChoices_69 : decode cX1_priceChoices 69 = .ok (.iaload, 1) := by decide +kernel
theorem dX1_priceChoices_70 : decode cX1_priceChoices 70 = .ok (.istore 7, 2) := by decide +kernel
theorem dX1_priceChoices_72 : decode cX1_priceChoices 72 = .ok (.aload_n 0, 1) := by decide +kernel
theorem dX1_priceChoices_73 : decode cX1_priceChoices 73 = .ok (.getfield 34, 3) := by decide +kernel
theorem dX1_priceChoices_76 : decode cX1_priceChoices 76 = .ok (.getfield 132, 3) := by decide +kernel
theorem dX1_priceChoices_79 : decode cX1_priceChoices 79 = .ok (.iload_n 3, 1) := by decide +kernel
theorem dX1_priceChoices_80 : decode cX1_priceChoices 80 = .ok (.aaload, 1) := by decide +kernel
theorem dX1_priceChoices_81 : decode cX1_priceChoices 81 = .ok (.iload 5, 2) := by decide +kernel
theorem dX1_priceChoices_83 : decode cX1_priceChoices 83 = .ok (.iload 7, 2) := by decide +kernel
theorem dX1_priceChoices_85 : decode cX1_priceChoices 85 = .ok (.ifCond .ge 9, 3) := by decide +kernel
theorem dX1_priceChoices_88 : decode cX1_priceChoices 88 = .ok (.ldc2_w 136, 3) := by decide +kernel
theorem dX1_priceChoices_91 : decode cX1_priceChoices 91 = .ok (.goto 16, 3) := by decide +kernel
theorem dX1_priceChoices_94 : decode cX1_priceChoices 94 = .ok (.iload 7, 2) := by decide +kernel
theorem dX1_priceChoices_96 : decode cX1_priceChoices 96 = .ok (.i2l, 1) := by decide +kernel
theorem dX1_priceChoices_97 : decode cX1_priceChoices 97 = .ok (.ldc2_w 138, 3) := by decide +kernel
theorem dX1_priceChoices_100 : decode cX1_priceChoices 100 = .ok (.lmul, 1) := by decide +kernel
theorem dX1_priceChoices_101 : decode cX1_priceChoices 101 = .ok (.iload 6, 2) := by decide +kernel
theorem dX1_priceChoices_103 : decode cX1_priceChoices 103 = .ok (.i2l, 1) := by decide +kernel
theorem dX1_priceChoices_104 : decode cX1_priceChoices 104 = .ok (.lload_n 1, 1) := by decide +kernel
theorem dX1_priceChoices_105 : decode cX1_priceChoices 105 = .ok (.lmul, 1) := by decide +kernel
theorem dX1_priceChoices_106 : decode cX1_priceChoices 106 = .ok (.ladd, 1) := by decide +kernel
theorem dX1_priceChoices_107 : decode cX1_priceChoices 107 = .ok (.lastore, 1) := by decide +kernel
theorem dX1_priceChoices_108 : decode cX1_priceChoices 108 = .ok (.iinc 5 1, 3) := by decide +kernel
theorem dX1_priceChoices_111 : decode cX1_priceChoices 111 = .ok (.goto (-78), 3) := by decide +kernel
theorem dX1_priceChoices_114 : decode cX1_priceChoices 114 = .ok (.iconst 1, 1) := by decide +kernel
theorem dX1_priceChoices_115 : decode cX1_priceChoices 115 = .ok (.istore 5, 2) := by decide +kernel
theorem dX1_priceChoices_117 : decode cX1_priceChoices 117 = .ok (.iload 5, 2) := by decide +kernel
theorem dX1_priceChoices_119 : decode cX1_priceChoices 119 = .ok (.aload_n 0, 1) := by decide +kernel
theorem dX1_priceChoices_120 : decode cX1_priceChoices 120 = .ok (.getfield 41, 3) := by decide +kernel
theorem dX1_priceChoices_123 : decode cX1_priceChoices 123 = .ok (.if_icmp .gt 35, 3) := by decide +kernel
theorem dX1_priceChoices_126 : decode cX1_priceChoices 126 = .ok (.aload_n 0, 1) := by decide +kernel
theorem dX1_priceChoices_127 : decode cX1_priceChoices 127 = .ok (.getfield 34, 3) := by decide +kernel
theorem dX1_priceChoices_130 : decode cX1_priceChoices 130 = .ok (.getfield 132, 3) := by decide +kernel
theorem dX1_priceChoices_133 : decode cX1_priceChoices 133 = .ok (.iload_n 3, 1) := by decide +kernel
theorem dX1_priceChoices_134 : decode cX1_priceChoices 134 = .ok (.aaload, 1) := by decide +kernel
theorem dX1_priceChoices_135 : decode cX1_priceChoices 135 = .ok (.aload_n 0, 1) := by decide +kernel
theorem dX1_priceChoices_136 : decode cX1_priceChoices 136 = .ok (.getfield 21, 3) := by decide +kernel
theorem dX1_priceChoices_139 : decode cX1_priceChoices 139 = .ok (.iload 5, 2) := by decide +kernel
theorem dX1_priceChoices_141 : decode cX1_priceChoices 141 = .ok (.iadd, 1) := by decide +kernel
theorem dX1_priceChoices_142 : decode cX1_priceChoices 142 = .ok (.ldc2_w 140, 3) := by decide +kernel
theorem dX1_priceChoices_145 : decode cX1_priceChoices 145 = .ok (.ldc2_w 142, 3) := by decide +kernel
theorem dX1_priceChoices_148 : decode cX1_priceChoices 148 = .ok (.lload_n 1, 1) := by decide +kernel
theorem dX1_priceChoices_149 : decode cX1_priceChoices 149 = .ok (.lmul, 1) := by decide +kernel
theorem dX1_priceChoices_150 : decode cX1_priceChoices 150 = .ok (.ladd, 1) := by decide +kernel
theorem dX1_priceChoices_151 : decode cX1_priceChoices 151 = .ok (.lastore, 1) := by decide +kernel
theorem dX1_priceChoices_152 : decode cX1_priceChoices 152 = .ok (.iinc 5 1, 3) := by decide +kernel
theorem dX1_priceChoices_155 : decode cX1_priceChoices 155 = .ok (.goto (-38), 3) := by decide +kernel
theorem dX1_priceChoices_158 : decode cX1_priceChoices 158 = .ok (.lload_n 1, 1) := by decide +kernel
theorem dX1_priceChoices_159 : decode cX1_priceChoices 159 = .ok (.ldc2_w 144, 3) := by decide +kernel
theorem dX1_priceChoices_162 : decode cX1_priceChoices 162 = .ok (.lmul, 1) := by decide +kernel
theorem dX1_priceChoices_163 : decode cX1_priceChoices 163 = .ok (.lstore_n 1, 1) := by decide +kernel
theorem dX1_priceChoices_164 : decode cX1_priceChoices 164 = .ok (.iinc 3 (-1), 3) := by decide +kernel
theorem dX1_priceChoices_167 : decode cX1_priceChoices 167 = .ok (.goto (-160), 3) := by decide +kernel
theorem dX1_priceChoices_170 : decode cX1_priceChoices 170 = .ok (.return_, 1) := by decide +kernel
theorem dX1_give_0 : decode cX1_give 0 = .ok (.aload_n 0, 1) := by decide +kernel
theorem dX1_give_1 : decode cX1_give 1 = .ok (.getfield 9, 3) := by decide +kernel
theorem dX1_give_4 : decode cX1_give 4 = .ok (.iload_n 2, 1) := by decide +kernel
theorem dX1_give_5 : decode cX1_give 5 = .ok (.iload_n 1, 1) := by decide +kernel
theorem dX1_give_6 : decode cX1_give 6 = .ok (.iastore, 1) := by decide +kernel
theorem dX1_give_7 : decode cX1_give 7 = .ok (.aload_n 0, 1) := by decide +kernel
theorem dX1_give_8 : decode cX1_give 8 = .ok (.getfield 15, 3) := by decide +kernel
theorem dX1_give_11 : decode cX1_give 11 = .ok (.iload_n 2, 1) := by decide +kernel
theorem dX1_give_12 : decode cX1_give 12 = .ok (.aload_n 0, 1) := by decide +kernel
theorem dX1_give_13 : decode cX1_give 13 = .ok (.getfield 18, 3) := by decide +kernel
theorem dX1_give_16 : decode cX1_give 16 = .ok (.iload_n 1, 1) := by decide +kernel
theorem dX1_give_17 : decode cX1_give 17 = .ok (.iaload, 1) := by decide +kernel
theorem dX1_give_18 : decode cX1_give 18 = .ok (.iastore, 1) := by decide +kernel
theorem dX1_give_19 : decode cX1_give 19 = .ok (.aload_n 0, 1) := by decide +kernel
theorem dX1_give_20 : decode cX1_give 20 = .ok (.dup, 1) := by decide +kernel
theorem dX1_give_21 : decode cX1_give 21 = .ok (.getfield 25, 3) := by decide +kernel
theorem dX1_give_24 : decode cX1_give 24 = .ok (.iconst 1, 1) := by decide +kernel
theorem dX1_give_25 : decode cX1_give 25 = .ok (.iadd, 1) := by decide +kernel
theorem dX1_give_26 : decode cX1_give 26 = .ok (.putfield 25, 3) := by decide +kernel
theorem dX1_give_29 : decode cX1_give 29 = .ok (.aload_n 0, 1) := by decide +kernel
theorem dX1_give_30 : decode cX1_give 30 = .ok (.dup, 1) := by decide +kernel
theorem dX1_give_31 : decode cX1_give 31 = .ok (.getfield 28, 3) := by decide +kernel
theorem dX1_give_34 : decode cX1_give 34 = .ok (.aload_n 0, 1) := by decide +kernel
theorem dX1_give_35 : decode cX1_give 35 = .ok (.getfield 54, 3) := by decide +kernel
theorem dX1_give_38 : decode cX1_give 38 = .ok (.aload_n 0, 1) := by decide +kernel
theorem dX1_give_39 : decode cX1_give 39 = .ok (.getfield 15, 3) := by decide +kernel
theorem dX1_give_42 : decode cX1_give 42 = .ok (.iload_n 2, 1) := by decide +kernel
theorem dX1_give_43 : decode cX1_give 43 = .ok (.iaload, 1) := by decide +kernel
theorem dX1_give_44 : decode cX1_give 44 = .ok (.invokevirtual 126, 3) := by decide +kernel
theorem dX1_give_47 : decode cX1_give 47 = .ok (.aload_n 0, 1) := by decide +kernel
theorem dX1_give_48 : decode cX1_give 48 = .ok (.getfield 50, 3) := by decide +kernel
theorem dX1_give_51 : decode cX1_give 51 = .ok (.getfield 102, 3) := by decide +kernel
theorem dX1_give_54 : decode cX1_give 54 = .ok (.iload_n 2, 1) := by decide +kernel
theorem dX1_give_55 : decode cX1_give 55 = .ok (.iaload, 1) := by decide +kernel
theorem dX1_give_56 : decode cX1_give 56 = .ok (.iaload, 1) := by decide +kernel
theorem dX1_give_57 : decode cX1_give 57 = .ok (.iadd, 1) := by decide +kernel
theorem dX1_give_58 : decode cX1_give 58 = .ok (.putfield 28, 3) := by decide +kernel
theorem dX1_give_61 : decode cX1_give 61 = .ok (.return_, 1) := by decide +kernel
theorem dX1_sumBySlots_0 : decode cX1_sumBySlots 0 = .ok (.aload_n 0, 1) := by decide +kernel
theorem dX1_sumBySlots_1 : decode cX1_sumBySlots 1 = .ok (.invokevirtual 64, 3) := by decide +kernel
theorem dX1_sumBySlots_4 : decode cX1_sumBySlots 4 = .ok (.aload_n 0, 1) := by decide +kernel
theorem dX1_sumBySlots_5 : decode cX1_sumBySlots 5 = .ok (.invokevirtual 67, 3) := by decide +kernel
theorem dX1_sumBySlots_8 : decode cX1_sumBySlots 8 = .ok (.aload_n 0, 1) := by decide +kernel
theorem dX1_sumBySlots_9 : decode cX1_sumBySlots 9 = .ok (.getfield 47, 3) := by decide +kernel
theorem dX1_sumBySlots_12 : decode cX1_sumBySlots 12 = .ok (.sipush 12100, 3) := by decide +kernel
theorem dX1_sumBySlots_15 : decode cX1_sumBySlots 15 = .ok (.invokestatic 58, 3) := by decide +kernel
theorem dX1_sumBySlots_18 : decode cX1_sumBySlots 18 = .ok (.aload_n 0, 1) := by decide +kernel
theorem dX1_sumBySlots_19 : decode cX1_sumBySlots 19 = .ok (.getfield 47, 3) := by decide +kernel
theorem dX1_sumBySlots_22 : decode cX1_sumBySlots 22 = .ok (.iconst 0, 1) := by decide +kernel
theorem dX1_sumBySlots_23 : decode cX1_sumBySlots 23 = .ok (.iconst 0, 1) := by decide +kernel
theorem dX1_sumBySlots_24 : decode cX1_sumBySlots 24 = .ok (.iastore, 1) := by decide +kernel
theorem dX1_sumBySlots_25 : decode cX1_sumBySlots 25 = .ok (.iconst 0, 1) := by decide +kernel
theorem dX1_sumBySlots_26 : decode cX1_sumBySlots 26 = .ok (.istore_n 1, 1) := by decide +kernel
theorem dX1_sumBySlots_27 : decode cX1_sumBySlots 27 = .ok (.iload_n 1, 1) := by decide +kernel
theorem dX1_sumBySlots_28 : decode cX1_sumBySlots 28 = .ok (.aload_n 0, 1) := by decide +kernel
theorem dX1_sumBySlots_29 : decode cX1_sumBySlots 29 = .ok (.getfield 21, 3) := by decide +kernel
theorem dX1_sumBySlots_32 : decode cX1_sumBySlots 32 = .ok (.if_icmp .ge 31, 3) := by decide +kernel
theorem dX1_sumBySlots_35 : decode cX1_sumBySlots 35 = .ok (.aload_n 0, 1) := by decide +kernel
theorem dX1_sumBySlots_36 : decode cX1_sumBySlots 36 = .ok (.aload_n 0, 1) := by decide +kernel
theorem dX1_sumBySlots_37 : decode cX1_sumBySlots 37 = .ok (.getfield 54, 3) := by decide +kernel
theorem dX1_sumBySlots_40 : decode cX1_sumBySlots 40 = .ok (.aload_n 0, 1) := by decide +kernel
theorem dX1_sumBySlots_41 : decode cX1_sumBySlots 41 = .ok (.getfield 18, 3) := by decide +kernel
theorem dX1_sumBySlots_44 : decode cX1_sumBySlots 44 = .ok (.aload_n 0, 1) := by decide +kernel
theorem dX1_sumBySlots_45 : decode cX1_sumBySlots 45 = .ok (.getfield 44, 3) := by decide +kernel
theorem dX1_sumBySlots_48 : decode cX1_sumBySlots 48 = .ok (.iload_n 1, 1) := by decide +kernel
theorem dX1_sumBySlots_49 : decode cX1_sumBySlots 49 = .ok (.iaload, 1) := by decide +kernel
theorem dX1_sumBySlots_50 : decode cX1_sumBySlots 50 = .ok (.iaload, 1) := by decide +kernel
theorem dX1_sumBySlots_51 : decode cX1_sumBySlots 51 = .ok (.invokevirtual 126, 3) := by decide +kernel
theorem dX1_sumBySlots_54 : decode cX1_sumBySlots 54 = .ok (.invokevirtual 146, 3) := by decide +kernel
theorem dX1_sumBySlots_57 : decode cX1_sumBySlots 57 = .ok (.iinc 1 1, 3) := by decide +kernel
theorem dX1_sumBySlots_60 : decode cX1_sumBySlots 60 = .ok (.goto (-33), 3) := by decide +kernel
theorem dX1_sumBySlots_63 : decode cX1_sumBySlots 63 = .ok (.aload_n 0, 1) := by decide +kernel
theorem dX1_sumBySlots_64 : decode cX1_sumBySlots 64 = .ok (.getfield 47, 3) := by decide +kernel
theorem dX1_sumBySlots_67 : decode cX1_sumBySlots 67 = .ok (.iconst 0, 1) := by decide +kernel
theorem dX1_sumBySlots_68 : decode cX1_sumBySlots 68 = .ok (.iaload, 1) := by decide +kernel
theorem dX1_sumBySlots_69 : decode cX1_sumBySlots 69 = .ok (.istore_n 1, 1) := by decide +kernel
theorem dX1_sumBySlots_70 : decode cX1_sumBySlots 70 = .ok (.iconst 1, 1) := by decide +kernel
theorem dX1_sumBySlots_71 : decode cX1_sumBySlots 71 = .ok (.istore_n 2, 1) := by decide +kernel
theorem dX1_sumBySlots_72 : decode cX1_sumBySlots 72 = .ok (.iload_n 2, 1) := by decide +kernel
theorem dX1_sumBySlots_73 : decode cX1_sumBySlots 73 = .ok (.sipush 512, 3) := by decide +kernel
theorem dX1_sumBySlots_76 : decode cX1_sumBySlots 76 = .ok (.if_icmp .ge 20, 3) := by decide +kernel
theorem dX1_sumBySlots_79 : decode cX1_sumBySlots 79 = .ok (.iload_n 1, 1) := by decide +kernel
theorem dX1_sumBySlots_80 : decode cX1_sumBySlots 80 = .ok (.aload_n 0, 1) := by decide +kernel
theorem dX1_sumBySlots_81 : decode cX1_sumBySlots 81 = .ok (.getfield 47, 3) := by decide +kernel
theorem dX1_sumBySlots_84 : decode cX1_sumBySlots 84 = .ok (.iload_n 2, 1) := by decide +kernel
theorem dX1_sumBySlots_85 : decode cX1_sumBySlots 85 = .ok (.iaload, 1) := by decide +kernel
theorem dX1_sumBySlots_86 : decode cX1_sumBySlots 86 = .ok (.invokestatic 150, 3) := by decide +kernel
theorem dX1_sumBySlots_89 : decode cX1_sumBySlots 89 = .ok (.istore_n 1, 1) := by decide +kernel
theorem dX1_sumBySlots_90 : decode cX1_sumBySlots 90 = .ok (.iinc 2 1, 3) := by decide +kernel
theorem dX1_sumBySlots_93 : decode cX1_sumBySlots 93 = .ok (.goto (-21), 3) := by decide +kernel
theorem dX1_sumBySlots_96 : decode cX1_sumBySlots 96 = .ok (.iload_n 1, 1) := by decide +kernel
theorem dX1_sumBySlots_97 : decode cX1_sumBySlots 97 = .ok (.sipush 1100, 3) := by decide +kernel
theorem dX1_sumBySlots_100 : decode cX1_sumBySlots 100 = .ok (.irem, 1) := by decide +kernel
theorem dX1_sumBySlots_101 : decode cX1_sumBySlots 101 = .ok (.ireturn, 1) := by decide +kernel
theorem dX1_takeSlotIn_0 : decode cX1_takeSlotIn 0 = .ok (.sipush 511, 3) := by decide +kernel
theorem dX1_takeSlotIn_3 : decode cX1_takeSlotIn 3 = .ok (.istore_n 2, 1) := by decide +kernel
theorem dX1_takeSlotIn_4 : decode cX1_takeSlotIn 4 = .ok (.iload_n 2, 1) := by decide +kernel
theorem dX1_takeSlotIn_5 : decode cX1_takeSlotIn 5 = .ok (.ifCond .lt 97, 3) := by decide +kernel
theorem dX1_takeSlotIn_8 : decode cX1_takeSlotIn 8 = .ok (.aload_n 0, 1) := by decide +kernel
theorem dX1_takeSlotIn_9 : decode cX1_takeSlotIn 9 = .ok (.getfield 47, 3) := by decide +kernel
theorem dX1_takeSlotIn_12 : decode cX1_takeSlotIn 12 = .ok (.iload_n 2, 1) := by decide +kernel
theorem dX1_takeSlotIn_13 : decode cX1_takeSlotIn 13 = .ok (.iaload, 1) := by decide +kernel
theorem dX1_takeSlotIn_14 : decode cX1_takeSlotIn 14 = .ok (.sipush 1100, 3) := by decide +kernel
theorem dX1_takeSlotIn_17 : decode cX1_takeSlotIn 17 = .ok (.iadd, 1) := by decide +kernel
theorem dX1_takeSlotIn_18 : decode cX1_takeSlotIn 18 = .ok (.istore_n 3, 1) := by decide +kernel
theorem dX1_takeSlotIn_19 : decode cX1_takeSlotIn 19 = .ok (.iconst 0, 1) := by decide +kernel
theorem dX1_takeSlotIn_20 : decode cX1_takeSlotIn 20 = .ok (.istore 4, 2) := by decide +kernel
theorem dX1_takeSlotIn_22 : decode cX1_takeSlotIn 22 = .ok (.iload 4, 2) := by decide +kernel
theorem dX1_takeSlotIn_24 : decode cX1_takeSlotIn 24 = .ok (.aload_n 0, 1) := by decide +kernel
theorem dX1_takeSlotIn_25 : decode cX1_takeSlotIn 25 = .ok (.getfield 41, 3) := by decide +kernel
theorem dX1_takeSlotIn_28 : decode cX1_takeSlotIn 28 = .ok (.if_icmp .ge 61, 3) := by decide +kernel
theorem dX1_takeSlotIn_31 : decode cX1_takeSlotIn 31 = .ok (.aload_n 1, 1) := by decide +kernel
theorem dX1_takeSlotIn_32 : decode cX1_takeSlotIn 32 = .ok (.aload_n 0, 1) := by decide +kernel
theorem dX1_takeSlotIn_33 : decode cX1_takeSlotIn 33 = .ok (.getfield 50, 3) := by decide +kernel
theorem dX1_takeSlotIn_36 : decode cX1_takeSlotIn 36 = .ok (.getfield 102, 3) := by decide +kernel
theorem dX1_takeSlotIn_39 : decode cX1_takeSlotIn 39 = .ok (.aload_n 0, 1) := by decide +kernel
theorem dX1_takeSlotIn_40 : decode cX1_takeSlotIn 40 = .ok (.getfield 38, 3) := by decide +kernel
theorem dX1_takeSlotIn_43 : decode cX1_takeSlotIn 43 = .ok (.iload 4, 2) := by decide +kernel
theorem dX1_takeSlotIn_45 : decode cX1_takeSlotIn 45 = .ok (.iaload, 1) := by decide +kernel
theorem dX1_takeSlotIn_46 : decode cX1_takeSlotIn 46 = .ok (.iaload, 1) := by decide +kernel
theorem dX1_takeSlotIn_47 : decode cX1_takeSlotIn 47 = .ok (.iaload, 1) := by decide +kernel
theorem dX1_takeSlotIn_48 : decode cX1_takeSlotIn 48 = .ok (.istore 5, 2) := by decide +kernel
theorem dX1_takeSlotIn_50 : decode cX1_takeSlotIn 50 = .ok (.iload_n 2, 1) := by decide +kernel
theorem dX1_takeSlotIn_51 : decode cX1_takeSlotIn 51 = .ok (.iconst 1, 1) := by decide +kernel
theorem dX1_takeSlotIn_52 : decode cX1_takeSlotIn 52 = .ok (.iload 4, 2) := by decide +kernel
theorem dX1_takeSlotIn_54 : decode cX1_takeSlotIn 54 = .ok (.ishl, 1) := by decide +kernel
theorem dX1_takeSlotIn_55 : decode cX1_takeSlotIn 55 = .ok (.iand, 1) := by decide +kernel
theorem dX1_takeSlotIn_56 : decode cX1_takeSlotIn 56 = .ok (.ifCond .eq 27, 3) := by decide +kernel
theorem dX1_takeSlotIn_59 : decode cX1_takeSlotIn 59 = .ok (.iload 5, 2) := by decide +kernel
theorem dX1_takeSlotIn_61 : decode cX1_takeSlotIn 61 = .ok (.ifCond .lt 22, 3) := by decide +kernel
theorem dX1_takeSlotIn_64 : decode cX1_takeSlotIn 64 = .ok (.iload_n 3, 1) := by decide +kernel
theorem dX1_takeSlotIn_65 : decode cX1_takeSlotIn 65 = .ok (.aload_n 0, 1) := by decide +kernel
theorem dX1_takeSlotIn_66 : decode cX1_takeSlotIn 66 = .ok (.getfield 47, 3) := by decide +kernel
theorem dX1_takeSlotIn_69 : decode cX1_takeSlotIn 69 = .ok (.iload_n 2, 1) := by decide +kernel
theorem dX1_takeSlotIn_70 : decode cX1_takeSlotIn 70 = .ok (.iconst 1, 1) := by decide +kernel
theorem dX1_takeSlotIn_71 : decode cX1_takeSlotIn 71 = .ok (.iload 4, 2) := by decide +kernel
theorem dX1_takeSlotIn_73 : decode cX1_takeSlotIn 73 = .ok (.ishl, 1) := by decide +kernel
theorem dX1_takeSlotIn_74 : decode cX1_takeSlotIn 74 = .ok (.ixor, 1) := by decide +kernel
theorem dX1_takeSlotIn_75 : decode cX1_takeSlotIn 75 = .ok (.iaload, 1) := by decide +kernel
theorem dX1_takeSlotIn_76 : decode cX1_takeSlotIn 76 = .ok (.iload 5, 2) := by decide +kernel
theorem dX1_takeSlotIn_78 : decode cX1_takeSlotIn 78 = .ok (.iadd, 1) := by decide +kernel
theorem dX1_takeSlotIn_79 : decode cX1_takeSlotIn 79 = .ok (.invokestatic 150, 3) := by decide +kernel
theorem dX1_takeSlotIn_82 : decode cX1_takeSlotIn 82 = .ok (.istore_n 3, 1) := by decide +kernel
theorem dX1_takeSlotIn_83 : decode cX1_takeSlotIn 83 = .ok (.iinc 4 1, 3) := by decide +kernel
theorem dX1_takeSlotIn_86 : decode cX1_takeSlotIn 86 = .ok (.goto (-64), 3) := by decide +kernel
theorem dX1_takeSlotIn_89 : decode cX1_takeSlotIn 89 = .ok (.aload_n 0, 1) := by decide +kernel
theorem dX1_takeSlotIn_90 : decode cX1_takeSlotIn 90 = .ok (.getfield 47, 3) := by decide +kernel
theorem dX1_takeSlotIn_93 : decode cX1_takeSlotIn 93 = .ok (.iload_n 2, 1) := by decide +kernel
theorem dX1_takeSlotIn_94 : decode cX1_takeSlotIn 94 = .ok (.iload_n 3, 1) := by decide +kernel
theorem dX1_takeSlotIn_95 : decode cX1_takeSlotIn 95 = .ok (.iastore, 1) := by decide +kernel
theorem dX1_takeSlotIn_96 : decode cX1_takeSlotIn 96 = .ok (.iinc 2 (-1), 3) := by decide +kernel
theorem dX1_takeSlotIn_99 : decode cX1_takeSlotIn 99 = .ok (.goto (-95), 3) := by decide +kernel
theorem dX1_takeSlotIn_102 : decode cX1_takeSlotIn 102 = .ok (.return_, 1) := by decide +kernel
theorem dX2_init_0 : decode cX2_init 0 = .ok (.aload_n 0, 1) := by decide +kernel
theorem dX2_init_1 : decode cX2_init 1 = .ok (.invokespecial 1, 3) := by decide +kernel
theorem dX2_init_4 : decode cX2_init 4 = .ok (.aload_n 0, 1) := by decide +kernel
theorem dX2_init_5 : decode cX2_init 5 = .ok (.bipush 10, 2) := by decide +kernel
theorem dX2_init_7 : decode cX2_init 7 = .ok (.bipush 20, 2) := by decide +kernel
theorem dX2_init_9 : decode cX2_init 9 = .ok (.multianewarray 9 2, 4) := by decide +kernel
theorem dX2_init_13 : decode cX2_init 13 = .ok (.putfield 11, 3) := by decide +kernel
theorem dX2_init_16 : decode cX2_init 16 = .ok (.aload_n 0, 1) := by decide +kernel
theorem dX2_init_17 : decode cX2_init 17 = .ok (.bipush 20, 2) := by decide +kernel
theorem dX2_init_19 : decode cX2_init 19 = .ok (.newarray .int, 2) := by decide +kernel
theorem dX2_init_21 : decode cX2_init 21 = .ok (.putfield 14, 3) := by decide +kernel
theorem dX2_init_24 : decode cX2_init 24 = .ok (.aload_n 0, 1) := by decide +kernel
theorem dX2_init_25 : decode cX2_init 25 = .ok (.bipush 10, 2) := by decide +kernel
theorem dX2_init_27 : decode cX2_init 27 = .ok (.newarray .long, 2) := by decide +kernel
theorem dX2_init_29 : decode cX2_init 29 = .ok (.putfield 18, 3) := by decide +kernel
theorem dX2_init_32 : decode cX2_init 32 = .ok (.aload_n 0, 1) := by decide +kernel
theorem dX2_init_33 : decode cX2_init 33 = .ok (.bipush 20, 2) := by decide +kernel
theorem dX2_init_35 : decode cX2_init 35 = .ok (.newarray .long, 2) := by decide +kernel
theorem dX2_init_37 : decode cX2_init 37 = .ok (.putfield 22, 3) := by decide +kernel
theorem dX2_init_40 : decode cX2_init 40 = .ok (.aload_n 0, 1) := by decide +kernel
theorem dX2_init_41 : decode cX2_init 41 = .ok (.bipush 20, 2) := by decide +kernel
theorem dX2_init_43 : decode cX2_init 43 = .ok (.newarray .long, 2) := by decide +kernel
theorem dX2_init_45 : decode cX2_init 45 = .ok (.putfield 25, 3) := by decide +kernel
theorem dX2_init_48 : decode cX2_init 48 = .ok (.aload_n 0, 1) := by decide +kernel
theorem dX2_init_49 : decode cX2_init 49 = .ok (.bipush 20, 2) := by decide +kernel
theorem dX2_init_51 : decode cX2_init 51 = .ok (.newarray .int, 2) := by decide +kernel
theorem dX2_init_53 : decode cX2_init 53 = .ok (.putfield 28, 3) := by decide +kernel
theorem dX2_init_56 : decode cX2_init 56 = .ok (.aload_n 0, 1) := by decide +kernel
theorem dX2_init_57 : decode cX2_init 57 = .ok (.bipush 20, 2) := by decide +kernel
theorem dX2_init_59 : decode cX2_init 59 = .ok (.newarray .boolean, 2) := by decide +kernel
theorem dX2_init_61 : decode cX2_init 61 = .ok (.putfield 31, 3) := by decide +kernel
theorem dX2_init_64 : decode cX2_init 64 = .ok (.return_, 1) := by decide +kernel
theorem dX2_solve_0 : decode cX2_solve 0 = .ok (.aload_n 0, 1) := by decide +kernel
theorem dX2_solve_1 : decode cX2_solve 1 = .ok (.getfield 14, 3) := by decide +kernel
theorem dX2_solve_4 : decode cX2_solve 4 = .ok (.iconst 0, 1) := by decide +kernel
theorem dX2_solve_5 : decode cX2_solve 5 = .ok (.invokestatic 35, 3) := by decide +kernel
theorem dX2_solve_8 : decode cX2_solve 8 = .ok (.aload_n 0, 1) := by decide +kernel
theorem dX2_solve_9 : decode cX2_solve 9 = .ok (.getfield 18, 3) := by decide +kernel
theorem dX2_solve_12 : decode cX2_solve 12 = .ok (.lconst 0, 1) := by decide +kernel
theorem dX2_solve_13 : decode cX2_solve 13 = .ok (.invokestatic 41, 3) := by decide +kernel
theorem dX2_solve_16 : decode cX2_solve 16 = .ok (.aload_n 0, 1) := by decide +kernel
theorem dX2_solve_17 : decode cX2_solve 17 = .ok (.getfield 22, 3) := by decide +kernel
theorem dX2_solve_20 : decode cX2_solve 20 = .ok (.lconst 0, 1) := by decide +kernel
theorem dX2_solve_21 : decode cX2_solve 21 = .ok (.invokestatic 41, 3) := by decide +kernel
theorem dX2_solve_24 : decode cX2_solve 24 = .ok (.iconst 1, 1) := by decide +kernel
theorem dX2_solve_25 : decode cX2_solve 25 = .ok (.istore_n 3, 1) := by decide +kernel
theorem dX2_solve_26 : decode cX2_solve 26 = .ok (.iload_n 3, 1) := by decide +kernel
theorem dX2_solve_27 : decode cX2_solve 27 = .ok (.iload_n 1, 1) := by decide +kernel
theorem dX2_solve_28 : decode cX2_solve 28 = .ok (.if_icmp .gt 15, 3) := by decide +kernel
theorem dX2_solve_31 : decode cX2_solve 31 = .ok (.aload_n 0, 1) := by decide +kernel
theorem dX2_solve_32 : decode cX2_solve 32 = .ok (.iload_n 3, 1) := by decide +kernel
theorem dX2_solve_33 : decode cX2_solve 33 = .ok (.iload_n 2, 1) := by decide +kernel
theorem dX2_solve_34 : decode cX2_solve 34 = .ok (.invokevirtual 44, 3) := by decide +kernel
theorem dX2_solve_37 : decode cX2_solve 37 = .ok (.iinc 3 1, 3) := by decide +kernel
theorem dX2_solve_40 : decode cX2_solve 40 = .ok (.goto (-14), 3) := by decide +kernel
theorem dX2_solve_43 : decode cX2_solve 43 = .ok (.return_, 1) := by decide +kernel
theorem dX2_seat_0 : decode cX2_seat 0 = .ok (.iconst 0, 1) := by decide +kernel
theorem dX2_seat_1 : decode cX2_seat 1 = .ok (.istore_n 3, 1) := by decide +kernel
theorem dX2_seat_2 : decode cX2_seat 2 = .ok (.iload_n 3, 1) := by decide +kernel
theorem dX2_seat_3 : decode cX2_seat 3 = .ok (.iload_n 2, 1) := by decide +kernel
theorem dX2_seat_4 : decode cX2_seat 4 = .ok (.if_icmp .gt 25, 3) := by decide +kernel
theorem dX2_seat_7 : decode cX2_seat 7 = .ok (.aload_n 0, 1) := by decide +kernel
theorem dX2_seat_8 : decode cX2_seat 8 = .ok (.getfield 25, 3) := by decide +kernel
theorem dX2_seat_11 : decode cX2_seat 11 = .ok (.iload_n 3, 1) := by decide +kernel
theorem dX2_seat_12 : decode cX2_seat 12 = .ok (.ldc2_w 48, 3) := by decide +kernel
theorem dX2_seat_15 : decode cX2_seat 15 = .ok (.lastore, 1) := by decide +kernel
theorem dX2_seat_16 : decode cX2_seat 16 = .ok (.aload_n 0, 1) := by decide +kernel
theorem dX2_seat_17 : decode cX2_seat 17 = .ok (.getfield 31, 3) := by decide +kernel
theorem dX2_seat_20 : decode cX2_seat 20 = .ok (.iload_n 3, 1) := by decide +kernel
theorem dX2_seat_21 : decode cX2_seat 21 = .ok (.iconst 0, 1) := by decide +kernel
theorem dX2_seat_22 : decode cX2_seat 22 = .ok (.bastore, 1) := by decide +kernel
theorem dX2_seat_23 : decode cX2_seat 23 = .ok (.iinc 3 1, 3) := by decide +kernel
theorem dX2_seat_26 : decode cX2_seat 26 = .ok (.goto (-24), 3) := by decide +kernel
theorem dX2_seat_29 : decode cX2_seat 29 = .ok (.aload_n 0, 1) := by decide +kernel
theorem dX2_seat_30 : decode cX2_seat 30 = .ok (.getfield 14, 3) := by decide +kernel
theorem dX2_seat_33 : decode cX2_seat 33 = .ok (.iconst 0, 1) := by decide +kernel
theorem dX2_seat_34 : decode cX2_seat 34 = .ok (.iload_n 1, 1) := by decide +kernel
theorem dX2_seat_35 : decode cX2_seat 35 = .ok (.iastore, 1) := by decide +kernel
theorem dX2_seat_36 : decode cX2_seat 36 = .ok (.iconst 0, 1) := by decide +kernel
theorem dX2_seat_37 : decode cX2_seat 37 = .ok (.istore_n 3, 1) := by decide +kernel
theorem dX2_seat_38 : decode cX2_seat 38 = .ok (.iconst 0, 1) := by decide +kernel
theorem dX2_seat_39 : decode cX2_seat 39 = .ok (.istore 4, 2) := by decide +kernel
theorem dX2_seat_41 : decode cX2_seat 41 = .ok (.iload 4, 2) := by decide +kernel
theorem dX2_seat_43 : decode cX2_seat 43 = .ok (.iload_n 2, 1) := by decide +kernel
theorem dX2_seat_44 : decode cX2_seat 44 = .ok (.if_icmp .gt 32, 3) := by decide +kernel
theorem dX2_seat_47 : decode cX2_seat 47 = .ok (.aload_n 0, 1) := by decide +kernel
theorem dX2_seat_48 : decode cX2_seat 48 = .ok (.getfield 14, 3) := by decide +kernel
theorem dX2_seat_51 : decode cX2_seat 51 = .ok (.iload_n 3, 1) := by decide +kernel
theorem dX2_seat_52 : decode cX2_seat 52 = .ok (.iaload, 1) := by decide +kernel
theorem dX2_seat_53 : decode cX2_seat 53 = .ok (.ifCond .eq 23, 3) := by decide +kernel
theorem dX2_seat_56 : decode cX2_seat 56 = .ok (.aload_n 0, 1) := by decide +kernel
theorem dX2_seat_57 : decode cX2_seat 57 = .ok (.getfield 31, 3) := by decide +kernel
theorem dX2_seat_60 : decode cX2_seat 60 = .ok (.iload_n 3, 1) := by decide +kernel
theorem dX2_seat_61 : decode cX2_seat 61 = .ok (.iconst 1, 1) := by decide +kernel
theorem dX2_seat_62 : decode cX2_seat 62 = .ok (.bastore, 1) := by decide +kernel
theorem dX2_seat_63 : decode cX2_seat 63 = .ok (.aload_n 0, 1) := by decide +kernel
theorem dX2_seat_64 : decode cX2_seat 64 = .ok (.iload_n 3, 1) := by decide +kernel
theorem dX2_seat_65 : decode cX2_seat 65 = .ok (.iload_n 2, 1) := by decide +kernel
theorem dX2_seat_66 : decode cX2_seat 66 = .ok (.invokevirtual 50, 3) := by decide +kernel
theorem dX2_seat_69 : decode cX2_seat 69 = .ok (.istore_n 3, 1) := by decide +kernel
theorem dX2_seat_70 : decode cX2_seat 70 = .ok (.iinc 4 1, 3) := by decide +kernel
theorem dX2_seat_73 : decode cX2_seat 73 = .ok (.goto (-32), 3) := by decide +kernel
theorem dX2_seat_76 : decode cX2_seat 76 = .ok (.iconst 0, 1) := by decide +kernel
theorem dX2_seat_77 : decode cX2_seat 77 = .ok (.istore 4, 2) := by decide +kernel
theorem dX2_seat_79 : decode cX2_seat 79 = .ok (.iload 4, 2) := by decide +kernel
theorem dX2_seat_81 : decode cX2_seat 81 = .ok (.iload_n 2, 1) := by decide +kernel
theorem dX2_seat_82 : decode cX2_seat 82 = .ok (.if_icmp .gt 37, 3) := by decide +kernel
theorem dX2_seat_85 : decode cX2_seat 85 = .ok (.iload_n 3, 1) := by decide +kernel
theorem dX2_seat_86 : decode cX2_seat 86 = .ok (.ifCond .eq 33, 3) := by decide +kernel
theorem dX2_seat_89 : decode cX2_seat 89 = .ok (.aload_n 0, 1) := by decide +kernel
theorem dX2_seat_90 : decode cX2_seat 90 = .ok (.getfield 14, 3) := by decide +kernel
theorem dX2_seat_93 : decode cX2_seat 93 = .ok (.iload_n 3, 1) := by decide +kernel
theorem dX2_seat_94 : decode cX2_seat 94 = .ok (.aload_n 0, 1) := by decide +kernel
theorem dX2_seat_95 : decode cX2_seat 95 = .ok (.getfield 14, 3) := by decide +kernel
theorem dX2_seat_98 : decode cX2_seat 98 = .ok (.aload_n 0, 1) := by decide +kernel
theorem dX2_seat_99 : decode cX2_seat 99 = .ok (.getfield 28, 3) := by decide +kernel
theorem dX2_seat_102 : decode cX2_seat 102 = .ok (.iload_n 3, 1) := by decide +kernel
theorem dX2_seat_103 : decode cX2_seat 103 = .ok (.iaload, 1) := by decide +kernel
theorem dX2_seat_104 : decode cX2_seat 104 = .ok (.iaload, 1) := by decide +kernel
theorem dX2_seat_105 : decode cX2_seat 105 = .ok (.iastore, 1) := by decide +kernel
theorem dX2_seat_106 : decode cX2_seat 106 = .ok (.aload_n 0, 1) := by decide +kernel
theorem dX2_seat_107 : decode cX2_seat 107 = .ok (.getfield 28, 3) := by decide +kernel
theorem dX2_seat_110 : decode cX2_seat 110 = .ok (.iload_n 3, 1) := by decide +kernel
theorem dX2_seat_111 : decode cX2_seat 111 = .ok (.iaload, 1) := by decide +kernel
theorem dX2_seat_112 : decode cX2_seat 112 = .ok (.istore_n 3, 1) := by decide +kernel
theorem dX2_seat_113 : decode cX2_seat 113 = .ok (.iinc 4 1, 3) := by decide +kernel
theorem dX2_seat_116 : decode cX2_seat 116 = .ok (.goto (-37), 3) := by decide +kernel
theorem dX2_seat_119 : decode cX2_seat 119 = .ok (.return_, 1) := by decide +kernel
theorem dX2_reachNext_0 : decode cX2_reachNext 0 = .ok (.aload_n 0, 1) := by decide +kernel
theorem dX2_reachNext_1 : decode cX2_reachNext 1 = .ok (.getfield 14, 3) := by decide +kernel
theorem dX2_reachNext_4 : decode cX2_reachNext 4 = .ok (.iload_n 1, 1) := by decide +kernel
theorem dX2_reachNext_5 : decode cX2_reachNext 5 = .ok (.iaload, 1) := by decide +kernel
theorem dX2_reachNext_6 : decode cX2_reachNext 6 = .ok (.istore_n 3, 1) := by decide +kernel
theorem dX2_reachNext_7 : decode cX2_reachNext 7 = .ok (.iconst 0, 1) := by decide +kernel
theorem dX2_reachNext_8 : decode cX2_reachNext 8 = .ok (.istore 4, 2) := by decide +kernel
theorem dX2_reachNext_10 : decode cX2_reachNext 10 = .ok (.ldc2_w 48, 3) := by decide +kernel
theorem dX2_reachNext_13 : decode cX2_reachNext 13 = .ok (.lstore 5, 2) := by decide +kernel
theorem dX2_reachNext_15 : decode cX2_reachNext 15 = .ok (.iconst 1, 1) := by decide +kernel
theorem dX2_reachNext_16 : decode cX2_reachNext 16 = .ok (.istore 7, 2) := by decide +kernel
theorem dX2_reachNext_18 : decode cX2_reachNext 18 = .ok (.iload 7, 2) := by decide +kernel
theorem dX2_reachNext_20 : decode cX2_reachNext 20 = .ok (.iload_n 2, 1) := by decide +kernel
theorem dX2_reachNext_21 : decode cX2_reachNext 21 = .ok (.if_icmp .gt 101, 3) := by decide +kernel
theorem dX2_reachNext_24 : decode cX2_reachNext 24 = .ok (.aload_n 0, 1) := by decide +kernel
theorem dX2_reachNext_25 : decode cX2_reachNext 25 = .ok (.getfield 31, 3) := by decide +kernel
theorem dX2_reachNext_28 : decode cX2_reachNext 28 = .ok (.iload 7, 2) := by decide +kernel
theorem dX2_reachNext_30 : decode cX2_reachNext 30 = .ok (.baload, 1) := by decide +kernel
theorem dX2_reachNext_31 : decode cX2_reachNext 31 = .ok (.ifCond .ne 85, 3) := by decide +kernel
theorem dX2_reachNext_34 : decode cX2_reachNext 34 = .ok (.aload_n 0, 1) := by decide +kernel
theorem dX2_reachNext_35 : decode cX2_reachNext 35 = .ok (.getfield 11, 3) := by decide +kernel
theorem dX2_reachNext_38 : decode cX2_reachNext 38 = .ok (.iload_n 3, 1) := by decide +kernel
theorem dX2_reachNext_39 : decode cX2_reachNext 39 = .ok (.aaload, 1) := by decide +kernel
theorem dX2_reachNext_40 : decode cX2_reachNext 40 = .ok (.iload 7, 2) := by decide +kernel
theorem dX2_reachNext_42 : decode cX2_reachNext 42 = .ok (.laload, 1) := by decide +kernel
theorem dX2_reachNext_43 : decode cX2_reachNext 43 = .ok (.aload_n 0, 1) := by decide +kernel
theorem dX2_reachNext_44 : decode cX2_reachNext 44 = .ok (.getfield 18, 3) := by decide +kernel
theorem dX2_reachNext_47 : decode cX2_reachNext 47 = .ok (.iload_n 3, 1) := by decide +kernel
theorem dX2_reachNext_48 : decode cX2_reachNext 48 = .ok (.laload, 1) := by decide +kernel
theorem dX2_reachNext_49 : decode cX2_reachNext 49 = .ok (.lsub, 1) := by decide +kernel
theorem dX2_reachNext_50 : decode cX2_reachNext 50 = .ok (.aload_n 0, 1) := by decide +kernel
theorem dX2_reachNext_51 : decode cX2_reachNext 51 = .ok (.getfield 22, 3) := by decide +kernel
theorem dX2_reachNext_54 : decode cX2_reachNext 54 = .ok (.iload 7, 2) := by decide +kernel
theorem dX2_reachNext_56 : decode cX2_reachNext 56 = .ok (.laload, 1) := by decide +kernel
theorem dX2_reachNext_57 : decode cX2_reachNext 57 = .ok (.lsub, 1) := by decide +kernel
theorem dX2_reachNext_58 : decode cX2_reachNext 58 = .ok (.lstore 8, 2) := by decide +kernel
theorem dX2_reachNext_60 : decode cX2_reachNext 60 = .ok (.lload 8, 2) := by decide +kernel
theorem dX2_reachNext_62 : decode cX2_reachNext 62 = .ok (.aload_n 0, 1) := by decide +kernel
theorem dX2_reachNext_63 : decode cX2_reachNext 63 = .ok (.getfield 25, 3) := by decide +kernel
theorem dX2_reachNext_66 : decode cX2_reachNext 66 = .ok (.iload 7, 2) := by decide +kernel
theorem dX2_reachNext_68 : decode cX2_reachNext 68 = .ok (.laload, 1) := by decide +kernel
theorem dX2_reachNext_69 : decode cX2_reachNext 69 = .ok (.lcmp, 1) := by decide +kernel
theorem dX2_reachNext_70 : decode cX2_reachNext 70 = .ok (.ifCond .ge 20, 3) := by decide +kernel
theorem dX2_reachNext_73 : decode cX2_reachNext 73 = .ok (.aload_n 0, 1) := by decide +kernel
theorem dX2_reachNext_74 : decode cX2_reachNext 74 = .ok (.getfield 25, 3) := by decide +kernel
theorem dX2_reachNext_77 : decode cX2_reachNext 77 = .ok (.iload 7, 2) := by decide +kernel
theorem dX2_reachNext_79 : decode cX2_reachNext 79 = .ok (.lload 8, 2) := by decide +kernel
theorem dX2_reachNext_81 : decode cX2_reachNext 81 = .ok (.lastore, 1) := by decide +kernel
theorem dX2_reachNext_82 : decode cX2_reachNext 82 = .ok (.aload_n 0, 1) := by decide +kernel
theorem dX2_reachNext_83 : decode cX2_reachNext 83 = .ok (.getfield 28, 3) := by decide +kernel
theorem dX2_reachNext_86 : decode cX2_reachNext 86 = .ok (.iload 7, 2) := by decide +kernel
theorem dX2_reachNext_88 : decode cX2_reachNext 88 = .ok (.iload_n 1, 1) := by decide +kernel
theorem dX2_reachNext_89 : decode cX2_reachNext 89 = .ok (.iastore, 1) := by decide +kernel
theorem dX2_reachNext_90 : decode cX2_reachNext 90 = .ok (.aload_n 0, 1) := by decide +kernel
theorem dX2_reachNext_91 : decode cX2_reachNext 91 = .ok (.getfield 25, 3) := by decide +kernel
theorem dX2_reachNext_94 : decode cX2_reachNext 94 = .ok (.iload 7, 2) := by decide +kernel
theorem dX2_reachNext_96 : decode cX2_reachNext 96 = .ok (.laload, 1) := by decide +kernel
theorem dX2_reachNext_97 : decode cX2_reachNext 97 = .ok (.lload 5, 2) := by decide +kernel
theorem dX2_reachNext_99 : decode cX2_reachNext 99 = .ok (.lcmp, 1) := by decide +kernel
theorem dX2_reachNext_100 : decode cX2_reachNext 100 = .ok (.ifCond .ge 16, 3) := by decide +kernel
theorem dX2_reachNext_103 : decode cX2_reachNext 103 = .ok (.aload_n 0, 1) := by decide +kernel
theorem dX2_reachNext_104 : decode cX2_reachNext 104 = .ok (.getfield 25, 3) := by decide +kernel
theorem dX2_reachNext_107 : decode cX2_reachNext 107 = .ok (.iload 7, 2) := by decide +kernel
theorem dX2_reachNext_109 : decode cX2_reachNext 109 = .ok (.laload, 1) := by decide +kernel
theorem dX2_reachNext_110 : decode cX2_reachNext 110 = .ok (.lstore 5, 2) := by decide +kernel
theorem dX2_reachNext_112 : decode cX2_reachNext 112 = .ok (.iload 7, 2) := by decide +kernel
theorem dX2_reachNext_114 : decode cX2_reachNext 114 = .ok (.istore 4, 2) := by decide +kernel
theorem dX2_reachNext_116 : decode cX2_reachNext 116 = .ok (.iinc 7 1, 3) := by decide +kernel
theorem dX2_reachNext_119 : decode cX2_reachNext 119 = .ok (.goto (-101), 3) := by decide +kernel
theorem dX2_reachNext_122 : decode cX2_reachNext 122 = .ok (.iconst 0, 1) := by decide +kernel
theorem dX2_reachNext_123 : decode cX2_reachNext 123 = .ok (.istore 7, 2) := by decide +kernel
theorem dX2_reachNext_125 : decode cX2_reachNext 125 = .ok (.iload 7, 2) := by decide +kernel
theorem dX2_reachNext_127 : decode cX2_reachNext 127 = .ok (.iload_n 2, 1) := by decide +kernel
theorem dX2_reachNext_128 : decode cX2_reachNext 128 = .ok (.if_icmp .gt 63, 3) := by decide +kernel
theorem dX2_reachNext_131 : decode cX2_reachNext 131 = .ok (.aload_n 0, 1) := by decide +kernel
theorem dX2_reachNext_132 : decode cX2_reachNext 132 = .ok (.getfield 31, 3) := by decide +kernel
theorem dX2_reachNext_135 : decode cX2_reachNext 135 = .ok (.iload 7, 2) := by decide +kernel
theorem dX2_reachNext_137 : decode cX2_reachNext 137 = .ok (.baload, 1) := by decide +kernel
theorem dX2_reachNext_138 : decode cX2_reachNext 138 = .ok (.ifCond .eq 35, 3) := by decide +kernel
theorem dX2_reachNext_141 : decode cX2_reachNext 141 = .ok (.aload_n 0, 1) := by decide +kernel
theorem dX2_reachNext_142 : decode cX2_reachNext 142 = .ok (.getfield 18, 3) := by decide +kernel
theorem dX2_reachNext_145 : decode cX2_reachNext 145 = .ok (.aload_n 0, 1) := by decide +kernel
theorem dX2_reachNext_146 : decode cX2_reachNext 146 = .ok (.getfield 14, 3) := by decide +kernel
theorem dX2_reachNext_149 : decode cX2_reachNext 149 = .ok (.iload 7, 2) := by decide +kernel
theorem dX2_reachNext_151 : decode cX2_reachNext 151 = .ok (.iaload, 1) := by decide +kernel
theorem dX2_reachNext_152 : decode cX2_reachNext 152 = .ok (.dup2, 1) := by decide +kernel
theorem dX2_reachNext_153 : decode cX2_reachNext 153 = .ok (.laload, 1) := by decide +kernel
theorem dX2_reachNext_154 : decode cX2_reachNext 154 = .ok (.lload 5, 2) := by decide +kernel
theorem dX2_reachNext_156 : decode cX2_reachNext 156 = .ok (.ladd, 1) := by decide +kernel
theorem dX2_reachNext_157 : decode cX2_reachNext 157 = .ok (.lastore, 1) := by decide +kernel
theorem dX2_reachNext_158 : decode cX2_reachNext 158 = .ok (.aload_n 0, 1) := by decide +kernel
theorem dX2_reachNext_159 : decode cX2_reachNext 159 = .ok (.getfield 22, 3) := by decide +kernel
theorem dX2_reachNext_162 : decode cX2_reachNext 162 = .ok (.iload 7, 2) := by decide +kernel
theorem dX2_reachNext_164 : decode cX2_reachNext 164 = .ok (.dup2, 1) := by decide +kernel
theorem dX2_reachNext_165 : decode cX2_reachNext 165 = .ok (.laload, 1) := by decide +kernel
theorem dX2_reachNext_166 : decode cX2_reachNext 166 = .ok (.lload 5, 2) := by decide +kernel
theorem dX2_reachNext_168 : decode cX2_reachNext 168 = .ok (.lsub, 1) := by decide +kernel
theorem dX2_reachNext_169 : decode cX2_reachNext 169 = .ok (.lastore, 1) := by decide +kernel
theorem dX2_reachNext_170 : decode cX2_reachNext 170 = .ok (.goto 15, 3) := by decide +kernel
theorem dX2_reachNext_173 : decode cX2_reachNext 173 = .ok (.aload_n 0, 1) := by decide +kernel
theorem dX2_reachNext_174 : decode cX2_reachNext 174 = .ok (.getfield 25, 3) := by decide +kernel
theorem dX2_reachNext_177 : decode cX2_reachNext 177 = .ok (.iload 7, 2) := by decide +kernel
theorem dX2_reachNext_179 : decode cX2_reachNext 179 = .ok (.dup2, 1) := by decide +kernel
theorem dX2_reachNext_180 : decode cX2_reachNext 180 = .ok (.laload, 1) := by decide +kernel
theorem dX2_reachNext_181 : decode cX2_reachNext 181 = .ok (.lload 5, 2) := by decide +kernel
theorem dX2_reachNext_183 : decode cX2_reachNext 183 = .ok (.lsub, 1) := by decide +kernel
theorem dX2_reachNext_184 : decode cX2_reachNext 184 = .ok (.lastore, 1) := by decide +kernel
theorem dX2_reachNext_185 : decode cX2_reachNext 185 = .ok (.iinc 7 1, 3) := by decide +kernel
theorem dX2_reachNext_188 : decode cX2_reachNext 188 = .ok (.goto (-63), 3) := by decide +kernel
theorem dX2_reachNext_191 : decode cX2_reachNext 191 = .ok (.iload 4, 2) := by decide +kernel
theorem dX2_reachNext_193 : decode cX2_reachNext 193 = .ok (.ireturn, 1) := by decide +kernel
theorem dX3_init_0 : decode cX3_init 0 = .ok (.aload_n 0, 1) := by decide +kernel
theorem dX3_init_1 : decode cX3_init 1 = .ok (.invokespecial 3, 3) := by decide +kernel
theorem dX3_init_4 : decode cX3_init 4 = .ok (.aload_n 0, 1) := by decide +kernel
theorem dX3_init_5 : decode cX3_init 5 = .ok (.iconst 0, 1) := by decide +kernel
theorem dX3_init_6 : decode cX3_init 6 = .ok (.putfield 9, 3) := by decide +kernel
theorem dX3_init_9 : decode cX3_init 9 = .ok (.aload_n 0, 1) := by decide +kernel
theorem dX3_init_10 : decode cX3_init 10 = .ok (.bipush 8, 2) := by decide +kernel
theorem dX3_init_12 : decode cX3_init 12 = .ok (.anewarray 15, 3) := by decide +kernel
theorem dX3_init_15 : decode cX3_init 15 = .ok (.putfield 17, 3) := by decide +kernel
theorem dX3_init_18 : decode cX3_init 18 = .ok (.aload_n 0, 1) := by decide +kernel
theorem dX3_init_19 : decode cX3_init 19 = .ok (.iconst 0, 1) := by decide +kernel
theorem dX3_init_20 : decode cX3_init 20 = .ok (.putfield 21, 3) := by decide +kernel
theorem dX3_init_23 : decode cX3_init 23 = .ok (.iconst 0, 1) := by decide +kernel
theorem dX3_init_24 : decode cX3_init 24 = .ok (.istore_n 1, 1) := by decide +kernel
theorem dX3_init_25 : decode cX3_init 25 = .ok (.iload_n 1, 1) := by decide +kernel
theorem dX3_init_26 : decode cX3_init 26 = .ok (.bipush 8, 2) := by decide +kernel
theorem dX3_init_28 : decode cX3_init 28 = .ok (.if_icmp .ge 22, 3) := by decide +kernel
theorem dX3_init_31 : decode cX3_init 31 = .ok (.aload_n 0, 1) := by decide +kernel
theorem dX3_init_32 : decode cX3_init 32 = .ok (.getfield 17, 3) := by decide +kernel
theorem dX3_init_35 : decode cX3_init 35 = .ok (.iload_n 1, 1) := by decide +kernel
theorem dX3_init_36 : decode cX3_init 36 = .ok (.new 15, 3) := by decide +kernel
theorem dX3_init_39 : decode cX3_init 39 = .ok (.dup, 1) := by decide +kernel
theorem dX3_init_40 : decode cX3_init 40 = .ok (.invokespecial 24, 3) := by decide +kernel
theorem dX3_init_43 : decode cX3_init 43 = .ok (.aastore, 1) := by decide +kernel
theorem dX3_init_44 : decode cX3_init 44 = .ok (.iinc 1 1, 3) := by decide +kernel
theorem dX3_init_47 : decode cX3_init 47 = .ok (.goto (-22), 3) := by decide +kernel
theorem dX3_init_50 : decode cX3_init 50 = .ok (.return_, 1) := by decide +kernel
theorem dX3_keep_0 : decode cX3_keep 0 = .ok (.aload_n 0, 1) := by decide +kernel
theorem dX3_keep_1 : decode cX3_keep 1 = .ok (.getfield 17, 3) := by decide +kernel
theorem dX3_keep_4 : decode cX3_keep 4 = .ok (.aload_n 0, 1) := by decide +kernel
theorem dX3_keep_5 : decode cX3_keep 5 = .ok (.getfield 21, 3) := by decide +kernel
theorem dX3_keep_8 : decode cX3_keep 8 = .ok (.aaload, 1) := by decide +kernel
theorem dX3_keep_9 : decode cX3_keep 9 = .ok (.aload_n 1, 1) := by decide +kernel
theorem dX3_keep_10 : decode cX3_keep 10 = .ok (.invokevirtual 25, 3) := by decide +kernel
theorem dX3_keep_13 : decode cX3_keep 13 = .ok (.aload_n 0, 1) := by decide +kernel
theorem dX3_keep_14 : decode cX3_keep 14 = .ok (.aload_n 0, 1) := by decide +kernel
theorem dX3_keep_15 : decode cX3_keep 15 = .ok (.getfield 21, 3) := by decide +kernel
theorem dX3_keep_18 : decode cX3_keep 18 = .ok (.iconst 1, 1) := by decide +kernel
theorem dX3_keep_19 : decode cX3_keep 19 = .ok (.iadd, 1) := by decide +kernel
theorem dX3_keep_20 : decode cX3_keep 20 = .ok (.bipush 8, 2) := by decide +kernel
theorem dX3_keep_22 : decode cX3_keep 22 = .ok (.irem, 1) := by decide +kernel
theorem dX3_keep_23 : decode cX3_keep 23 = .ok (.putfield 21, 3) := by decide +kernel
theorem dX3_keep_26 : decode cX3_keep 26 = .ok (.aload_n 0, 1) := by decide +kernel
theorem dX3_keep_27 : decode cX3_keep 27 = .ok (.aload_n 0, 1) := by decide +kernel
theorem dX3_keep_28 : decode cX3_keep 28 = .ok (.getfield 9, 3) := by decide +kernel
theorem dX3_keep_31 : decode cX3_keep 31 = .ok (.iconst 1, 1) := by decide +kernel
theorem dX3_keep_32 : decode cX3_keep 32 = .ok (.iadd, 1) := by decide +kernel
theorem dX3_keep_33 : decode cX3_keep 33 = .ok (.bipush 8, 2) := by decide +kernel
theorem dX3_keep_35 : decode cX3_keep 35 = .ok (.invokestatic 29, 3) := by decide +kernel
theorem dX3_keep_38 : decode cX3_keep 38 = .ok (.putfield 9, 3) := by decide +kernel
theorem dX3_keep_41 : decode cX3_keep 41 = .ok (.return_, 1) := by decide +kernel
theorem dX3_takeLatest_0 : decode cX3_takeLatest 0 = .ok (.aload_n 0, 1) := by decide +kernel
theorem dX3_takeLatest_1 : decode cX3_takeLatest 1 = .ok (.aload_n 0, 1) := by decide +kernel
theorem dX3_takeLatest_2 : decode cX3_takeLatest 2 = .ok (.getfield 21, 3) := by decide +kernel
theorem dX3_takeLatest_5 : decode cX3_takeLatest 5 = .ok (.bipush 8, 2) := by decide +kernel
theorem dX3_takeLatest_7 : decode cX3_takeLatest 7 = .ok (.iadd, 1) := by decide +kernel
theorem dX3_takeLatest_8 : decode cX3_takeLatest 8 = .ok (.iconst 1, 1) := by decide +kernel
theorem dX3_takeLatest_9 : decode cX3_takeLatest 9 = .ok (.isub, 1) := by decide +kernel
theorem dX3_takeLatest_10 : decode cX3_takeLatest 10 = .ok (.bipush 8, 2) := by decide +kernel
theorem dX3_takeLatest_12 : decode cX3_takeLatest 12 = .ok (.irem, 1) := by decide +kernel
theorem dX3_takeLatest_13 : decode cX3_takeLatest 13 = .ok (.putfield 21, 3) := by decide +kernel
theorem dX3_takeLatest_16 : decode cX3_takeLatest 16 = .ok (.aload_n 0, 1) := by decide +kernel
theorem dX3_takeLatest_17 : decode cX3_takeLatest 17 = .ok (.dup, 1) := by decide +kernel
theorem dX3_takeLatest_18 : decode cX3_takeLatest 18 = .ok (.getfield 9, 3) := by decide +kernel
theorem dX3_takeLatest_21 : decode cX3_takeLatest 21 = .ok (.iconst 1, 1) := by decide +kernel
theorem dX3_takeLatest_22 : decode cX3_takeLatest 22 = .ok (.isub, 1) := by decide +kernel
theorem dX3_takeLatest_23 : decode cX3_takeLatest 23 = .ok (.putfield 9, 3) := by decide +kernel
theorem dX3_takeLatest_26 : decode cX3_takeLatest 26 = .ok (.aload_n 0, 1) := by decide +kernel
theorem dX3_takeLatest_27 : decode cX3_takeLatest 27 = .ok (.getfield 17, 3) := by decide +kernel
theorem dX3_takeLatest_30 : decode cX3_takeLatest 30 = .ok (.aload_n 0, 1) := by decide +kernel
theorem dX3_takeLatest_31 : decode cX3_takeLatest 31 = .ok (.getfield 21, 3) := by decide +kernel
theorem dX3_takeLatest_34 : decode cX3_takeLatest 34 = .ok (.aaload, 1) := by decide +kernel
theorem dX3_takeLatest_35 : decode cX3_takeLatest 35 = .ok (.areturn, 1) := by decide +kernel
theorem dX3_forget_0 : decode cX3_forget 0 = .ok (.aload_n 0, 1) := by decide +kernel
theorem dX3_forget_1 : decode cX3_forget 1 = .ok (.iconst 0, 1) := by decide +kernel
theorem dX3_forget_2 : decode cX3_forget 2 = .ok (.putfield 9, 3) := by decide +kernel
theorem dX3_forget_5 : decode cX3_forget 5 = .ok (.return_, 1) := by decide +kernel
theorem dX4_init_0 : decode cX4_init 0 = .ok (.aload_n 0, 1) := by decide +kernel
theorem dX4_init_1 : decode cX4_init 1 = .ok (.invokespecial 3, 3) := by decide +kernel
theorem dX4_init_4 : decode cX4_init 4 = .ok (.aload_n 0, 1) := by decide +kernel
theorem dX4_init_5 : decode cX4_init 5 = .ok (.bipush 10, 2) := by decide +kernel
theorem dX4_init_7 : decode cX4_init 7 = .ok (.newarray .int, 2) := by decide +kernel
theorem dX4_init_9 : decode cX4_init 9 = .ok (.putfield 9, 3) := by decide +kernel
theorem dX4_init_12 : decode cX4_init 12 = .ok (.aload_n 0, 1) := by decide +kernel
theorem dX4_init_13 : decode cX4_init 13 = .ok (.bipush 10, 2) := by decide +kernel
theorem dX4_init_15 : decode cX4_init 15 = .ok (.newarray .int, 2) := by decide +kernel
theorem dX4_init_17 : decode cX4_init 17 = .ok (.putfield 15, 3) := by decide +kernel
theorem dX4_init_20 : decode cX4_init 20 = .ok (.aload_n 0, 1) := by decide +kernel
theorem dX4_init_21 : decode cX4_init 21 = .ok (.iconst 0, 1) := by decide +kernel
theorem dX4_init_22 : decode cX4_init 22 = .ok (.putfield 18, 3) := by decide +kernel
theorem dX4_init_25 : decode cX4_init 25 = .ok (.aload_n 0, 1) := by decide +kernel
theorem dX4_init_26 : decode cX4_init 26 = .ok (.bipush (-5), 2) := by decide +kernel
theorem dX4_init_28 : decode cX4_init 28 = .ok (.putfield 22, 3) := by decide +kernel
theorem dX4_init_31 : decode cX4_init 31 = .ok (.return_, 1) := by decide +kernel
theorem dX4_copyFrom_0 : decode cX4_copyFrom 0 = .ok (.aload_n 1, 1) := by decide +kernel
theorem dX4_copyFrom_1 : decode cX4_copyFrom 1 = .ok (.getfield 9, 3) := by decide +kernel
theorem dX4_copyFrom_4 : decode cX4_copyFrom 4 = .ok (.iconst 0, 1) := by decide +kernel
theorem dX4_copyFrom_5 : decode cX4_copyFrom 5 = .ok (.aload_n 0, 1) := by decide +kernel
theorem dX4_copyFrom_6 : decode cX4_copyFrom 6 = .ok (.getfield 9, 3) := by decide +kernel
theorem dX4_copyFrom_9 : decode cX4_copyFrom 9 = .ok (.iconst 0, 1) := by decide +kernel
theorem dX4_copyFrom_10 : decode cX4_copyFrom 10 = .ok (.bipush 10, 2) := by decide +kernel
theorem dX4_copyFrom_12 : decode cX4_copyFrom 12 = .ok (.invokestatic 25, 3) := by decide +kernel
theorem dX4_copyFrom_15 : decode cX4_copyFrom 15 = .ok (.aload_n 1, 1) := by decide +kernel
theorem dX4_copyFrom_16 : decode cX4_copyFrom 16 = .ok (.getfield 15, 3) := by decide +kernel
theorem dX4_copyFrom_19 : decode cX4_copyFrom 19 = .ok (.iconst 0, 1) := by decide +kernel
theorem dX4_copyFrom_20 : decode cX4_copyFrom 20 = .ok (.aload_n 0, 1) := by decide +kernel
theorem dX4_copyFrom_21 : decode cX4_copyFrom 21 = .ok (.getfield 15, 3) := by decide +kernel
theorem dX4_copyFrom_24 : decode cX4_copyFrom 24 = .ok (.iconst 0, 1) := by decide +kernel
theorem dX4_copyFrom_25 : decode cX4_copyFrom 25 = .ok (.bipush 10, 2) := by decide +kernel
theorem dX4_copyFrom_27 : decode cX4_copyFrom 27 = .ok (.invokestatic 25, 3) := by decide +kernel
theorem dX4_copyFrom_30 : decode cX4_copyFrom 30 = .ok (.aload_n 0, 1) := by decide +kernel
theorem dX4_copyFrom_31 : decode cX4_copyFrom 31 = .ok (.aload_n 1, 1) := by decide +kernel
theorem dX4_copyFrom_32 : decode cX4_copyFrom 32 = .ok (.getfield 18, 3) := by decide +kernel
theorem dX4_copyFrom_35 : decode cX4_copyFrom 35 = .ok (.putfield 18, 3) := by decide +kernel
theorem dX4_copyFrom_38 : decode cX4_copyFrom 38 = .ok (.aload_n 0, 1) := by decide +kernel
theorem dX4_copyFrom_39 : decode cX4_copyFrom 39 = .ok (.aload_n 1, 1) := by decide +kernel
theorem dX4_copyFrom_40 : decode cX4_copyFrom 40 = .ok (.getfield 22, 3) := by decide +kernel
theorem dX4_copyFrom_43 : decode cX4_copyFrom 43 = .ok (.putfield 22, 3) := by decide +kernel
theorem dX4_copyFrom_46 : decode cX4_copyFrom 46 = .ok (.return_, 1) := by decide +kernel
theorem dX4_empty_0 : decode cX4_empty 0 = .ok (.aload_n 0, 1) := by decide +kernel
theorem dX4_empty_1 : decode cX4_empty 1 = .ok (.iconst 0, 1) := by decide +kernel
theorem dX4_empty_2 : decode cX4_empty 2 = .ok (.putfield 18, 3) := by decide +kernel
theorem dX4_empty_5 : decode cX4_empty 5 = .ok (.aload_n 0, 1) := by decide +kernel
theorem dX4_empty_6 : decode cX4_empty 6 = .ok (.bipush (-5), 2) := by decide +kernel
theorem dX4_empty_8 : decode cX4_empty 8 = .ok (.putfield 22, 3) := by decide +kernel
theorem dX4_empty_11 : decode cX4_empty 11 = .ok (.return_, 1) := by decide +kernel
theorem dX4_takeSlot_0 : decode cX4_takeSlot 0 = .ok (.aload_n 0, 1) := by decide +kernel
theorem dX4_takeSlot_1 : decode cX4_takeSlot 1 = .ok (.getfield 18, 3) := by decide +kernel
theorem dX4_takeSlot_4 : decode cX4_takeSlot 4 = .ok (.bipush 10, 2) := by decide +kernel
theorem dX4_takeSlot_6 : decode cX4_takeSlot 6 = .ok (.if_icmp .lt 5, 3) := by decide +kernel
theorem dX4_takeSlot_9 : decode cX4_takeSlot 9 = .ok (.iconst 0, 1) := by decide +kernel
theorem dX4_takeSlot_10 : decode cX4_takeSlot 10 = .ok (.ireturn, 1) := by decide +kernel
theorem dX4_takeSlot_11 : decode cX4_takeSlot 11 = .ok (.aload_n 0, 1) := by decide +kernel
theorem dX4_takeSlot_12 : decode cX4_takeSlot 12 = .ok (.getfield 9, 3) := by decide +kernel
theorem dX4_takeSlot_15 : decode cX4_takeSlot 15 = .ok (.aload_n 0, 1) := by decide +kernel
theorem dX4_takeSlot_16 : decode cX4_takeSlot 16 = .ok (.getfield 18, 3) := by decide +kernel
theorem dX4_takeSlot_19 : decode cX4_takeSlot 19 = .ok (.iload_n 1, 1) := by decide +kernel
theorem dX4_takeSlot_20 : decode cX4_takeSlot 20 = .ok (.iastore, 1) := by decide +kernel
theorem dX4_takeSlot_21 : decode cX4_takeSlot 21 = .ok (.aload_n 0, 1) := by decide +kernel
theorem dX4_takeSlot_22 : decode cX4_takeSlot 22 = .ok (.getfield 15, 3) := by decide +kernel
theorem dX4_takeSlot_25 : decode cX4_takeSlot 25 = .ok (.aload_n 0, 1) := by decide +kernel
theorem dX4_takeSlot_26 : decode cX4_takeSlot 26 = .ok (.getfield 18, 3) := by decide +kernel
theorem dX4_takeSlot_29 : decode cX4_takeSlot 29 = .ok (.iload_n 2, 1) := by decide +kernel
theorem dX4_takeSlot_30 : decode cX4_takeSlot 30 = .ok (.iastore, 1) := by decide +kernel
theorem dX4_takeSlot_31 : decode cX4_takeSlot 31 = .ok (.aload_n 0, 1) := by decide +kernel
theorem dX4_takeSlot_32 : decode cX4_takeSlot 32 = .ok (.dup, 1) := by decide +kernel
theorem dX4_takeSlot_33 : decode cX4_takeSlot 33 = .ok (.getfield 18, 3) := by decide +kernel
theorem dX4_takeSlot_36 : decode cX4_takeSlot 36 = .ok (.iconst 1, 1) := by decide +kernel
theorem dX4_takeSlot_37 : decode cX4_takeSlot 37 = .ok (.iadd, 1) := by decide +kernel
theorem dX4_takeSlot_38 : decode cX4_takeSlot 38 = .ok (.putfield 18, 3) := by decide +kernel
theorem dX4_takeSlot_41 : decode cX4_takeSlot 41 = .ok (.iconst 1, 1) := by decide +kernel
theorem dX4_takeSlot_42 : decode cX4_takeSlot 42 = .ok (.ireturn, 1) := by decide +kernel
theorem dX4_takeAnchor_0 : decode cX4_takeAnchor 0 = .ok (.aload_n 0, 1) := by decide +kernel
theorem dX4_takeAnchor_1 : decode cX4_takeAnchor 1 = .ok (.getfield 18, 3) := by decide +kernel
theorem dX4_takeAnchor_4 : decode cX4_takeAnchor 4 = .ok (.istore_n 3, 1) := by decide +kernel
theorem dX4_takeAnchor_5 : decode cX4_takeAnchor 5 = .ok (.aload_n 0, 1) := by decide +kernel
theorem dX4_takeAnchor_6 : decode cX4_takeAnchor 6 = .ok (.getfield 22, 3) := by decide +kernel
theorem dX4_takeAnchor_9 : decode cX4_takeAnchor 9 = .ok (.ifCond .ge 12, 3) := by decide +kernel
theorem dX4_takeAnchor_12 : decode cX4_takeAnchor 12 = .ok (.aload_n 0, 1) := by decide +kernel
theorem dX4_takeAnchor_13 : decode cX4_takeAnchor 13 = .ok (.iload_n 1, 1) := by decide +kernel
theorem dX4_takeAnchor_14 : decode cX4_takeAnchor 14 = .ok (.iload_n 2, 1) := by decide +kernel
theorem dX4_takeAnchor_15 : decode cX4_takeAnchor 15 = .ok (.invokevirtual 31, 3) := by decide +kernel
theorem dX4_takeAnchor_18 : decode cX4_takeAnchor 18 = .ok (.ifCond .ne 5, 3) := by decide +kernel
theorem dX4_takeAnchor_21 : decode cX4_takeAnchor 21 = .ok (.iconst 0, 1) := by decide +kernel
theorem dX4_takeAnchor_22 : decode cX4_takeAnchor 22 = .ok (.ireturn, 1) := by decide +kernel
theorem dX4_takeAnchor_23 : decode cX4_takeAnchor 23 = .ok (.aload_n 0, 1) := by decide +kernel
theorem dX4_takeAnchor_24 : decode cX4_takeAnchor 24 = .ok (.iload_n 3, 1) := by decide +kernel
theorem dX4_takeAnchor_25 : decode cX4_takeAnchor 25 = .ok (.putfield 22, 3) := by decide +kernel
theorem dX4_takeAnchor_28 : decode cX4_takeAnchor 28 = .ok (.iconst 1, 1) := by decide +kernel
theorem dX4_takeAnchor_29 : decode cX4_takeAnchor 29 = .ok (.ireturn, 1) := by decide +kernel
theorem dX4_columnsFromAnchor_0 : decode cX4_columnsFromAnchor 0 = .ok (.aload_n 0, 1) := by decide +kernel
theorem dX4_columnsFromAnchor_1 : decode cX4_columnsFromAnchor 1 = .ok (.getfield 9, 3) := by decide +kernel
theorem dX4_columnsFromAnchor_4 : decode cX4_columnsFromAnchor 4 = .ok (.iload_n 1, 1) := by decide +kernel
theorem dX4_columnsFromAnchor_5 : decode cX4_columnsFromAnchor 5 = .ok (.iaload, 1) := by decide +kernel
theorem dX4_columnsFromAnchor_6 : decode cX4_columnsFromAnchor 6 = .ok (.aload_n 0, 1) := by decide +kernel
theorem dX4_columnsFromAnchor_7 : decode cX4_columnsFromAnchor 7 = .ok (.getfield 9, 3) := by decide +kernel
theorem dX4_columnsFromAnchor_10 : decode cX4_columnsFromAnchor 10 = .ok (.aload_n 0, 1) := by decide +kernel
theorem dX4_columnsFromAnchor_11 : decode cX4_columnsFromAnchor 11 = .ok (.getfield 22, 3) := by decide +kernel
theorem dX4_columnsFromAnchor_14 : decode cX4_columnsFromAnchor 14 = .ok (.iaload, 1) := by decide +kernel
theorem dX4_columnsFromAnchor_15 : decode cX4_columnsFromAnchor 15 = .ok (.isub, 1) := by decide +kernel
theorem dX4_columnsFromAnchor_16 : decode cX4_columnsFromAnchor 16 = .ok (.ireturn, 1) := by decide +kernel
theorem dX4_rowsFromAnchor_0 : decode cX4_rowsFromAnchor 0 = .ok (.aload_n 0, 1) := by decide +kernel
theorem dX4_rowsFromAnchor_1 : decode cX4_rowsFromAnchor 1 = .ok (.getfield 15, 3) := by decide +kernel
theorem dX4_rowsFromAnchor_4 : decode cX4_rowsFromAnchor 4 = .ok (.iload_n 1, 1) := by decide +kernel
theorem dX4_rowsFromAnchor_5 : decode cX4_rowsFromAnchor 5 = .ok (.iaload, 1) := by decide +kernel
theorem dX4_rowsFromAnchor_6 : decode cX4_rowsFromAnchor 6 = .ok (.aload_n 0, 1) := by decide +kernel
theorem dX4_rowsFromAnchor_7 : decode cX4_rowsFromAnchor 7 = .ok (.getfield 15, 3) := by decide +kernel
theorem dX4_rowsFromAnchor_10 : decode cX4_rowsFromAnchor 10 = .ok (.aload_n 0, 1) := by decide +kernel
theorem dX4_rowsFromAnchor_11 : decode cX4_rowsFromAnchor 11 = .ok (.getfield 22, 3) := by decide +kernel
theorem dX4_rowsFromAnchor_14 : decode cX4_rowsFromAnchor 14 = .ok (.iaload, 1) := by decide +kernel
theorem dX4_rowsFromAnchor_15 : decode cX4_rowsFromAnchor 15 = .ok (.isub, 1) := by decide +kernel
theorem dX4_rowsFromAnchor_16 : decode cX4_rowsFromAnchor 16 = .ok (.ireturn, 1) := by decide +kernel
theorem dX4_lowestWay_0 : decode cX4_lowestWay 0 = .ok (.aload_n 1, 1) := by decide +kernel
theorem dX4_lowestWay_1 : decode cX4_lowestWay 1 = .ok (.invokevirtual 35, 3) := by decide +kernel
theorem dX4_lowestWay_4 : decode cX4_lowestWay 4 = .ok (.aload_n 0, 1) := by decide +kernel
theorem dX4_lowestWay_5 : decode cX4_lowestWay 5 = .ok (.getfield 18, 3) := by decide +kernel
theorem dX4_lowestWay_8 : decode cX4_lowestWay 8 = .ok (.if_icmp .eq 6, 3) := by decide +kernel
theorem dX4_lowestWay_11 : decode cX4_lowestWay 11 = .ok (.bipush (-5), 2) := by decide +kernel
theorem dX4_lowestWay_13 : decode cX4_lowestWay 13 = .ok (.ireturn, 1) := by decide +kernel
theorem dX4_lowestWay_14 : decode cX4_lowestWay 14 = .ok (.iconst 0, 1) := by decide +kernel
theorem dX4_lowestWay_15 : decode cX4_lowestWay 15 = .ok (.istore_n 2, 1) := by decide +kernel
theorem dX4_lowestWay_16 : decode cX4_lowestWay 16 = .ok (.iload_n 2, 1) := by decide +kernel
theorem dX4_lowestWay_17 : decode cX4_lowestWay 17 = .ok (.bipush 8, 2) := by decide +kernel
theorem dX4_lowestWay_19 : decode cX4_lowestWay 19 = .ok (.if_icmp .ge 20, 3) := by decide +kernel
theorem dX4_lowestWay_22 : decode cX4_lowestWay 22 = .ok (.aload_n 0, 1) := by decide +kernel
theorem dX4_lowestWay_23 : decode cX4_lowestWay 23 = .ok (.aload_n 1, 1) := by decide +kernel
theorem dX4_lowestWay_24 : decode cX4_lowestWay 24 = .ok (.iload_n 2, 1) := by decide +kernel
theorem dX4_lowestWay_25 : decode cX4_lowestWay 25 = .ok (.invokevirtual 41, 3) := by decide +kernel
theorem dX4_lowestWay_28 : decode cX4_lowestWay 28 = .ok (.ifCond .eq 5, 3) := by decide +kernel
theorem dX4_lowestWay_31 : decode cX4_lowestWay 31 = .ok (.iload_n 2, 1) := by decide +kernel
theorem dX4_lowestWay_32 : decode cX4_lowestWay 32 = .ok (.ireturn, 1) := by decide +kernel
theorem dX4_lowestWay_33 : decode cX4_lowestWay 33 = .ok (.iinc 2 1, 3) := by decide +kernel
theorem dX4_lowestWay_36 : decode cX4_lowestWay 36 = .ok (.goto (-20), 3) := by decide +kernel
theorem dX4_lowestWay_39 : decode cX4_lowestWay 39 = .ok (.bipush (-5), 2) := by decide +kernel
theorem dX4_lowestWay_41 : decode cX4_lowestWay 41 = .ok (.ireturn, 1) := by decide +kernel
theorem dX4_isMade_0 : decode cX4_isMade 0 = .ok (.iconst 0, 1) := by decide +kernel
theorem dX4_isMade_1 : decode cX4_isMade 1 = .ok (.istore_n 3, 1) := by decide +kernel
theorem dX4_isMade_2 : decode cX4_isMade 2 = .ok (.iload_n 3, 1) := by decide +kernel
theorem dX4_isMade_3 : decode cX4_isMade 3 = .ok (.bipush 10, 2) := by decide +kernel
theorem dX4_isMade_5 : decode cX4_isMade 5 = .ok (.if_icmp .ge 34, 3) := by decide +kernel
theorem dX4_isMade_8 : decode cX4_isMade 8 = .ok (.aload_n 1, 1) := by decide +kernel
theorem dX4_isMade_9 : decode cX4_isMade 9 = .ok (.iload_n 3, 1) := by decide +kernel
theorem dX4_isMade_10 : decode cX4_isMade 10 = .ok (.invokevirtual 45, 3) := by decide +kernel
theorem dX4_isMade_13 : decode cX4_isMade 13 = .ok (.ifCond .eq 20, 3) := by decide +kernel
theorem dX4_isMade_16 : decode cX4_isMade 16 = .ok (.aload_n 0, 1) := by decide +kernel
theorem dX4_isMade_17 : decode cX4_isMade 17 = .ok (.aload_n 1, 1) := by decide +kernel
theorem dX4_isMade_18 : decode cX4_isMade 18 = .ok (.iload_n 2, 1) := by decide +kernel
theorem dX4_isMade_19 : decode cX4_isMade 19 = .ok (.aload_n 1, 1) := by decide +kernel
theorem dX4_isMade_20 : decode cX4_isMade 20 = .ok (.getfield 49, 3) := by decide +kernel
theorem dX4_isMade_23 : decode cX4_isMade 23 = .ok (.iload_n 3, 1) := by decide +kernel
theorem dX4_isMade_24 : decode cX4_isMade 24 = .ok (.iaload, 1) := by decide +kernel
theorem dX4_isMade_25 : decode cX4_isMade 25 = .ok (.invokevirtual 52, 3) := by decide +kernel
theorem dX4_isMade_28 : decode cX4_isMade 28 = .ok (.ifCond .eq 5, 3) := by decide +kernel
theorem dX4_isMade_31 : decode cX4_isMade 31 = .ok (.iconst 1, 1) := by decide +kernel
theorem dX4_isMade_32 : decode cX4_isMade 32 = .ok (.ireturn, 1) := by decide +kernel
theorem dX4_isMade_33 : decode cX4_isMade 33 = .ok (.iinc 3 1, 3) := by decide +kernel
theorem dX4_isMade_36 : decode cX4_isMade 36 = .ok (.goto (-34), 3) := by decide +kernel
theorem dX4_isMade_39 : decode cX4_isMade 39 = .ok (.iconst 0, 1) := by decide +kernel
theorem dX4_isMade_40 : decode cX4_isMade 40 = .ok (.ireturn, 1) := by decide +kernel
theorem dX4_isMadeFrom_0 : decode cX4_isMadeFrom 0 = .ok (.iload_n 3, 1) := by decide +kernel
theorem dX4_isMadeFrom_1 : decode cX4_isMadeFrom 1 = .ok (.bipush 12, 2) := by decide +kernel
theorem dX4_isMadeFrom_3 : decode cX4_isMadeFrom 3 = .ok (.irem, 1) := by decide +kernel
theorem dX4_isMadeFrom_4 : decode cX4_isMadeFrom 4 = .ok (.aload_n 0, 1) := by decide +kernel
theorem dX4_isMadeFrom_5 : decode cX4_isMadeFrom 5 = .ok (.iconst 0, 1) := by decide +kernel
theorem dX4_isMadeFrom_6 : decode cX4_isMadeFrom 6 = .ok (.iload_n 2, 1) := by decide +kernel
theorem dX4_isMadeFrom_7 : decode cX4_isMadeFrom 7 = .ok (.invokevirtual 56, 3) := by decide +kernel
theorem dX4_isMadeFrom_10 : decode cX4_isMadeFrom 10 = .ok (.isub, 1) := by decide +kernel
theorem dX4_isMadeFrom_11 : decode cX4_isMadeFrom 11 = .ok (.istore 4, 2) := by decide +kernel
theorem dX4_isMadeFrom_13 : decode cX4_isMadeFrom 13 = .ok (.iload_n 3, 1) := by decide +kernel
theorem dX4_isMadeFrom_14 : decode cX4_isMadeFrom 14 = .ok (.bipush 12, 2) := by decide +kernel
theorem dX4_isMadeFrom_16 : decode cX4_isMadeFrom 16 = .ok (.idiv, 1) := by decide +kernel
theorem dX4_isMadeFrom_17 : decode cX4_isMadeFrom 17 = .ok (.aload_n 0, 1) := by decide +kernel
theorem dX4_isMadeFrom_18 : decode cX4_isMadeFrom 18 = .ok (.iconst 0, 1) := by decide +kernel
theorem dX4_isMadeFrom_19 : decode cX4_isMadeFrom 19 = .ok (.iload_n 2, 1) := by decide +kernel
theorem dX4_isMadeFrom_20 : decode cX4_isMadeFrom 20 = .ok (.invokevirtual 60, 3) := by decide +kernel
theorem dX4_isMadeFrom_23 : decode cX4_isMadeFrom 23 = .ok (.isub, 1) := by decide +kernel
theorem dX4_isMadeFrom_24 : decode cX4_isMadeFrom 24 = .ok (.istore 5, 2) := by decide +kernel
theorem dX4_isMadeFrom_26 : decode cX4_isMadeFrom 26 = .ok (.iconst 0, 1) := by decide +kernel
theorem dX4_isMadeFrom_27 : decode cX4_isMadeFrom 27 = .ok (.istore 6, 2) := by decide +kernel
theorem dX4_isMadeFrom_29 : decode cX4_isMadeFrom 29 = .ok (.iload 6, 2) := by decide +kernel
theorem dX4_isMadeFrom_31 : decode cX4_isMadeFrom 31 = .ok (.aload_n 0, 1) := by decide +kernel
theorem dX4_isMadeFrom_32 : decode cX4_isMadeFrom 32 = .ok (.getfield 18, 3) := by decide +kernel
theorem dX4_isMadeFrom_35 : decode cX4_isMadeFrom 35 = .ok (.if_icmp .ge 51, 3) := by decide +kernel
theorem dX4_isMadeFrom_38 : decode cX4_isMadeFrom 38 = .ok (.iload 4, 2) := by decide +kernel
theorem dX4_isMadeFrom_40 : decode cX4_isMadeFrom 40 = .ok (.aload_n 0, 1) := by decide +kernel
theorem dX4_isMadeFrom_41 : decode cX4_isMadeFrom 41 = .ok (.iload 6, 2) := by decide +kernel
theorem dX4_isMadeFrom_43 : decode cX4_isMadeFrom 43 = .ok (.iload_n 2, 1) := by decide +kernel
theorem dX4_isMadeFrom_44 : decode cX4_isMadeFrom 44 = .ok (.invokevirtual 56, 3) := by decide +kernel
theorem dX4_isMadeFrom_47 : decode cX4_isMadeFrom 47 = .ok (.iadd, 1) := by decide +kernel
theorem dX4_isMadeFrom_48 : decode cX4_isMadeFrom 48 = .ok (.iload 5, 2) := by decide +kernel
theorem dX4_isMadeFrom_50 : decode cX4_isMadeFrom 50 = .ok (.aload_n 0, 1) := by decide +kernel
theorem dX4_isMadeFrom_51 : decode cX4_isMadeFrom 51 = .ok (.iload 6, 2) := by decide +kernel
theorem dX4_isMadeFrom_53 : decode cX4_isMadeFrom 53 = .ok (.iload_n 2, 1) := by decide +kernel
theorem dX4_isMadeFrom_54 : decode cX4_isMadeFrom 54 = .ok (.invokevirtual 60, 3) := by decide +kernel
theorem dX4_isMadeFrom_57 : decode cX4_isMadeFrom 57 = .ok (.iadd, 1) := by decide +kernel
theorem dX4_isMadeFrom_58 : decode cX4_isMadeFrom 58 = .ok (.invokestatic 63, 3) := by decide +kernel
theorem dX4_isMadeFrom_61 : decode cX4_isMadeFrom 61 = .ok (.istore 7, 2) := by decide +kernel
theorem dX4_isMadeFrom_63 : decode cX4_isMadeFrom 63 = .ok (.iload 7, 2) := by decide +kernel
theorem dX4_isMadeFrom_65 : decode cX4_isMadeFrom 65 = .ok (.ifCond .lt 13, 3) := by decide +kernel
theorem dX4_isMadeFrom_68 : decode cX4_isMadeFrom 68 = .ok (.aload_n 1, 1) := by decide +kernel
theorem dX4_isMadeFrom_69 : decode cX4_isMadeFrom 69 = .ok (.getfield 66, 3) := by decide +kernel
theorem dX4_isMadeFrom_72 : decode cX4_isMadeFrom 72 = .ok (.iload 7, 2) := by decide +kernel
theorem dX4_isMadeFrom_74 : decode cX4_isMadeFrom 74 = .ok (.iaload, 1) := by decide +kernel
theorem dX4_isMadeFrom_75 : decode cX4_isMadeFrom 75 = .ok (.ifCond .ge 5, 3) := by decide +kernel
theorem dX4_isMadeFrom_78 : decode cX4_isMadeFrom 78 = .ok (.iconst 0, 1) := by decide +kernel
theorem dX4_isMadeFrom_79 : decode cX4_isMadeFrom 79 = .ok (.ireturn, 1) := by decide +kernel
theorem dX4_isMadeFrom_80 : decode cX4_isMadeFrom 80 = .ok (.iinc 6 1, 3) := by decide +kernel
theorem dX4_isMadeFrom_83 : decode cX4_isMadeFrom 83 = .ok (.goto (-54), 3) := by decide +kernel
theorem dX4_isMadeFrom_86 : decode cX4_isMadeFrom 86 = .ok (.iconst 1, 1) := by decide +kernel
theorem dX4_isMadeFrom_87 : decode cX4_isMadeFrom 87 = .ok (.ireturn, 1) := by decide +kernel
theorem dX4_mirroredColumn_0 : decode cX4_mirroredColumn 0 = .ok (.iload_n 2, 1) := by decide +kernel
theorem dX4_mirroredColumn_1 : decode cX4_mirroredColumn 1 = .ok (.iconst 4, 1) := by decide +kernel
theorem dX4_mirroredColumn_2 : decode cX4_mirroredColumn 2 = .ok (.if_icmp .lt 13, 3) := by decide +kernel
theorem dX4_mirroredColumn_5 : decode cX4_mirroredColumn 5 = .ok (.aload_n 0, 1) := by decide +kernel
theorem dX4_mirroredColumn_6 : decode cX4_mirroredColumn 6 = .ok (.getfield 9, 3) := by decide +kernel
theorem dX4_mirroredColumn_9 : decode cX4_mirroredColumn 9 = .ok (.iload_n 1, 1) := by decide +kernel
theorem dX4_mirroredColumn_10 : decode cX4_mirroredColumn 10 = .ok (.iaload, 1) := by decide +kernel
theorem dX4_mirroredColumn_11 : decode cX4_mirroredColumn 11 = .ok (.ineg, 1) := by decide +kernel
theorem dX4_mirroredColumn_12 : decode cX4_mirroredColumn 12 = .ok (.goto 9, 3) := by decide +kernel
theorem dX4_mirroredColumn_15 : decode cX4_mirroredColumn 15 = .ok (.aload_n 0, 1) := by decide +kernel
theorem dX4_mirroredColumn_16 : decode cX4_mirroredColumn 16 = .ok (.getfield 9, 3) := by decide +kernel
theorem dX4_mirroredColumn_19 : decode cX4_mirroredColumn 19 = .ok (.iload_n 1, 1) := by decide +kernel
theorem dX4_mirroredColumn_20 : decode cX4_mirroredColumn 20 = .ok (.iaload, 1) := by decide +kernel
theorem dX4_mirroredColumn_21 : decode cX4_mirroredColumn 21 = .ok (.ireturn, 1) := by decide +kernel
theorem dX4_turnedColumn_0 : decode cX4_turnedColumn 0 = .ok (.iload_n 2, 1) := by decide +kernel
theorem dX4_turnedColumn_1 : decode cX4_turnedColumn 1 = .ok (.iconst 4, 1) := by decide +kernel
theorem dX4_turnedColumn_2 : decode cX4_turnedColumn 2 = .ok (.irem, 1) := by decide +kernel
theorem dX4_turnedColumn_3 : decode cX4_turnedColumn 3 = .ok (.tableswitch 48 0 2 #[25, 32, 40], 25) := by decide +kernel
theorem dX4_turnedColumn_28 : decode cX4_turnedColumn 28 = .ok (.aload_n 0, 1) := by decide +kernel
theorem dX4_turnedColumn_29 : decode cX4_turnedColumn 29 = .ok (.iload_n 1, 1) := by decide +kernel
theorem dX4_turnedColumn_30 : decode cX4_turnedColumn 30 = .ok (.iload_n 2, 1) := by decide +kernel
theorem dX4_turnedColumn_31 : decode cX4_turnedColumn 31 = .ok (.invokevirtual 69, 3) := by decide +kernel
theorem dX4_turnedColumn_34 : decode cX4_turnedColumn 34 = .ok (.ireturn, 1) := by decide +kernel
theorem dX4_turnedColumn_35 : decode cX4_turnedColumn 35 = .ok (.aload_n 0, 1) := by decide +kernel
theorem dX4_turnedColumn_36 : decode cX4_turnedColumn 36 = .ok (.getfield 15, 3) := by decide +kernel
theorem dX4_turnedColumn_39 : decode cX4_turnedColumn 39 = .ok (.iload_n 1, 1) := by decide +kernel
theorem dX4_turnedColumn_40 : decode cX4_turnedColumn 40 = .ok (.iaload, 1) := by decide +kernel
theorem dX4_turnedColumn_41 : decode cX4_turnedColumn 41 = .ok (.ineg, 1) := by decide +kernel
theorem dX4_turnedColumn_42 : decode cX4_turnedColumn 42 = .ok (.ireturn, 1) := by decide +kernel
theorem dX4_turnedColumn_43 : decode cX4_turnedColumn 43 = .ok (.aload_n 0, 1) := by decide +kernel
theorem dX4_turnedColumn_44 : decode cX4_turnedColumn 44 = .ok (.iload_n 1, 1) := by decide +kernel
theorem dX4_turnedColumn_45 : decode cX4_turnedColumn 45 = .ok (.iload_n 2, 1) := by decide +kernel
theorem dX4_turnedColumn_46 : decode cX4_turnedColumn 46 = .ok (.invokevirtual 69, 3) := by decide +kernel
theorem dX4_turnedColumn_49 : decode cX4_turnedColumn 49 = .ok (.ineg, 1) := by decide +kernel
theorem dX4_turnedColumn_50 : decode cX4_turnedColumn 50 = .ok (.ireturn, 1) := by decide +kernel
theorem dX4_turnedColumn_51 : decode cX4_turnedColumn 51 = .ok (.aload_n 0, 1) := by decide +kernel
theorem dX4_turnedColumn_52 : decode cX4_turnedColumn 52 = .ok (.getfield 15, 3) := by decide +kernel
theorem dX4_turnedColumn_55 : decode cX4_turnedColumn 55 = .ok (.iload_n 1, 1) := by decide +kernel
theorem dX4_turnedColumn_56 : decode cX4_turnedColumn 56 = .ok (.iaload, 1) := by decide +kernel
theorem dX4_turnedColumn_57 : decode cX4_turnedColumn 57 = .ok (.ireturn, 1) := by decide +kernel
theorem dX4_turnedRow_0 : decode cX4_turnedRow 0 = .ok (.iload_n 2, 1) := by decide +kernel
theorem dX4_turnedRow_1 : decode cX4_turnedRow 1 = .ok (.iconst 4, 1) := by decide +kernel
theorem dX4_turnedRow_2 : decode cX4_turnedRow 2 = .ok (.irem, 1) := by decide +kernel
theorem dX4_turnedRow_3 : decode cX4_turnedRow 3 = .ok (.tableswitch 47 0 2 #[25, 32, 39], 25) := by decide +kernel
theorem dX4_turnedRow_28 : decode cX4_turnedRow 28 = .ok (.aload_n 0, 1) := by decide +kernel
theorem dX4_turnedRow_29 : decode cX4_turnedRow 29 = .ok (.getfield 15, 3) := by decide +kernel
theorem dX4_turnedRow_32 : decode cX4_turnedRow 32 = .ok (.iload_n 1, 1) := by decide +kernel
theorem dX4_turnedRow_33 : decode cX4_turnedRow 33 = .ok (.iaload, 1) := by decide +kernel
theorem dX4_turnedRow_34 : decode cX4_turnedRow 34 = .ok (.ireturn, 1) := by decide +kernel
theorem dX4_turnedRow_35 : decode cX4_turnedRow 35 = .ok (.aload_n 0, 1) := by decide +kernel
theorem dX4_turnedRow_36 : decode cX4_turnedRow 36 = .ok (.iload_n 1, 1) := by decide +kernel
theorem dX4_turnedRow_37 : decode cX4_turnedRow 37 = .ok (.iload_n 2, 1) := by decide +kernel
theorem dX4_turnedRow_38 : decode cX4_turnedRow 38 = .ok (.invokevirtual 69, 3) := by decide +kernel
theorem dX4_turnedRow_41 : decode cX4_turnedRow 41 = .ok (.ireturn, 1) := by decide +kernel
theorem dX4_turnedRow_42 : decode cX4_turnedRow 42 = .ok (.aload_n 0, 1) := by decide +kernel
theorem dX4_turnedRow_43 : decode cX4_turnedRow 43 = .ok (.getfield 15, 3) := by decide +kernel
theorem dX4_turnedRow_46 : decode cX4_turnedRow 46 = .ok (.iload_n 1, 1) := by decide +kernel
theorem dX4_turnedRow_47 : decode cX4_turnedRow 47 = .ok (.iaload, 1) := by decide +kernel
theorem dX4_turnedRow_48 : decode cX4_turnedRow 48 = .ok (.ineg, 1) := by decide +kernel
theorem dX4_turnedRow_49 : decode cX4_turnedRow 49 = .ok (.ireturn, 1) := by decide +kernel
theorem dX4_turnedRow_50 : decode cX4_turnedRow 50 = .ok (.aload_n 0, 1) := by decide +kernel
theorem dX4_turnedRow_51 : decode cX4_turnedRow 51 = .ok (.iload_n 1, 1) := by decide +kernel
theorem dX4_turnedRow_52 : decode cX4_turnedRow 52 = .ok (.iload_n 2, 1) := by decide +kernel
theorem dX4_turnedRow_53 : decode cX4_turnedRow 53 = .ok (.invokevirtual 69, 3) := by decide +kernel
theorem dX4_turnedRow_56 : decode cX4_turnedRow 56 = .ok (.ineg, 1) := by decide +kernel
theorem dX4_turnedRow_57 : decode cX4_turnedRow 57 = .ok (.ireturn, 1) := by decide +kernel
theorem dX5_init_0 : decode cX5_init 0 = .ok (.aload_n 0, 1) := by decide +kernel
theorem dX5_init_1 : decode cX5_init 1 = .ok (.invokespecial 3, 3) := by decide +kernel
theorem dX5_init_4 : decode cX5_init 4 = .ok (.aload_n 0, 1) := by decide +kernel
theorem dX5_init_5 : decode cX5_init 5 = .ok (.new 9, 3) := by decide +kernel
theorem dX5_init_8 : decode cX5_init 8 = .ok (.dup, 1) := by decide +kernel
theorem dX5_init_9 : decode cX5_init 9 = .ok (.invokespecial 11, 3) := by decide +kernel
theorem dX5_init_12 : decode cX5_init 12 = .ok (.putfield 12, 3) := by decide +kernel
theorem dX5_init_15 : decode cX5_init 15 = .ok (.aload_n 0, 1) := by decide +kernel
theorem dX5_init_16 : decode cX5_init 16 = .ok (.iconst 0, 1) := by decide +kernel
theorem dX5_init_17 : decode cX5_init 17 = .ok (.putfield 18, 3) := by decide +kernel
theorem dX5_init_20 : decode cX5_init 20 = .ok (.aload_n 0, 1) := by decide +kernel
theorem dX5_init_21 : decode cX5_init 21 = .ok (.iconst 0, 1) := by decide +kernel
theorem dX5_init_22 : decode cX5_init 22 = .ok (.putfield 22, 3) := by decide +kernel
theorem dX5_init_25 : decode cX5_init 25 = .ok (.return_, 1) := by decide +kernel
theorem dX5_read_0 : decode cX5_read 0 = .ok (.aload_n 0, 1) := by decide +kernel
theorem dX5_read_1 : decode cX5_read 1 = .ok (.getfield 12, 3) := by decide +kernel
theorem dX5_read_4 : decode cX5_read 4 = .ok (.invokevirtual 25, 3) := by decide +kernel
theorem dX5_read_7 : decode cX5_read 7 = .ok (.aload_n 0, 1) := by decide +kernel
theorem dX5_read_8 : decode cX5_read 8 = .ok (.iconst 0, 1) := by decide +kernel
theorem dX5_read_9 : decode cX5_read 9 = .ok (.putfield 18, 3) := by decide +kernel
theorem dX5_read_12 : decode cX5_read 12 = .ok (.aload_n 0, 1) := by decide +kernel
theorem dX5_read_13 : decode cX5_read 13 = .ok (.iconst 0, 1) := by decide +kernel
theorem dX5_read_14 : decode cX5_read 14 = .ok (.putfield 22, 3) := by decide +kernel
theorem dX5_read_17 : decode cX5_read 17 = .ok (.iconst 0, 1) := by decide +kernel
theorem dX5_read_18 : decode cX5_read 18 = .ok (.istore_n 2, 1) := by decide +kernel
theorem dX5_read_19 : decode cX5_read 19 = .ok (.iload_n 2, 1) := by decide +kernel
theorem dX5_read_20 : decode cX5_read 20 = .ok (.aload_n 1, 1) := by decide +kernel
theorem dX5_read_21 : decode cX5_read 21 = .ok (.getfield 28, 3) := by decide +kernel
theorem dX5_read_24 : decode cX5_read 24 = .ok (.if_icmp .ge 23, 3) := by decide +kernel
theorem dX5_read_27 : decode cX5_read 27 = .ok (.aload_n 0, 1) := by decide +kernel
theorem dX5_read_28 : decode cX5_read 28 = .ok (.aload_n 1, 1) := by decide +kernel
theorem dX5_read_29 : decode cX5_read 29 = .ok (.iload_n 2, 1) := by decide +kernel
theorem dX5_read_30 : decode cX5_read 30 = .ok (.invokevirtual 33, 3) := by decide +kernel
theorem dX5_read_33 : decode cX5_read 33 = .ok (.invokevirtual 37, 3) := by decide +kernel
theorem dX5_read_36 : decode cX5_read 36 = .ok (.ifCond .ne 5, 3) := by decide +kernel
theorem dX5_read_39 : decode cX5_read 39 = .ok (.iload_n 2, 1) := by decide +kernel
theorem dX5_read_40 : decode cX5_read 40 = .ok (.ireturn, 1) := by decide +kernel
theorem dX5_read_41 : decode cX5_read 41 = .ok (.iinc 2 1, 3) := by decide +kernel
theorem dX5_read_44 : decode cX5_read 44 = .ok (.goto (-25), 3) := by decide +kernel
theorem dX5_read_47 : decode cX5_read 47 = .ok (.aload_n 0, 1) := by decide +kernel
theorem dX5_read_48 : decode cX5_read 48 = .ok (.getfield 12, 3) := by decide +kernel
theorem dX5_read_51 : decode cX5_read 51 = .ok (.getfield 41, 3) := by decide +kernel
theorem dX5_read_54 : decode cX5_read 54 = .ok (.ifCond .lt 10, 3) := by decide +kernel
theorem dX5_read_57 : decode cX5_read 57 = .ok (.aload_n 0, 1) := by decide +kernel
theorem dX5_read_58 : decode cX5_read 58 = .ok (.getfield 18, 3) := by decide +kernel
theorem dX5_read_61 : decode cX5_read 61 = .ok (.ifCond .ne 10, 3) := by decide +kernel
theorem dX5_read_64 : decode cX5_read 64 = .ok (.aload_n 1, 1) := by decide +kernel
theorem dX5_read_65 : decode cX5_read 65 = .ok (.getfield 28, 3) := by decide +kernel
theorem dX5_read_68 : decode cX5_read 68 = .ok (.goto 4, 3) := by decide +kernel
theorem dX5_read_71 : decode cX5_read 71 = .ok (.iconst (-1), 1) := by decide +kernel
theorem dX5_read_72 : decode cX5_read 72 = .ok (.ireturn, 1) := by decide +kernel
theorem dX5_takes_0 : decode cX5_takes 0 = .ok (.iload_n 1, 1) := by decide +kernel
theorem dX5_takes_1 : decode cX5_takes 1 = .ok (.bipush 47, 2) := by decide +kernel
theorem dX5_takes_3 : decode cX5_takes 3 = .ok (.if_icmp .ne 8, 3) := by decide +kernel
theorem dX5_takes_6 : decode cX5_takes 6 = .ok (.aload_n 0, 1) := by decide +kernel
theorem dX5_takes_7 : decode cX5_takes 7 = .ok (.invokevirtual 44, 3) := by decide +kernel
theorem dX5_takes_10 : decode cX5_takes 10 = .ok (.ireturn, 1) := by decide +kernel
theorem dX5_takes_11 : decode cX5_takes 11 = .ok (.aload_n 0, 1) := by decide +kernel
theorem dX5_takes_12 : decode cX5_takes 12 = .ok (.getfield 18, 3) := by decide +kernel
theorem dX5_takes_15 : decode cX5_takes 15 = .ok (.bipush 6, 2) := by decide +kernel
theorem dX5_takes_17 : decode cX5_takes 17 = .ok (.if_icmp .ge 11, 3) := by decide +kernel
theorem dX5_takes_20 : decode cX5_takes 20 = .ok (.aload_n 0, 1) := by decide +kernel
theorem dX5_takes_21 : decode cX5_takes 21 = .ok (.iload_n 1, 1) := by decide +kernel
theorem dX5_takes_22 : decode cX5_takes 22 = .ok (.invokevirtual 48, 3) := by decide +kernel
theorem dX5_takes_25 : decode cX5_takes 25 = .ok (.ifCond .ne 5, 3) := by decide +kernel
theorem dX5_takes_28 : decode cX5_takes 28 = .ok (.iconst 0, 1) := by decide +kernel
theorem dX5_takes_29 : decode cX5_takes 29 = .ok (.ireturn, 1) := by decide +kernel
theorem dX5_takes_30 : decode cX5_takes 30 = .ok (.aload_n 0, 1) := by decide +kernel
theorem dX5_takes_31 : decode cX5_takes 31 = .ok (.dup, 1) := by decide +kernel
theorem dX5_takes_32 : decode cX5_takes 32 = .ok (.getfield 18, 3) := by decide +kernel
theorem dX5_takes_35 : decode cX5_takes 35 = .ok (.iconst 1, 1) := by decide +kernel
theorem dX5_takes_36 : decode cX5_takes 36 = .ok (.iadd, 1) := by decide +kernel
theorem dX5_takes_37 : decode cX5_takes 37 = .ok (.putfield 18, 3) := by decide +kernel
theorem dX5_takes_40 : decode cX5_takes 40 = .ok (.iconst 1, 1) := by decide +kernel
theorem dX5_takes_41 : decode cX5_takes 41 = .ok (.ireturn, 1) := by decide +kernel
theorem dX5_takesRowEnd_0 : decode cX5_takesRowEnd 0 = .ok (.aload_n 0, 1) := by decide +kernel
theorem dX5_takesRowEnd_1 : decode cX5_takesRowEnd 1 = .ok (.getfield 18, 3) := by decide +kernel
theorem dX5_takesRowEnd_4 : decode cX5_takesRowEnd 4 = .ok (.ifCond .eq 14, 3) := by decide +kernel
theorem dX5_takesRowEnd_7 : decode cX5_takesRowEnd 7 = .ok (.aload_n 0, 1) := by decide +kernel
theorem dX5_takesRowEnd_8 : decode cX5_takesRowEnd 8 = .ok (.getfield 22, 3) := by decide +kernel
theorem dX5_takesRowEnd_11 : decode cX5_takesRowEnd 11 = .ok (.iconst 1, 1) := by decide +kernel
theorem dX5_takesRowEnd_12 : decode cX5_takesRowEnd 12 = .ok (.iadd, 1) := by decide +kernel
theorem dX5_takesRowEnd_13 : decode cX5_takesRowEnd 13 = .ok (.bipush 6, 2) := by decide +kernel
theorem dX5_takesRowEnd_15 : decode cX5_takesRowEnd 15 = .ok (.if_icmp .lt 5, 3) := by decide +kernel
theorem dX5_takesRowEnd_18 : decode cX5_takesRowEnd 18 = .ok (.iconst 0, 1) := by decide +kernel
theorem dX5_takesRowEnd_19 : decode cX5_takesRowEnd 19 = .ok (.ireturn, 1) := by decide +kernel
theorem dX5_takesRowEnd_20 : decode cX5_takesRowEnd 20 = .ok (.aload_n 0, 1) := by decide +kernel
theorem dX5_takesRowEnd_21 : decode cX5_takesRowEnd 21 = .ok (.dup, 1) := by decide +kernel
theorem dX5_takesRowEnd_22 : decode cX5_takesRowEnd 22 = .ok (.getfield 22, 3) := by decide +kernel
theorem dX5_takesRowEnd_25 : decode cX5_takesRowEnd 25 = .ok (.iconst 1, 1) := by decide +kernel
theorem dX5_takesRowEnd_26 : decode cX5_takesRowEnd 26 = .ok (.iadd, 1) := by decide +kernel
theorem dX5_takesRowEnd_27 : decode cX5_takesRowEnd 27 = .ok (.putfield 22, 3) := by decide +kernel
theorem dX5_takesRowEnd_30 : decode cX5_takesRowEnd 30 = .ok (.aload_n 0, 1) := by decide +kernel
theorem dX5_takesRowEnd_31 : decode cX5_takesRowEnd 31 = .ok (.iconst 0, 1) := by decide +kernel
theorem dX5_takesRowEnd_32 : decode cX5_takesRowEnd 32 = .ok (.putfield 18, 3) := by decide +kernel
theorem dX5_takesRowEnd_35 : decode cX5_takesRowEnd 35 = .ok (.iconst 1, 1) := by decide +kernel
theorem dX5_takesRowEnd_36 : decode cX5_takesRowEnd 36 = .ok (.ireturn, 1) := by decide +kernel
theorem dX5_takesSlot_0 : decode cX5_takesSlot 0 = .ok (.iload_n 1, 1) := by decide +kernel
theorem dX5_takesSlot_1 : decode cX5_takesSlot 1 = .ok (.lookupswitch 69 #[(35, 37), (42, 53), (46, 35)], 35) := by decide +kernel
theorem dX5_takesSlot_36 : decode cX5_takesSlot 36 = .ok (.iconst 1, 1) := by decide +kernel
theorem dX5_takesSlot_37 : decode cX5_takesSlot 37 = .ok (.ireturn, 1) := by decide +kernel
theorem dX5_takesSlot_38 : decode cX5_takesSlot 38 = .ok (.aload_n 0, 1) := by decide +kernel
theorem dX5_takesSlot_39 : decode cX5_takesSlot 39 = .ok (.getfield 12, 3) := by decide +kernel
theorem dX5_takesSlot_42 : decode cX5_takesSlot 42 = .ok (.aload_n 0, 1) := by decide +kernel
theorem dX5_takesSlot_43 : decode cX5_takesSlot 43 = .ok (.getfield 18, 3) := by decide +kernel
theorem dX5_takesSlot_46 : decode cX5_takesSlot 46 = .ok (.aload_n 0, 1) := by decide +kernel
theorem dX5_takesSlot_47 : decode cX5_takesSlot 47 = .ok (.getfield 22, 3) := by decide +kernel
theorem dX5_takesSlot_50 : decode cX5_takesSlot 50 = .ok (.invokevirtual 51, 3) := by decide +kernel
theorem dX5_takesSlot_53 : decode cX5_takesSlot 53 = .ok (.ireturn, 1) := by decide +kernel
theorem dX5_takesSlot_54 : decode cX5_takesSlot 54 = .ok (.aload_n 0, 1) := by decide +kernel
theorem dX5_takesSlot_55 : decode cX5_takesSlot 55 = .ok (.getfield 12, 3) := by decide +kernel
theorem dX5_takesSlot_58 : decode cX5_takesSlot 58 = .ok (.aload_n 0, 1) := by decide +kernel
theorem dX5_takesSlot_59 : decode cX5_takesSlot 59 = .ok (.getfield 18, 3) := by decide +kernel
theorem dX5_takesSlot_62 : decode cX5_takesSlot 62 = .ok (.aload_n 0, 1) := by decide +kernel
theorem dX5_takesSlot_63 : decode cX5_takesSlot 63 = .ok (.getfield 22, 3) := by decide +kernel
theorem dX5_takesSlot_66 : decode cX5_takesSlot 66 = .ok (.invokevirtual 55, 3) := by decide +kernel
theorem dX5_takesSlot_69 : decode cX5_takesSlot 69 = .ok (.ireturn, 1) := by decide +kernel
theorem dX5_takesSlot_70 : decode cX5_takesSlot 70 = .ok (.iconst 0, 1) := by decide +kernel
theorem dX5_takesSlot_71 : decode cX5_takesSlot 71 = .ok (.ireturn, 1) := by decide +kernel
theorem dX6_init_0 : decode cX6_init 0 = .ok (.aload_n 0, 1) := by decide +kernel
theorem dX6_init_1 : decode cX6_init 1 = .ok (.invokespecial 3, 3) := by decide +kernel
theorem dX6_init_4 : decode cX6_init 4 = .ok (.aload_n 0, 1) := by decide +kernel
theorem dX6_init_5 : decode cX6_init 5 = .ok (.iconst 0, 1) := by decide +kernel
theorem dX6_init_6 : decode cX6_init 6 = .ok (.putfield 9, 3) := by decide +kernel
theorem dX6_init_9 : decode cX6_init 9 = .ok (.aload_n 0, 1) := by decide +kernel
theorem dX6_init_10 : decode cX6_init 10 = .ok (.bipush 60, 2) := by decide +kernel
theorem dX6_init_12 : decode cX6_init 12 = .ok (.newarray .int, 2) := by decide +kernel
theorem dX6_init_14 : decode cX6_init 14 = .ok (.putfield 15, 3) := by decide +kernel
theorem dX6_init_17 : decode cX6_init 17 = .ok (.return_, 1) := by decide +kernel
theorem dX6_append_0 : decode cX6_append 0 = .ok (.aload_n 0, 1) := by decide +kernel
theorem dX6_append_1 : decode cX6_append 1 = .ok (.getfield 9, 3) := by decide +kernel
theorem dX6_append_4 : decode cX6_append 4 = .ok (.bipush 60, 2) := by decide +kernel
theorem dX6_append_6 : decode cX6_append 6 = .ok (.if_icmp .ge 23, 3) := by decide +kernel
theorem dX6_append_9 : decode cX6_append 9 = .ok (.aload_n 0, 1) := by decide +kernel
theorem dX6_append_10 : decode cX6_append 10 = .ok (.getfield 15, 3) := by decide +kernel
theorem dX6_append_13 : decode cX6_append 13 = .ok (.aload_n 0, 1) := by decide +kernel
theorem dX6_append_14 : decode cX6_append 14 = .ok (.getfield 9, 3) := by decide +kernel
theorem dX6_append_17 : decode cX6_append 17 = .ok (.iload_n 1, 1) := by decide +kernel
theorem dX6_append_18 : decode cX6_append 18 = .ok (.iastore, 1) := by decide +kernel
theorem dX6_append_19 : decode cX6_append 19 = .ok (.aload_n 0, 1) := by decide +kernel
theorem dX6_append_20 : decode cX6_append 20 = .ok (.dup, 1) := by decide +kernel
theorem dX6_append_21 : decode cX6_append 21 = .ok (.getfield 9, 3) := by decide +kernel
theorem dX6_append_24 : decode cX6_append 24 = .ok (.iconst 1, 1) := by decide +kernel
theorem dX6_append_25 : decode cX6_append 25 = .ok (.iadd, 1) := by decide +kernel
theorem dX6_append_26 : decode cX6_append 26 = .ok (.putfield 9, 3) := by decide +kernel
theorem dX6_append_29 : decode cX6_append 29 = .ok (.return_, 1) := by decide +kernel
theorem dX6_empty_0 : decode cX6_empty 0 = .ok (.aload_n 0, 1) := by decide +kernel
theorem dX6_empty_1 : decode cX6_empty 1 = .ok (.iconst 0, 1) := by decide +kernel
theorem dX6_empty_2 : decode cX6_empty 2 = .ok (.putfield 9, 3) := by decide +kernel
theorem dX6_empty_5 : decode cX6_empty 5 = .ok (.return_, 1) := by decide +kernel
theorem dX6_at_0 : decode cX6_at 0 = .ok (.iload_n 1, 1) := by decide +kernel
theorem dX6_at_1 : decode cX6_at 1 = .ok (.ifCond .lt 20, 3) := by decide +kernel
theorem dX6_at_4 : decode cX6_at 4 = .ok (.iload_n 1, 1) := by decide +kernel
theorem dX6_at_5 : decode cX6_at 5 = .ok (.aload_n 0, 1) := by decide +kernel
theorem dX6_at_6 : decode cX6_at 6 = .ok (.getfield 9, 3) := by decide +kernel
theorem dX6_at_9 : decode cX6_at 9 = .ok (.if_icmp .ge 12, 3) := by decide +kernel
theorem dX6_at_12 : decode cX6_at 12 = .ok (.aload_n 0, 1) := by decide +kernel
theorem dX6_at_13 : decode cX6_at 13 = .ok (.getfield 15, 3) := by decide +kernel
theorem dX6_at_16 : decode cX6_at 16 = .ok (.iload_n 1, 1) := by decide +kernel
theorem dX6_at_17 : decode cX6_at 17 = .ok (.iaload, 1) := by decide +kernel
theorem dX6_at_18 : decode cX6_at 18 = .ok (.goto 5, 3) := by decide +kernel
theorem dX6_at_21 : decode cX6_at 21 = .ok (.bipush (-5), 2) := by decide +kernel
theorem dX6_at_23 : decode cX6_at 23 = .ok (.ireturn, 1) := by decide +kernel
theorem dX7_init_0 : decode cX7_init 0 = .ok (.aload_n 0, 1) := by decide +kernel
theorem dX7_init_1 : decode cX7_init 1 = .ok (.invokespecial 3, 3) := by decide +kernel
theorem dX7_init_4 : decode cX7_init 4 = .ok (.aload_n 0, 1) := by decide +kernel
theorem dX7_init_5 : decode cX7_init 5 = .ok (.bipush 10, 2) := by decide +kernel
theorem dX7_init_7 : decode cX7_init 7 = .ok (.newarray .int, 2) := by decide +kernel
theorem dX7_init_9 : decode cX7_init 9 = .ok (.putfield 9, 3) := by decide +kernel
theorem dX7_init_12 : decode cX7_init 12 = .ok (.aload_n 0, 1) := by decide +kernel
theorem dX7_init_13 : decode cX7_init 13 = .ok (.bipush 10, 2) := by decide +kernel
theorem dX7_init_15 : decode cX7_init 15 = .ok (.newarray .int, 2) := by decide +kernel
theorem dX7_init_17 : decode cX7_init 17 = .ok (.putfield 15, 3) := by decide +kernel
theorem dX7_init_20 : decode cX7_init 20 = .ok (.aload_n 0, 1) := by decide +kernel
theorem dX7_init_21 : decode cX7_init 21 = .ok (.iconst 0, 1) := by decide +kernel
theorem dX7_init_22 : decode cX7_init 22 = .ok (.putfield 18, 3) := by decide +kernel
theorem dX7_init_25 : decode cX7_init 25 = .ok (.aload_n 0, 1) := by decide +kernel
theorem dX7_init_26 : decode cX7_init 26 = .ok (.aload_n 1, 1) := by decide +kernel
theorem dX7_init_27 : decode cX7_init 27 = .ok (.putfield 22, 3) := by decide +kernel
theorem dX7_init_30 : decode cX7_init 30 = .ok (.aload_n 0, 1) := by decide +kernel
theorem dX7_init_31 : decode cX7_init 31 = .ok (.aload_n 2, 1) := by decide +kernel
theorem dX7_init_32 : decode cX7_init 32 = .ok (.putfield 26, 3) := by decide +kernel
theorem dX7_init_35 : decode cX7_init 35 = .ok (.aload_n 0, 1) := by decide +kernel
theorem dX7_init_36 : decode cX7_init 36 = .ok (.aload_n 3, 1) := by decide +kernel
theorem dX7_init_37 : decode cX7_init 37 = .ok (.putfield 30, 3) := by decide +kernel
theorem dX7_init_40 : decode cX7_init 40 = .ok (.return_, 1) := by decide +kernel
theorem dX7_makeRound_0 : decode cX7_makeRound 0 = .ok (.aload_n 0, 1) := by decide +kernel
theorem dX7_makeRound_1 : decode cX7_makeRound 1 = .ok (.getfield 22, 3) := by decide +kernel
theorem dX7_makeRound_4 : decode cX7_makeRound 4 = .ok (.invokevirtual 34, 3) := by decide +kernel
theorem dX7_makeRound_7 : decode cX7_makeRound 7 = .ok (.istore_n 1, 1) := by decide +kernel
theorem dX7_makeRound_8 : decode cX7_makeRound 8 = .ok (.iload_n 1, 1) := by decide +kernel
theorem dX7_makeRound_9 : decode cX7_makeRound 9 = .ok (.ifCond .ge 4, 3) := by decide +kernel
theorem dX7_makeRound_12 : decode cX7_makeRound 12 = .ok (.return_, 1) := by decide +kernel
theorem dX7_makeRound_13 : decode cX7_makeRound 13 = .ok (.aload_n 0, 1) := by decide +kernel
theorem dX7_makeRound_14 : decode cX7_makeRound 14 = .ok (.iload_n 1, 1) := by decide +kernel
theorem dX7_makeRound_15 : decode cX7_makeRound 15 = .ok (.invokevirtual 40, 3) := by decide +kernel
theorem dX7_makeRound_18 : decode cX7_makeRound 18 = .ok (.aload_n 0, 1) := by decide +kernel
theorem dX7_makeRound_19 : decode cX7_makeRound 19 = .ok (.getfield 30, 3) := by decide +kernel
theorem dX7_makeRound_22 : decode cX7_makeRound 22 = .ok (.invokevirtual 44, 3) := by decide +kernel
theorem dX7_makeRound_25 : decode cX7_makeRound 25 = .ok (.aload_n 0, 1) := by decide +kernel
theorem dX7_makeRound_26 : decode cX7_makeRound 26 = .ok (.iload_n 1, 1) := by decide +kernel
theorem dX7_makeRound_27 : decode cX7_makeRound 27 = .ok (.invokevirtual 49, 3) := by decide +kernel
theorem dX7_makeRound_30 : decode cX7_makeRound 30 = .ok (.iconst 0, 1) := by decide +kernel
theorem dX7_makeRound_31 : decode cX7_makeRound 31 = .ok (.istore_n 2, 1) := by decide +kernel
theorem dX7_makeRound_32 : decode cX7_makeRound 32 = .ok (.iload_n 2, 1) := by decide +kernel
theorem dX7_makeRound_33 : decode cX7_makeRound 33 = .ok (.aload_n 0, 1) := by decide +kernel
theorem dX7_makeRound_34 : decode cX7_makeRound 34 = .ok (.getfield 18, 3) := by decide +kernel
theorem dX7_makeRound_37 : decode cX7_makeRound 37 = .ok (.if_icmp .ge 19, 3) := by decide +kernel
theorem dX7_makeRound_40 : decode cX7_makeRound 40 = .ok (.aload_n 0, 1) := by decide +kernel
theorem dX7_makeRound_41 : decode cX7_makeRound 41 = .ok (.aload_n 0, 1) := by decide +kernel
theorem dX7_makeRound_42 : decode cX7_makeRound 42 = .ok (.getfield 9, 3) := by decide +kernel
theorem dX7_makeRound_45 : decode cX7_makeRound 45 = .ok (.iload_n 2, 1) := by decide +kernel
theorem dX7_makeRound_46 : decode cX7_makeRound 46 = .ok (.iaload, 1) := by decide +kernel
theorem dX7_makeRound_47 : decode cX7_makeRound 47 = .ok (.invokevirtual 52, 3) := by decide +kernel
theorem dX7_makeRound_50 : decode cX7_makeRound 50 = .ok (.iinc 2 1, 3) := by decide +kernel
theorem dX7_makeRound_53 : decode cX7_makeRound 53 = .ok (.goto (-21), 3) := by decide +kernel
theorem dX7_makeRound_56 : decode cX7_makeRound 56 = .ok (.aload_n 0, 1) := by decide +kernel
theorem dX7_makeRound_57 : decode cX7_makeRound 57 = .ok (.invokevirtual 55, 3) := by decide +kernel
theorem dX7_makeRound_60 : decode cX7_makeRound 60 = .ok (.return_, 1) := by decide +kernel
theorem dX7_countRound_0 : decode cX7_countRound 0 = .ok (.aload_n 0, 1) := by decide +kernel
theorem dX7_countRound_1 : decode cX7_countRound 1 = .ok (.getfield 22, 3) := by decide +kernel
theorem dX7_countRound_4 : decode cX7_countRound 4 = .ok (.getfield 58, 3) := by decide +kernel
theorem dX7_countRound_7 : decode cX7_countRound 7 = .ok (.iconst 0, 1) := by decide +kernel
theorem dX7_countRound_8 : decode cX7_countRound 8 = .ok (.dup2, 1) := by decide +kernel
theorem dX7_countRound_9 : decode cX7_countRound 9 = .ok (.iaload, 1) := by decide +kernel
theorem dX7_countRound_10 : decode cX7_countRound 10 = .ok (.iconst 1, 1) := by decide +kernel
theorem dX7_countRound_11 : decode cX7_countRound 11 = .ok (.iadd, 1) := by decide +kernel
theorem dX7_countRound_12 : decode cX7_countRound 12 = .ok (.iastore, 1) := by decide +kernel
theorem dX7_countRound_13 : decode cX7_countRound 13 = .ok (.iconst 0, 1) := by decide +kernel
theorem dX7_countRound_14 : decode cX7_countRound 14 = .ok (.istore_n 1, 1) := by decide +kernel
theorem dX7_countRound_15 : decode cX7_countRound 15 = .ok (.iload_n 1, 1) := by decide +kernel
theorem dX7_countRound_16 : decode cX7_countRound 16 = .ok (.bipush 10, 2) := by decide +kernel
theorem dX7_countRound_18 : decode cX7_countRound 18 = .ok (.if_icmp .ge 33, 3) := by decide +kernel
theorem dX7_countRound_21 : decode cX7_countRound 21 = .ok (.aload_n 0, 1) := by decide +kernel
theorem dX7_countRound_22 : decode cX7_countRound 22 = .ok (.getfield 22, 3) := by decide +kernel
theorem dX7_countRound_25 : decode cX7_countRound 25 = .ok (.iload_n 1, 1) := by decide +kernel
theorem dX7_countRound_26 : decode cX7_countRound 26 = .ok (.invokevirtual 61, 3) := by decide +kernel
theorem dX7_countRound_29 : decode cX7_countRound 29 = .ok (.ifCond .eq 16, 3) := by decide +kernel
theorem dX7_countRound_32 : decode cX7_countRound 32 = .ok (.aload_n 0, 1) := by decide +kernel
theorem dX7_countRound_33 : decode cX7_countRound 33 = .ok (.getfield 22, 3) := by decide +kernel
theorem dX7_countRound_36 : decode cX7_countRound 36 = .ok (.getfield 65, 3) := by decide +kernel
theorem dX7_countRound_39 : decode cX7_countRound 39 = .ok (.iload_n 1, 1) := by decide +kernel
theorem dX7_countRound_40 : decode cX7_countRound 40 = .ok (.dup2, 1) := by decide +kernel
theorem dX7_countRound_41 : decode cX7_countRound 41 = .ok (.iaload, 1) := by decide +kernel
theorem dX7_countRound_42 : decode cX7_countRound 42 = .ok (.iconst 1, 1) := by decide +kernel
theorem dX7_countRound_43 : decode cX7_countRound 43 = .ok (.iadd, 1) := by decide +kernel
theorem dX7_countRound_44 : decode cX7_countRound 44 = .ok (.iastore, 1) := by decide +kernel
theorem dX7_countRound_45 : decode cX7_countRound 45 = .ok (.iinc 1 1, 3) := by decide +kernel
theorem dX7_countRound_48 : decode cX7_countRound 48 = .ok (.goto (-33), 3) := by decide +kernel
theorem dX7_countRound_51 : decode cX7_countRound 51 = .ok (.return_, 1) := by decide +kernel
theorem dX7_moveLeader_0 : decode cX7_moveLeader 0 = .ok (.aload_n 0, 1) := by decide +kernel
theorem dX7_moveLeader_1 : decode cX7_moveLeader 1 = .ok (.getfield 22, 3) := by decide +kernel
theorem dX7_moveLeader_4 : decode cX7_moveLeader 4 = .ok (.getfield 68, 3) := by decide +kernel
theorem dX7_moveLeader_7 : decode cX7_moveLeader 7 = .ok (.iload_n 1, 1) := by decide +kernel
theorem dX7_moveLeader_8 : decode cX7_moveLeader 8 = .ok (.iaload, 1) := by decide +kernel
theorem dX7_moveLeader_9 : decode cX7_moveLeader 9 = .ok (.istore_n 2, 1) := by decide +kernel
theorem dX7_moveLeader_10 : decode cX7_moveLeader 10 = .ok (.aload_n 0, 1) := by decide +kernel
theorem dX7_moveLeader_11 : decode cX7_moveLeader 11 = .ok (.getfield 22, 3) := by decide +kernel
theorem dX7_moveLeader_14 : decode cX7_moveLeader 14 = .ok (.getfield 71, 3) := by decide +kernel
theorem dX7_moveLeader_17 : decode cX7_moveLeader 17 = .ok (.ifCond .ge 15, 3) := by decide +kernel
theorem dX7_moveLeader_20 : decode cX7_moveLeader 20 = .ok (.aload_n 0, 1) := by decide +kernel
theorem dX7_moveLeader_21 : decode cX7_moveLeader 21 = .ok (.getfield 22, 3) := by decide +kernel
theorem dX7_moveLeader_24 : decode cX7_moveLeader 24 = .ok (.getfield 74, 3) := by decide +kernel
theorem dX7_moveLeader_27 : decode cX7_moveLeader 27 = .ok (.iload_n 1, 1) := by decide +kernel
theorem dX7_moveLeader_28 : decode cX7_moveLeader 28 = .ok (.bipush 6, 2) := by decide +kernel
theorem dX7_moveLeader_30 : decode cX7_moveLeader 30 = .ok (.iastore, 1) := by decide +kernel
theorem dX7_moveLeader_31 : decode cX7_moveLeader 31 = .ok (.return_, 1) := by decide +kernel
theorem dX7_moveLeader_32 : decode cX7_moveLeader 32 = .ok (.aload_n 0, 1) := by decide +kernel
theorem dX7_moveLeader_33 : decode cX7_moveLeader 33 = .ok (.getfield 22, 3) := by decide +kernel
theorem dX7_moveLeader_36 : decode cX7_moveLeader 36 = .ok (.getfield 71, 3) := by decide +kernel
theorem dX7_moveLeader_39 : decode cX7_moveLeader 39 = .ok (.iload_n 2, 1) := by decide +kernel
theorem dX7_moveLeader_40 : decode cX7_moveLeader 40 = .ok (.if_icmp .ne 15, 3) := by decide +kernel
theorem dX7_moveLeader_43 : decode cX7_moveLeader 43 = .ok (.aload_n 0, 1) := by decide +kernel
theorem dX7_moveLeader_44 : decode cX7_moveLeader 44 = .ok (.getfield 22, 3) := by decide +kernel
theorem dX7_moveLeader_47 : decode cX7_moveLeader 47 = .ok (.getfield 74, 3) := by decide +kernel
theorem dX7_moveLeader_50 : decode cX7_moveLeader 50 = .ok (.iload_n 1, 1) := by decide +kernel
theorem dX7_moveLeader_51 : decode cX7_moveLeader 51 = .ok (.bipush 7, 2) := by decide +kernel
theorem dX7_moveLeader_53 : decode cX7_moveLeader 53 = .ok (.iastore, 1) := by decide +kernel
theorem dX7_moveLeader_54 : decode cX7_moveLeader 54 = .ok (.return_, 1) := by decide +kernel
theorem dX7_moveLeader_55 : decode cX7_moveLeader 55 = .ok (.aload_n 0, 1) := by decide +kernel
theorem dX7_moveLeader_56 : decode cX7_moveLeader 56 = .ok (.getfield 26, 3) := by decide +kernel
theorem dX7_moveLeader_59 : decode cX7_moveLeader 59 = .ok (.aload_n 0, 1) := by decide +kernel
theorem dX7_moveLeader_60 : decode cX7_moveLeader 60 = .ok (.getfield 22, 3) := by decide +kernel
theorem dX7_moveLeader_63 : decode cX7_moveLeader 63 = .ok (.getfield 71, 3) := by decide +kernel
theorem dX7_moveLeader_66 : decode cX7_moveLeader 66 = .ok (.invokevirtual 77, 3) := by decide +kernel
theorem dX7_moveLeader_69 : decode cX7_moveLeader 69 = .ok (.astore_n 3, 1) := by decide +kernel
theorem dX7_moveLeader_70 : decode cX7_moveLeader 70 = .ok (.aload_n 3, 1) := by decide +kernel
theorem dX7_moveLeader_71 : decode cX7_moveLeader 71 = .ok (.iload_n 2, 1) := by decide +kernel
theorem dX7_moveLeader_72 : decode cX7_moveLeader 72 = .ok (.iaload, 1) := by decide +kernel
theorem dX7_moveLeader_73 : decode cX7_moveLeader 73 = .ok (.ifCond .ge 15, 3) := by decide +kernel
theorem dX7_moveLeader_76 : decode cX7_moveLeader 76 = .ok (.aload_n 0, 1) := by decide +kernel
theorem dX7_moveLeader_77 : decode cX7_moveLeader 77 = .ok (.getfield 22, 3) := by decide +kernel
theorem dX7_moveLeader_80 : decode cX7_moveLeader 80 = .ok (.getfield 74, 3) := by decide +kernel
theorem dX7_moveLeader_83 : decode cX7_moveLeader 83 = .ok (.iload_n 1, 1) := by decide +kernel
theorem dX7_moveLeader_84 : decode cX7_moveLeader 84 = .ok (.bipush 8, 2) := by decide +kernel
theorem dX7_moveLeader_86 : decode cX7_moveLeader 86 = .ok (.iastore, 1) := by decide +kernel
theorem dX7_moveLeader_87 : decode cX7_moveLeader 87 = .ok (.return_, 1) := by decide +kernel
theorem dX7_moveLeader_88 : decode cX7_moveLeader 88 = .ok (.aload_n 0, 1) := by decide +kernel
theorem dX7_moveLeader_89 : decode cX7_moveLeader 89 = .ok (.aload_n 3, 1) := by decide +kernel
theorem dX7_moveLeader_90 : decode cX7_moveLeader 90 = .ok (.iload_n 2, 1) := by decide +kernel
theorem dX7_moveLeader_91 : decode cX7_moveLeader 91 = .ok (.invokevirtual 83, 3) := by decide +kernel
theorem dX7_moveLeader_94 : decode cX7_moveLeader 94 = .ok (.istore 4, 2) := by decide +kernel
theorem dX7_moveLeader_96 : decode cX7_moveLeader 96 = .ok (.iload 4, 2) := by decide +kernel
theorem dX7_moveLeader_98 : decode cX7_moveLeader 98 = .ok (.ifCond .lt 44, 3) := by decide +kernel
theorem dX7_moveLeader_101 : decode cX7_moveLeader 101 = .ok (.aload_n 0, 1) := by decide +kernel
theorem dX7_moveLeader_102 : decode cX7_moveLeader 102 = .ok (.getfield 22, 3) := by decide +kernel
theorem dX7_moveLeader_105 : decode cX7_moveLeader 105 = .ok (.getfield 87, 3) := by decide +kernel
theorem dX7_moveLeader_108 : decode cX7_moveLeader 108 = .ok (.iload 4, 2) := by decide +kernel
theorem dX7_moveLeader_110 : decode cX7_moveLeader 110 = .ok (.iaload, 1) := by decide +kernel
theorem dX7_moveLeader_111 : decode cX7_moveLeader 111 = .ok (.iconst (-1), 1) := by decide +kernel
theorem dX7_moveLeader_112 : decode cX7_moveLeader 112 = .ok (.if_icmp .ne 30, 3) := by decide +kernel
theorem dX7_moveLeader_115 : decode cX7_moveLeader 115 = .ok (.aload_n 0, 1) := by decide +kernel
theorem dX7_moveLeader_116 : decode cX7_moveLeader 116 = .ok (.getfield 22, 3) := by decide +kernel
theorem dX7_moveLeader_119 : decode cX7_moveLeader 119 = .ok (.iload_n 1, 1) := by decide +kernel
theorem dX7_moveLeader_120 : decode cX7_moveLeader 120 = .ok (.iload 4, 2) := by decide +kernel
theorem dX7_moveLeader_122 : decode cX7_moveLeader 122 = .ok (.iconst 0, 1) := by decide +kernel
theorem dX7_moveLeader_123 : decode cX7_moveLeader 123 = .ok (.invokevirtual 90, 3) := by decide +kernel
theorem dX7_moveLeader_126 : decode cX7_moveLeader 126 = .ok (.aload_n 0, 1) := by decide +kernel
theorem dX7_moveLeader_127 : decode cX7_moveLeader 127 = .ok (.getfield 22, 3) := by decide +kernel
theorem dX7_moveLeader_130 : decode cX7_moveLeader 130 = .ok (.getfield 58, 3) := by decide +kernel
theorem dX7_moveLeader_133 : decode cX7_moveLeader 133 = .ok (.iconst 1, 1) := by decide +kernel
theorem dX7_moveLeader_134 : decode cX7_moveLeader 134 = .ok (.dup2, 1) := by decide +kernel
theorem dX7_moveLeader_135 : decode cX7_moveLeader 135 = .ok (.iaload, 1) := by decide +kernel
theorem dX7_moveLeader_136 : decode cX7_moveLeader 136 = .ok (.iconst 1, 1) := by decide +kernel
theorem dX7_moveLeader_137 : decode cX7_moveLeader 137 = .ok (.iadd, 1) := by decide +kernel
theorem dX7_moveLeader_138 : decode cX7_moveLeader 138 = .ok (.iastore, 1) := by decide +kernel
theorem dX7_moveLeader_139 : decode cX7_moveLeader 139 = .ok (.goto 13, 3) := by decide +kernel
theorem dX7_moveLeader_142 : decode cX7_moveLeader 142 = .ok (.aload_n 0, 1) := by decide +kernel
theorem dX7_moveLeader_143 : decode cX7_moveLeader 143 = .ok (.getfield 22, 3) := by decide +kernel
theorem dX7_moveLeader_146 : decode cX7_moveLeader 146 = .ok (.iload_n 1, 1) := by decide +kernel
theorem dX7_moveLeader_147 : decode cX7_moveLeader 147 = .ok (.bipush 9, 2) := by decide +kernel
theorem dX7_moveLeader_149 : decode cX7_moveLeader 149 = .ok (.invokevirtual 94, 3) := by decide +kernel
theorem dX7_moveLeader_152 : decode cX7_moveLeader 152 = .ok (.return_, 1) := by decide +kernel
theorem dX7_firstNearer_0 : decode cX7_firstNearer 0 = .ok (.iconst 0, 1) := by decide +kernel
theorem dX7_firstNearer_1 : decode cX7_firstNearer 1 = .ok (.istore_n 3, 1) := by decide +kernel
theorem dX7_firstNearer_2 : decode cX7_firstNearer 2 = .ok (.iload_n 3, 1) := by decide +kernel
theorem dX7_firstNearer_3 : decode cX7_firstNearer 3 = .ok (.iconst 4, 1) := by decide +kernel
theorem dX7_firstNearer_4 : decode cX7_firstNearer 4 = .ok (.if_icmp .ge 36, 3) := by decide +kernel
theorem dX7_firstNearer_7 : decode cX7_firstNearer 7 = .ok (.iload_n 2, 1) := by decide +kernel
theorem dX7_firstNearer_8 : decode cX7_firstNearer 8 = .ok (.iload_n 3, 1) := by decide +kernel
theorem dX7_firstNearer_9 : decode cX7_firstNearer 9 = .ok (.invokestatic 98, 3) := by decide +kernel
theorem dX7_firstNearer_12 : decode cX7_firstNearer 12 = .ok (.istore 4, 2) := by decide +kernel
theorem dX7_firstNearer_14 : decode cX7_firstNearer 14 = .ok (.iload 4, 2) := by decide +kernel
theorem dX7_firstNearer_16 : decode cX7_firstNearer 16 = .ok (.ifCond .lt 18, 3) := by decide +kernel
theorem dX7_firstNearer_19 : decode cX7_firstNearer 19 = .ok (.aload_n 1, 1) := by decide +kernel
theorem dX7_firstNearer_20 : decode cX7_firstNearer 20 = .ok (.iload 4, 2) := by decide +kernel
theorem dX7_firstNearer_22 : decode cX7_firstNearer 22 = .ok (.iaload, 1) := by decide +kernel
theorem dX7_firstNearer_23 : decode cX7_firstNearer 23 = .ok (.aload_n 1, 1) := by decide +kernel
theorem dX7_firstNearer_24 : decode cX7_firstNearer 24 = .ok (.iload_n 2, 1) := by decide +kernel
theorem dX7_firstNearer_25 : decode cX7_firstNearer 25 = .ok (.iaload, 1) := by decide +kernel
theorem dX7_firstNearer_26 : decode cX7_firstNearer 26 = .ok (.iconst 1, 1) := by decide +kernel
theorem dX7_firstNearer_27 : decode cX7_firstNearer 27 = .ok (.isub, 1) := by decide +kernel
theorem dX7_firstNearer_28 : decode cX7_firstNearer 28 = .ok (.if_icmp .ne 6, 3) := by decide +kernel
theorem dX7_firstNearer_31 : decode cX7_firstNearer 31 = .ok (.iload 4, 2) := by decide +kernel
theorem dX7_firstNearer_33 : decode cX7_firstNearer 33 = .ok (.ireturn, 1) := by decide +kernel
theorem dX7_firstNearer_34 : decode cX7_firstNearer 34 = .ok (.iinc 3 1, 3) := by decide +kernel
theorem dX7_firstNearer_37 : decode cX7_firstNearer 37 = .ok (.goto (-35), 3) := by decide +kernel
theorem dX7_firstNearer_40 : decode cX7_firstNearer 40 = .ok (.bipush (-5), 2) := by decide +kernel
theorem dX7_firstNearer_42 : decode cX7_firstNearer 42 = .ok (.ireturn, 1) := by decide +kernel
theorem dX7_lineUp_0 : decode cX7_lineUp 0 = .ok (.aload_n 0, 1) := by decide +kernel
theorem dX7_lineUp_1 : decode cX7_lineUp 1 = .ok (.iconst 0, 1) := by decide +kernel
theorem dX7_lineUp_2 : decode cX7_lineUp 2 = .ok (.putfield 18, 3) := by decide +kernel
theorem dX7_lineUp_5 : decode cX7_lineUp 5 = .ok (.iconst 0, 1) := by decide +kernel
theorem dX7_lineUp_6 : decode cX7_lineUp 6 = .ok (.istore_n 2, 1) := by decide +kernel
theorem dX7_lineUp_7 : decode cX7_lineUp 7 = .ok (.iload_n 2, 1) := by decide +kernel
theorem dX7_lineUp_8 : decode cX7_lineUp 8 = .ok (.bipush 10, 2) := by decide +kernel
theorem dX7_lineUp_10 : decode cX7_lineUp 10 = .ok (.if_icmp .ge 30, 3) := by decide +kernel
theorem dX7_lineUp_13 : decode cX7_lineUp 13 = .ok (.iload_n 2, 1) := by decide +kernel
theorem dX7_lineUp_14 : decode cX7_lineUp 14 = .ok (.iload_n 1, 1) := by decide +kernel
theorem dX7_lineUp_15 : decode cX7_lineUp 15 = .ok (.if_icmp .eq 19, 3) := by decide +kernel
theorem dX7_lineUp_18 : decode cX7_lineUp 18 = .ok (.aload_n 0, 1) := by decide +kernel
theorem dX7_lineUp_19 : decode cX7_lineUp 19 = .ok (.getfield 22, 3) := by decide +kernel
theorem dX7_lineUp_22 : decode cX7_lineUp 22 = .ok (.iload_n 2, 1) := by decide +kernel
theorem dX7_lineUp_23 : decode cX7_lineUp 23 = .ok (.invokevirtual 61, 3) := by decide +kernel
theorem dX7_lineUp_26 : decode cX7_lineUp 26 = .ok (.ifCond .eq 8, 3) := by decide +kernel
theorem dX7_lineUp_29 : decode cX7_lineUp 29 = .ok (.aload_n 0, 1) := by decide +kernel
theorem dX7_lineUp_30 : decode cX7_lineUp 30 = .ok (.iload_n 2, 1) := by decide +kernel
theorem dX7_lineUp_31 : decode cX7_lineUp 31 = .ok (.invokevirtual 102, 3) := by decide +kernel
theorem dX7_lineUp_34 : decode cX7_lineUp 34 = .ok (.iinc 2 1, 3) := by decide +kernel
theorem dX7_lineUp_37 : decode cX7_lineUp 37 = .ok (.goto (-30), 3) := by decide +kernel
theorem dX7_lineUp_40 : decode cX7_lineUp 40 = .ok (.return_, 1) := by decide +kernel
theorem dX7_lineUpMember_0 : decode cX7_lineUpMember 0 = .ok (.aload_n 0, 1) := by decide +kernel
theorem dX7_lineUpMember_1 : decode cX7_lineUpMember 1 = .ok (.getfield 30, 3) := by decide +kernel
theorem dX7_lineUpMember_4 : decode cX7_lineUpMember 4 = .ok (.getfield 105, 3) := by decide +kernel
theorem dX7_lineUpMember_7 : decode cX7_lineUpMember 7 = .ok (.iload_n 1, 1) := by decide +kernel
theorem dX7_lineUpMember_8 : decode cX7_lineUpMember 8 = .ok (.iaload, 1) := by decide +kernel
theorem dX7_lineUpMember_9 : decode cX7_lineUpMember 9 = .ok (.istore_n 2, 1) := by decide +kernel
theorem dX7_lineUpMember_10 : decode cX7_lineUpMember 10 = .ok (.iload_n 2, 1) := by decide +kernel
theorem dX7_lineUpMember_11 : decode cX7_lineUpMember 11 = .ok (.ifCond .ge 16, 3) := by decide +kernel
theorem dX7_lineUpMember_14 : decode cX7_lineUpMember 14 = .ok (.aload_n 0, 1) := by decide +kernel
theorem dX7_lineUpMember_15 : decode cX7_lineUpMember 15 = .ok (.getfield 22, 3) := by decide +kernel
theorem dX7_lineUpMember_18 : decode cX7_lineUpMember 18 = .ok (.getfield 74, 3) := by decide +kernel
theorem dX7_lineUpMember_21 : decode cX7_lineUpMember 21 = .ok (.iload_n 1, 1) := by decide +kernel
theorem dX7_lineUpMember_22 : decode cX7_lineUpMember 22 = .ok (.iconst 2, 1) := by decide +kernel
theorem dX7_lineUpMember_23 : decode cX7_lineUpMember 23 = .ok (.iastore, 1) := by decide +kernel
theorem dX7_lineUpMember_24 : decode cX7_lineUpMember 24 = .ok (.goto 52, 3) := by decide +kernel
theorem dX7_lineUpMember_27 : decode cX7_lineUpMember 27 = .ok (.iload_n 2, 1) := by decide +kernel
theorem dX7_lineUpMember_28 : decode cX7_lineUpMember 28 = .ok (.aload_n 0, 1) := by decide +kernel
theorem dX7_lineUpMember_29 : decode cX7_lineUpMember 29 = .ok (.getfield 22, 3) := by decide +kernel
theorem dX7_lineUpMember_32 : decode cX7_lineUpMember 32 = .ok (.getfield 68, 3) := by decide +kernel
theorem dX7_lineUpMember_35 : decode cX7_lineUpMember 35 = .ok (.iload_n 1, 1) := by decide +kernel
theorem dX7_lineUpMember_36 : decode cX7_lineUpMember 36 = .ok (.iaload, 1) := by decide +kernel
theorem dX7_lineUpMember_37 : decode cX7_lineUpMember 37 = .ok (.if_icmp .ne 16, 3) := by decide +kernel
theorem dX7_lineUpMember_40 : decode cX7_lineUpMember 40 = .ok (.aload_n 0, 1) := by decide +kernel
theorem dX7_lineUpMember_41 : decode cX7_lineUpMember 41 = .ok (.getfield 22, 3) := by decide +kernel
theorem dX7_lineUpMember_44 : decode cX7_lineUpMember 44 = .ok (.getfield 74, 3) := by decide +kernel
theorem dX7_lineUpMember_47 : decode cX7_lineUpMember 47 = .ok (.iload_n 1, 1) := by decide +kernel
theorem dX7_lineUpMember_48 : decode cX7_lineUpMember 48 = .ok (.iconst 1, 1) := by decide +kernel
theorem dX7_lineUpMember_49 : decode cX7_lineUpMember 49 = .ok (.iastore, 1) := by decide +kernel
theorem dX7_lineUpMember_50 : decode cX7_lineUpMember 50 = .ok (.goto 26, 3) := by decide +kernel
theorem dX7_lineUpMember_53 : decode cX7_lineUpMember 53 = .ok (.aload_n 0, 1) := by decide +kernel
theorem dX7_lineUpMember_54 : decode cX7_lineUpMember 54 = .ok (.iload_n 1, 1) := by decide +kernel
theorem dX7_lineUpMember_55 : decode cX7_lineUpMember 55 = .ok (.aload_n 0, 1) := by decide +kernel
theorem dX7_lineUpMember_56 : decode cX7_lineUpMember 56 = .ok (.getfield 26, 3) := by decide +kernel
theorem dX7_lineUpMember_59 : decode cX7_lineUpMember 59 = .ok (.iload_n 2, 1) := by decide +kernel
theorem dX7_lineUpMember_60 : decode cX7_lineUpMember 60 = .ok (.invokevirtual 77, 3) := by decide +kernel
theorem dX7_lineUpMember_63 : decode cX7_lineUpMember 63 = .ok (.aload_n 0, 1) := by decide +kernel
theorem dX7_lineUpMember_64 : decode cX7_lineUpMember 64 = .ok (.getfield 22, 3) := by decide +kernel
theorem dX7_lineUpMember_67 : decode cX7_lineUpMember 67 = .ok (.getfield 68, 3) := by decide +kernel
theorem dX7_lineUpMember_70 : decode cX7_lineUpMember 70 = .ok (.iload_n 1, 1) := by decide +kernel
theorem dX7_lineUpMember_71 : decode cX7_lineUpMember 71 = .ok (.iaload, 1) := by decide +kernel
theorem dX7_lineUpMember_72 : decode cX7_lineUpMember 72 = .ok (.iaload, 1) := by decide +kernel
theorem dX7_lineUpMember_73 : decode cX7_lineUpMember 73 = .ok (.invokevirtual 108, 3) := by decide +kernel
theorem dX7_lineUpMember_76 : decode cX7_lineUpMember 76 = .ok (.return_, 1) := by decide +kernel
theorem dX7_insert_0 : decode cX7_insert 0 = .ok (.aload_n 0, 1) := by decide +kernel
theorem dX7_insert_1 : decode cX7_insert 1 = .ok (.getfield 18, 3) := by decide +kernel
theorem dX7_insert_4 : decode cX7_insert 4 = .ok (.istore_n 3, 1) := by decide +kernel
theorem dX7_insert_5 : decode cX7_insert 5 = .ok (.iload_n 3, 1) := by decide +kernel
theorem dX7_insert_6 : decode cX7_insert 6 = .ok (.ifCond .le 49, 3) := by decide +kernel
theorem dX7_insert_9 : decode cX7_insert 9 = .ok (.aload_n 0, 1) := by decide +kernel
theorem dX7_insert_10 : decode cX7_insert 10 = .ok (.getfield 15, 3) := by decide +kernel
theorem dX7_insert_13 : decode cX7_insert 13 = .ok (.iload_n 3, 1) := by decide +kernel
theorem dX7_insert_14 : decode cX7_insert 14 = .ok (.iconst 1, 1) := by decide +kernel
theorem dX7_insert_15 : decode cX7_insert 15 = .ok (.isub, 1) := by decide +kernel
theorem dX7_insert_16 : decode cX7_insert 16 = .ok (.iaload, 1) := by decide +kernel
theorem dX7_insert_17 : decode cX7_insert 17 = .ok (.iload_n 2, 1) := by decide +kernel
theorem dX7_insert_18 : decode cX7_insert 18 = .ok (.if_icmp .ge 37, 3) := by decide +kernel
theorem dX7_insert_21 : decode cX7_insert 21 = .ok (.aload_n 0, 1) := by decide +kernel
theorem dX7_insert_22 : decode cX7_insert 22 = .ok (.getfield 9, 3) := by decide +kernel
theorem dX7_insert_25 : decode cX7_insert 25 = .ok (.iload_n 3, 1) := by decide +kernel
theorem dX7_insert_26 : decode cX7_insert 26 = .ok (.aload_n 0, 1) := by decide +kernel
theorem dX7_insert_27 : decode cX7_insert 27 = .ok (.getfield 9, 3) := by decide +kernel
theorem dX7_insert_30 : decode cX7_insert 30 = .ok (.iload_n 3, 1) := by decide +kernel
theorem dX7_insert_31 : decode cX7_insert 31 = .ok (.iconst 1, 1) := by decide +kernel
theorem dX7_insert_32 : decode cX7_insert 32 = .ok (.isub, 1) := by decide +kernel
theorem dX7_insert_33 : decode cX7_insert 33 = .ok (.iaload, 1) := by decide +kernel
theorem dX7_insert_34 : decode cX7_insert 34 = .ok (.iastore, 1) := by decide +kernel
theorem dX7_insert_35 : decode cX7_insert 35 = .ok (.aload_n 0, 1) := by decide +kernel
theorem dX7_insert_36 : decode cX7_insert 36 = .ok (.getfield 15, 3) := by decide +kernel
theorem dX7_insert_39 : decode cX7_insert 39 = .ok (.iload_n 3, 1) := by decide +kernel
theorem dX7_insert_40 : decode cX7_insert 40 = .ok (.aload_n 0, 1) := by decide +kernel
theorem dX7_insert_41 : decode cX7_insert 41 = .ok (.getfield 15, 3) := by decide +kernel
theorem dX7_insert_44 : decode cX7_insert 44 = .ok (.iload_n 3, 1) := by decide +kernel
theorem dX7_insert_45 : decode cX7_insert 45 = .ok (.iconst 1, 1) := by decide +kernel
theorem dX7_insert_46 : decode cX7_insert 46 = .ok (.isub, 1) := by decide +kernel
theorem dX7_insert_47 : decode cX7_insert 47 = .ok (.iaload, 1) := by decide +kernel
theorem dX7_insert_48 : decode cX7_insert 48 = .ok (.iastore, 1) := by decide +kernel
theorem dX7_insert_49 : decode cX7_insert 49 = .ok (.iinc 3 (-1), 3) := by decide +kernel
theorem dX7_insert_52 : decode cX7_insert 52 = .ok (.goto (-47), 3) := by decide +kernel
theorem dX7_insert_55 : decode cX7_insert 55 = .ok (.aload_n 0, 1) := by decide +kernel
theorem dX7_insert_56 : decode cX7_insert 56 = .ok (.getfield 9, 3) := by decide +kernel
theorem dX7_insert_59 : decode cX7_insert 59 = .ok (.iload_n 3, 1) := by decide +kernel
theorem dX7_insert_60 : decode cX7_insert 60 = .ok (.iload_n 1, 1) := by decide +kernel
theorem dX7_insert_61 : decode cX7_insert 61 = .ok (.iastore, 1) := by decide +kernel
theorem dX7_insert_62 : decode cX7_insert 62 = .ok (.aload_n 0, 1) := by decide +kernel
theorem dX7_insert_63 : decode cX7_insert 63 = .ok (.getfield 15, 3) := by decide +kernel
theorem dX7_insert_66 : decode cX7_insert 66 = .ok (.iload_n 3, 1) := by decide +kernel
theorem dX7_insert_67 : decode cX7_insert 67 = .ok (.iload_n 2, 1) := by decide +kernel
theorem dX7_insert_68 : decode cX7_insert 68 = .ok (.iastore, 1) := by decide +kernel
theorem dX7_insert_69 : decode cX7_insert 69 = .ok (.aload_n 0, 1) := by decide +kernel
theorem dX7_insert_70 : decode cX7_insert 70 = .ok (.dup, 1) := by decide +kernel
theorem dX7_insert_71 : decode cX7_insert 71 = .ok (.getfield 18, 3) := by decide +kernel
theorem dX7_insert_74 : decode cX7_insert 74 = .ok (.iconst 1, 1) := by decide +kernel
theorem dX7_insert_75 : decode cX7_insert 75 = .ok (.iadd, 1) := by decide +kernel
theorem dX7_insert_76 : decode cX7_insert 76 = .ok (.putfield 18, 3) := by decide +kernel
theorem dX7_insert_79 : decode cX7_insert 79 = .ok (.return_, 1) := by decide +kernel
theorem dX7_act_0 : decode cX7_act 0 = .ok (.aload_n 0, 1) := by decide +kernel
theorem dX7_act_1 : decode cX7_act 1 = .ok (.getfield 22, 3) := by decide +kernel
theorem dX7_act_4 : decode cX7_act 4 = .ok (.getfield 68, 3) := by decide +kernel
theorem dX7_act_7 : decode cX7_act 7 = .ok (.iload_n 1, 1) := by decide +kernel
theorem dX7_act_8 : decode cX7_act 8 = .ok (.iaload, 1) := by decide +kernel
theorem dX7_act_9 : decode cX7_act 9 = .ok (.istore_n 2, 1) := by decide +kernel
theorem dX7_act_10 : decode cX7_act 10 = .ok (.aload_n 0, 1) := by decide +kernel
theorem dX7_act_11 : decode cX7_act 11 = .ok (.getfield 30, 3) := by decide +kernel
theorem dX7_act_14 : decode cX7_act 14 = .ok (.getfield 105, 3) := by decide +kernel
theorem dX7_act_17 : decode cX7_act 17 = .ok (.iload_n 1, 1) := by decide +kernel
theorem dX7_act_18 : decode cX7_act 18 = .ok (.iaload, 1) := by decide +kernel
theorem dX7_act_19 : decode cX7_act 19 = .ok (.istore_n 3, 1) := by decide +kernel
theorem dX7_act_20 : decode cX7_act 20 = .ok (.iload_n 2, 1) := by decide +kernel
theorem dX7_act_21 : decode cX7_act 21 = .ok (.iload_n 3, 1) := by decide +kernel
theorem dX7_act_22 : decode cX7_act 22 = .ok (.if_icmp .ne 4, 3) := by decide +kernel
theorem dX7_act_25 : decode cX7_act 25 = .ok (.return_, 1) := by decide +kernel
theorem dX7_act_26 : decode cX7_act 26 = .ok (.aload_n 0, 1) := by decide +kernel
theorem dX7_act_27 : decode cX7_act 27 = .ok (.getfield 26, 3) := by decide +kernel
theorem dX7_act_30 : decode cX7_act 30 = .ok (.iload_n 3, 1) := by decide +kernel
theorem dX7_act_31 : decode cX7_act 31 = .ok (.invokevirtual 77, 3) := by decide +kernel
theorem dX7_act_34 : decode cX7_act 34 = .ok (.astore 4, 2) := by decide +kernel
theorem dX7_act_36 : decode cX7_act 36 = .ok (.aload_n 0, 1) := by decide +kernel
theorem dX7_act_37 : decode cX7_act 37 = .ok (.aload 4, 2) := by decide +kernel
theorem dX7_act_39 : decode cX7_act 39 = .ok (.iload_n 2, 1) := by decide +kernel
theorem dX7_act_40 : decode cX7_act 40 = .ok (.invokevirtual 111, 3) := by decide +kernel
theorem dX7_act_43 : decode cX7_act 43 = .ok (.istore 5, 2) := by decide +kernel
theorem dX7_act_45 : decode cX7_act 45 = .ok (.iload 5, 2) := by decide +kernel
theorem dX7_act_47 : decode cX7_act 47 = .ok (.ifCond .lt 28, 3) := by decide +kernel
theorem dX7_act_50 : decode cX7_act 50 = .ok (.aload_n 0, 1) := by decide +kernel
theorem dX7_act_51 : decode cX7_act 51 = .ok (.getfield 22, 3) := by decide +kernel
theorem dX7_act_54 : decode cX7_act 54 = .ok (.iload_n 1, 1) := by decide +kernel
theorem dX7_act_55 : decode cX7_act 55 = .ok (.iload 5, 2) := by decide +kernel
theorem dX7_act_57 : decode cX7_act 57 = .ok (.iconst 0, 1) := by decide +kernel
theorem dX7_act_58 : decode cX7_act 58 = .ok (.invokevirtual 90, 3) := by decide +kernel
theorem dX7_act_61 : decode cX7_act 61 = .ok (.aload_n 0, 1) := by decide +kernel
theorem dX7_act_62 : decode cX7_act 62 = .ok (.getfield 22, 3) := by decide +kernel
theorem dX7_act_65 : decode cX7_act 65 = .ok (.getfield 58, 3) := by decide +kernel
theorem dX7_act_68 : decode cX7_act 68 = .ok (.iconst 1, 1) := by decide +kernel
theorem dX7_act_69 : decode cX7_act 69 = .ok (.dup2, 1) := by decide +kernel
theorem dX7_act_70 : decode cX7_act 70 = .ok (.iaload, 1) := by decide +kernel
theorem dX7_act_71 : decode cX7_act 71 = .ok (.iconst 1, 1) := by decide +kernel
theorem dX7_act_72 : decode cX7_act 72 = .ok (.iadd, 1) := by decide +kernel
theorem dX7_act_73 : decode cX7_act 73 = .ok (.iastore, 1) := by decide +kernel
theorem dX7_act_74 : decode cX7_act 74 = .ok (.return_, 1) := by decide +kernel
theorem dX7_act_75 : decode cX7_act 75 = .ok (.aload_n 0, 1) := by decide +kernel
theorem dX7_act_76 : decode cX7_act 76 = .ok (.aload 4, 2) := by decide +kernel
theorem dX7_act_78 : decode cX7_act 78 = .ok (.iload_n 2, 1) := by decide +kernel
theorem dX7_act_79 : decode cX7_act 79 = .ok (.invokevirtual 114, 3) := by decide +kernel
theorem dX7_act_82 : decode cX7_act 82 = .ok (.istore 6, 2) := by decide +kernel
theorem dX7_act_84 : decode cX7_act 84 = .ok (.iload 6, 2) := by decide +kernel
theorem dX7_act_86 : decode cX7_act 86 = .ok (.ifCond .lt 27, 3) := by decide +kernel
theorem dX7_act_89 : decode cX7_act 89 = .ok (.aload_n 0, 1) := by decide +kernel
theorem dX7_act_90 : decode cX7_act 90 = .ok (.getfield 22, 3) := by decide +kernel
theorem dX7_act_93 : decode cX7_act 93 = .ok (.iload_n 1, 1) := by decide +kernel
theorem dX7_act_94 : decode cX7_act 94 = .ok (.iload 6, 2) := by decide +kernel
theorem dX7_act_96 : decode cX7_act 96 = .ok (.invokevirtual 117, 3) := by decide +kernel
theorem dX7_act_99 : decode cX7_act 99 = .ok (.aload_n 0, 1) := by decide +kernel
theorem dX7_act_100 : decode cX7_act 100 = .ok (.getfield 22, 3) := by decide +kernel
theorem dX7_act_103 : decode cX7_act 103 = .ok (.getfield 58, 3) := by decide +kernel
theorem dX7_act_106 : decode cX7_act 106 = .ok (.iconst 3, 1) := by decide +kernel
theorem dX7_act_107 : decode cX7_act 107 = .ok (.dup2, 1) := by decide +kernel
theorem dX7_act_108 : decode cX7_act 108 = .ok (.iaload, 1) := by decide +kernel
theorem dX7_act_109 : decode cX7_act 109 = .ok (.iconst 1, 1) := by decide +kernel
theorem dX7_act_110 : decode cX7_act 110 = .ok (.iadd, 1) := by decide +kernel
theorem dX7_act_111 : decode cX7_act 111 = .ok (.iastore, 1) := by decide +kernel
theorem dX7_act_112 : decode cX7_act 112 = .ok (.return_, 1) := by decide +kernel
theorem dX7_act_113 : decode cX7_act 113 = .ok (.aload_n 0, 1) := by decide +kernel
theorem dX7_act_114 : decode cX7_act 114 = .ok (.iload_n 1, 1) := by decide +kernel
theorem dX7_act_115 : decode cX7_act 115 = .ok (.iload_n 2, 1) := by decide +kernel
theorem dX7_act_116 : decode cX7_act 116 = .ok (.invokevirtual 120, 3) := by decide +kernel
theorem dX7_act_119 : decode cX7_act 119 = .ok (.return_, 1) := by decide +kernel
theorem dX7_firstFreeNearer_0 : decode cX7_firstFreeNearer 0 = .ok (.iconst 0, 1) := by decide +kernel
theorem dX7_firstFreeNearer_1 : decode cX7_firstFreeNearer 1 = .ok (.istore_n 3, 1) := by decide +kernel
theorem dX7_firstFreeNearer_2 : decode cX7_firstFreeNearer 2 = .ok (.iload_n 3, 1) := by decide +kernel
theorem dX7_firstFreeNearer_3 : decode cX7_firstFreeNearer 3 = .ok (.iconst 4, 1) := by decide +kernel
theorem dX7_firstFreeNearer_4 : decode cX7_firstFreeNearer 4 = .ok (.if_icmp .ge 50, 3) := by decide +kernel
theorem dX7_firstFreeNearer_7 : decode cX7_firstFreeNearer 7 = .ok (.iload_n 2, 1) := by decide +kernel
theorem dX7_firstFreeNearer_8 : decode cX7_firstFreeNearer 8 = .ok (.iload_n 3, 1) := by decide +kernel
theorem dX7_firstFreeNearer_9 : decode cX7_firstFreeNearer 9 = .ok (.invokestatic 98, 3) := by decide +kernel
theorem dX7_firstFreeNearer_12 : decode cX7_firstFreeNearer 12 = .ok (.istore 4, 2) := by decide +kernel
theorem dX7_firstFreeNearer_14 : decode cX7_firstFreeNearer 14 = .ok (.iload 4, 2) := by decide +kernel
theorem dX7_firstFreeNearer_16 : decode cX7_firstFreeNearer 16 = .ok (.ifCond .lt 32, 3) := by decide +kernel
theorem dX7_firstFreeNearer_19 : decode cX7_firstFreeNearer 19 = .ok (.aload_n 1, 1) := by decide +kernel
theorem dX7_firstFreeNearer_20 : decode cX7_firstFreeNearer 20 = .ok (.iload 4, 2) := by decide +kernel
theorem dX7_firstFreeNearer_22 : decode cX7_firstFreeNearer 22 = .ok (.iaload, 1) := by decide +kernel
theorem dX7_firstFreeNearer_23 : decode cX7_firstFreeNearer 23 = .ok (.aload_n 1, 1) := by decide +kernel
theorem dX7_firstFreeNearer_24 : decode cX7_firstFreeNearer 24 = .ok (.iload_n 2, 1) := by decide +kernel
theorem dX7_firstFreeNearer_25 : decode cX7_firstFreeNearer 25 = .ok (.iaload, 1) := by decide +kernel
theorem dX7_firstFreeNearer_26 : decode cX7_firstFreeNearer 26 = .ok (.iconst 1, 1) := by decide +kernel
theorem dX7_firstFreeNearer_27 : decode cX7_firstFreeNearer 27 = .ok (.isub, 1) := by decide +kernel
theorem dX7_firstFreeNearer_28 : decode cX7_firstFreeNearer 28 = .ok (.if_icmp .ne 20, 3) := by decide +kernel
theorem dX7_firstFreeNearer_31 : decode cX7_firstFreeNearer 31 = .ok (.aload_n 0, 1) := by decide +kernel
theorem dX7_firstFreeNearer_32 : decode cX7_firstFreeNearer 32 = .ok (.getfield 22, 3) := by decide +kernel
theorem dX7_firstFreeNearer_35 : decode cX7_firstFreeNearer 35 = .ok (.getfield 87, 3) := by decide +kernel
theorem dX7_firstFreeNearer_38 : decode cX7_firstFreeNearer 38 = .ok (.iload 4, 2) := by decide +kernel
theorem dX7_firstFreeNearer_40 : decode cX7_firstFreeNearer 40 = .ok (.iaload, 1) := by decide +kernel
theorem dX7_firstFreeNearer_41 : decode cX7_firstFreeNearer 41 = .ok (.iconst (-1), 1) := by decide +kernel
theorem dX7_firstFreeNearer_42 : decode cX7_firstFreeNearer 42 = .ok (.if_icmp .ne 6, 3) := by decide +kernel
theorem dX7_firstFreeNearer_45 : decode cX7_firstFreeNearer 45 = .ok (.iload 4, 2) := by decide +kernel
theorem dX7_firstFreeNearer_47 : decode cX7_firstFreeNearer 47 = .ok (.ireturn, 1) := by decide +kernel
theorem dX7_firstFreeNearer_48 : decode cX7_firstFreeNearer 48 = .ok (.iinc 3 1, 3) := by decide +kernel
theorem dX7_firstFreeNearer_51 : decode cX7_firstFreeNearer 51 = .ok (.goto (-49), 3) := by decide +kernel
theorem dX7_firstFreeNearer_54 : decode cX7_firstFreeNearer 54 = .ok (.bipush (-5), 2) := by decide +kernel
theorem dX7_firstFreeNearer_56 : decode cX7_firstFreeNearer 56 = .ok (.ireturn, 1) := by decide +kernel
theorem dX7_firstPartner_0 : decode cX7_firstPartner 0 = .ok (.iconst 0, 1) := by decide +kernel
theorem dX7_firstPartner_1 : decode cX7_firstPartner 1 = .ok (.istore_n 3, 1) := by decide +kernel
theorem dX7_firstPartner_2 : decode cX7_firstPartner 2 = .ok (.iload_n 3, 1) := by decide +kernel
theorem dX7_firstPartner_3 : decode cX7_firstPartner 3 = .ok (.iconst 4, 1) := by decide +kernel
theorem dX7_firstPartner_4 : decode cX7_firstPartner 4 = .ok (.if_icmp .ge 118, 3) := by decide +kernel
theorem dX7_firstPartner_7 : decode cX7_firstPartner 7 = .ok (.iload_n 2, 1) := by decide +kernel
theorem dX7_firstPartner_8 : decode cX7_firstPartner 8 = .ok (.iload_n 3, 1) := by decide +kernel
theorem dX7_firstPartner_9 : decode cX7_firstPartner 9 = .ok (.invokestatic 98, 3) := by decide +kernel
theorem dX7_firstPartner_12 : decode cX7_firstPartner 12 = .ok (.istore 4, 2) := by decide +kernel
theorem dX7_firstPartner_14 : decode cX7_firstPartner 14 = .ok (.iload 4, 2) := by decide +kernel
theorem dX7_firstPartner_16 : decode cX7_firstPartner 16 = .ok (.ifCond .lt 19, 3) := by decide +kernel
theorem dX7_firstPartner_19 : decode cX7_firstPartner 19 = .ok (.aload_n 1, 1) := by decide +kernel
theorem dX7_firstPartner_20 : decode cX7_firstPartner 20 = .ok (.iload 4, 2) := by decide +kernel
theorem dX7_firstPartner_22 : decode cX7_firstPartner 22 = .ok (.iaload, 1) := by decide +kernel
theorem dX7_firstPartner_23 : decode cX7_firstPartner 23 = .ok (.aload_n 1, 1) := by decide +kernel
theorem dX7_firstPartner_24 : decode cX7_firstPartner 24 = .ok (.iload_n 2, 1) := by decide +kernel
theorem dX7_firstPartner_25 : decode cX7_firstPartner 25 = .ok (.iaload, 1) := by decide +kernel
theorem dX7_firstPartner_26 : decode cX7_firstPartner 26 = .ok (.iconst 1, 1) := by decide +kernel
theorem dX7_firstPartner_27 : decode cX7_firstPartner 27 = .ok (.isub, 1) := by decide +kernel
theorem dX7_firstPartner_28 : decode cX7_firstPartner 28 = .ok (.if_icmp .ne 7, 3) := by decide +kernel
theorem dX7_firstPartner_31 : decode cX7_firstPartner 31 = .ok (.iconst 1, 1) := by decide +kernel
theorem dX7_firstPartner_32 : decode cX7_firstPartner 32 = .ok (.goto 4, 3) := by decide +kernel
theorem dX7_firstPartner_35 : decode cX7_firstPartner 35 = .ok (.iconst 0, 1) := by decide +kernel
theorem dX7_firstPartner_36 : decode cX7_firstPartner 36 = .ok (.istore 5, 2) := by decide +kernel
theorem dX7_firstPartner_38 : decode cX7_firstPartner 38 = .ok (.iload 5, 2) := by decide +kernel
theorem dX7_firstPartner_40 : decode cX7_firstPartner 40 = .ok (.ifCond .eq 16, 3) := by decide +kernel
theorem dX7_firstPartner_43 : decode cX7_firstPartner 43 = .ok (.aload_n 0, 1) := by decide +kernel
theorem dX7_firstPartner_44 : decode cX7_firstPartner 44 = .ok (.getfield 22, 3) := by decide +kernel
theorem dX7_firstPartner_47 : decode cX7_firstPartner 47 = .ok (.getfield 87, 3) := by decide +kernel
theorem dX7_firstPartner_50 : decode cX7_firstPartner 50 = .ok (.iload 4, 2) := by decide +kernel
theorem dX7_firstPartner_52 : decode cX7_firstPartner 52 = .ok (.iaload, 1) := by decide +kernel
theorem dX7_firstPartner_53 : decode cX7_firstPartner 53 = .ok (.goto 5, 3) := by decide +kernel
theorem dX7_firstPartner_56 : decode cX7_firstPartner 56 = .ok (.bipush (-5), 2) := by decide +kernel
theorem dX7_firstPartner_58 : decode cX7_firstPartner 58 = .ok (.istore 6, 2) := by decide +kernel
theorem dX7_firstPartner_60 : decode cX7_firstPartner 60 = .ok (.iload 6, 2) := by decide +kernel
theorem dX7_firstPartner_62 : decode cX7_firstPartner 62 = .ok (.ifCond .lt 16, 3) := by decide +kernel
theorem dX7_firstPartner_65 : decode cX7_firstPartner 65 = .ok (.aload_n 0, 1) := by decide +kernel
theorem dX7_firstPartner_66 : decode cX7_firstPartner 66 = .ok (.getfield 30, 3) := by decide +kernel
theorem dX7_firstPartner_69 : decode cX7_firstPartner 69 = .ok (.getfield 105, 3) := by decide +kernel
theorem dX7_firstPartner_72 : decode cX7_firstPartner 72 = .ok (.iload 6, 2) := by decide +kernel
theorem dX7_firstPartner_74 : decode cX7_firstPartner 74 = .ok (.iaload, 1) := by decide +kernel
theorem dX7_firstPartner_75 : decode cX7_firstPartner 75 = .ok (.goto 5, 3) := by decide +kernel
theorem dX7_firstPartner_78 : decode cX7_firstPartner 78 = .ok (.bipush (-5), 2) := by decide +kernel
theorem dX7_firstPartner_80 : decode cX7_firstPartner 80 = .ok (.istore 7, 2) := by decide +kernel
theorem dX7_firstPartner_82 : decode cX7_firstPartner 82 = .ok (.iload 7, 2) := by decide +kernel
theorem dX7_firstPartner_84 : decode cX7_firstPartner 84 = .ok (.ifCond .lt 32, 3) := by decide +kernel
theorem dX7_firstPartner_87 : decode cX7_firstPartner 87 = .ok (.aload_n 0, 1) := by decide +kernel
theorem dX7_firstPartner_88 : decode cX7_firstPartner 88 = .ok (.getfield 26, 3) := by decide +kernel
theorem dX7_firstPartner_91 : decode cX7_firstPartner 91 = .ok (.iload 7, 2) := by decide +kernel
theorem dX7_firstPartner_93 : decode cX7_firstPartner 93 = .ok (.invokevirtual 77, 3) := by decide +kernel
theorem dX7_firstPartner_96 : decode cX7_firstPartner 96 = .ok (.iload 4, 2) := by decide +kernel
theorem dX7_firstPartner_98 : decode cX7_firstPartner 98 = .ok (.iaload, 1) := by decide +kernel
theorem dX7_firstPartner_99 : decode cX7_firstPartner 99 = .ok (.aload_n 0, 1) := by decide +kernel
theorem dX7_firstPartner_100 : decode cX7_firstPartner 100 = .ok (.getfield 26, 3) := by decide +kernel
theorem dX7_firstPartner_103 : decode cX7_firstPartner 103 = .ok (.iload 7, 2) := by decide +kernel
theorem dX7_firstPartner_105 : decode cX7_firstPartner 105 = .ok (.invokevirtual 77, 3) := by decide +kernel
theorem dX7_firstPartner_108 : decode cX7_firstPartner 108 = .ok (.iload_n 2, 1) := by decide +kernel
theorem dX7_firstPartner_109 : decode cX7_firstPartner 109 = .ok (.iaload, 1) := by decide +kernel
theorem dX7_firstPartner_110 : decode cX7_firstPartner 110 = .ok (.if_icmp .le 6, 3) := by decide +kernel
theorem dX7_firstPartner_113 : decode cX7_firstPartner 113 = .ok (.iload 6, 2) := by decide +kernel
theorem dX7_firstPartner_115 : decode cX7_firstPartner 115 = .ok (.ireturn, 1) := by decide +kernel
theorem dX7_firstPartner_116 : decode cX7_firstPartner 116 = .ok (.iinc 3 1, 3) := by decide +kernel
theorem dX7_firstPartner_119 : decode cX7_firstPartner 119 = .ok (.goto (-117), 3) := by decide +kernel
theorem dX7_firstPartner_122 : decode cX7_firstPartner 122 = .ok (.bipush (-5), 2) := by decide +kernel
theorem dX7_firstPartner_124 : decode cX7_firstPartner 124 = .ok (.ireturn, 1) := by decide +kernel
theorem dX7_stayOrStepAside_0 : decode cX7_stayOrStepAside 0 = .ok (.aload_n 0, 1) := by decide +kernel
theorem dX7_stayOrStepAside_1 : decode cX7_stayOrStepAside 1 = .ok (.getfield 22, 3) := by decide +kernel
theorem dX7_stayOrStepAside_4 : decode cX7_stayOrStepAside 4 = .ok (.getfield 123, 3) := by decide +kernel
theorem dX7_stayOrStepAside_7 : decode cX7_stayOrStepAside 7 = .ok (.iload_n 1, 1) := by decide +kernel
theorem dX7_stayOrStepAside_8 : decode cX7_stayOrStepAside 8 = .ok (.iaload, 1) := by decide +kernel
theorem dX7_stayOrStepAside_9 : decode cX7_stayOrStepAside 9 = .ok (.iconst 1, 1) := by decide +kernel
theorem dX7_stayOrStepAside_10 : decode cX7_stayOrStepAside 10 = .ok (.iadd, 1) := by decide +kernel
theorem dX7_stayOrStepAside_11 : decode cX7_stayOrStepAside 11 = .ok (.iconst 3, 1) := by decide +kernel
theorem dX7_stayOrStepAside_12 : decode cX7_stayOrStepAside 12 = .ok (.if_icmp .lt 11, 3) := by decide +kernel
theorem dX7_stayOrStepAside_15 : decode cX7_stayOrStepAside 15 = .ok (.aload_n 0, 1) := by decide +kernel
theorem dX7_stayOrStepAside_16 : decode cX7_stayOrStepAside 16 = .ok (.iload_n 2, 1) := by decide +kernel
theorem dX7_stayOrStepAside_17 : decode cX7_stayOrStepAside 17 = .ok (.invokevirtual 126, 3) := by decide +kernel
theorem dX7_stayOrStepAside_20 : decode cX7_stayOrStepAside 20 = .ok (.goto 5, 3) := by decide +kernel
theorem dX7_stayOrStepAside_23 : decode cX7_stayOrStepAside 23 = .ok (.bipush (-5), 2) := by decide +kernel
theorem dX7_stayOrStepAside_25 : decode cX7_stayOrStepAside 25 = .ok (.istore_n 3, 1) := by decide +kernel
theorem dX7_stayOrStepAside_26 : decode cX7_stayOrStepAside 26 = .ok (.iload_n 3, 1) := by decide +kernel
theorem dX7_stayOrStepAside_27 : decode cX7_stayOrStepAside 27 = .ok (.ifCond .lt 29, 3) := by decide +kernel
theorem dX7_stayOrStepAside_30 : decode cX7_stayOrStepAside 30 = .ok (.aload_n 0, 1) := by decide +kernel
theorem dX7_stayOrStepAside_31 : decode cX7_stayOrStepAside 31 = .ok (.getfield 22, 3) := by decide +kernel
theorem dX7_stayOrStepAside_34 : decode cX7_stayOrStepAside 34 = .ok (.iload_n 1, 1) := by decide +kernel
theorem dX7_stayOrStepAside_35 : decode cX7_stayOrStepAside 35 = .ok (.iload_n 3, 1) := by decide +kernel
theorem dX7_stayOrStepAside_36 : decode cX7_stayOrStepAside 36 = .ok (.iconst 5, 1) := by decide +kernel
theorem dX7_stayOrStepAside_37 : decode cX7_stayOrStepAside 37 = .ok (.invokevirtual 90, 3) := by decide +kernel
theorem dX7_stayOrStepAside_40 : decode cX7_stayOrStepAside 40 = .ok (.aload_n 0, 1) := by decide +kernel
theorem dX7_stayOrStepAside_41 : decode cX7_stayOrStepAside 41 = .ok (.getfield 22, 3) := by decide +kernel
theorem dX7_stayOrStepAside_44 : decode cX7_stayOrStepAside 44 = .ok (.getfield 58, 3) := by decide +kernel
theorem dX7_stayOrStepAside_47 : decode cX7_stayOrStepAside 47 = .ok (.iconst 4, 1) := by decide +kernel
theorem dX7_stayOrStepAside_48 : decode cX7_stayOrStepAside 48 = .ok (.dup2, 1) := by decide +kernel
theorem dX7_stayOrStepAside_49 : decode cX7_stayOrStepAside 49 = .ok (.iaload, 1) := by decide +kernel
theorem dX7_stayOrStepAside_50 : decode cX7_stayOrStepAside 50 = .ok (.iconst 1, 1) := by decide +kernel
theorem dX7_stayOrStepAside_51 : decode cX7_stayOrStepAside 51 = .ok (.iadd, 1) := by decide +kernel
theorem dX7_stayOrStepAside_52 : decode cX7_stayOrStepAside 52 = .ok (.iastore, 1) := by decide +kernel
theorem dX7_stayOrStepAside_53 : decode cX7_stayOrStepAside 53 = .ok (.goto 25, 3) := by decide +kernel
theorem dX7_stayOrStepAside_56 : decode cX7_stayOrStepAside 56 = .ok (.aload_n 0, 1) := by decide +kernel
theorem dX7_stayOrStepAside_57 : decode cX7_stayOrStepAside 57 = .ok (.getfield 22, 3) := by decide +kernel
theorem dX7_stayOrStepAside_60 : decode cX7_stayOrStepAside 60 = .ok (.iload_n 1, 1) := by decide +kernel
theorem dX7_stayOrStepAside_61 : decode cX7_stayOrStepAside 61 = .ok (.iconst 3, 1) := by decide +kernel
theorem dX7_stayOrStepAside_62 : decode cX7_stayOrStepAside 62 = .ok (.invokevirtual 94, 3) := by decide +kernel
theorem dX7_stayOrStepAside_65 : decode cX7_stayOrStepAside 65 = .ok (.aload_n 0, 1) := by decide +kernel
theorem dX7_stayOrStepAside_66 : decode cX7_stayOrStepAside 66 = .ok (.getfield 22, 3) := by decide +kernel
theorem dX7_stayOrStepAside_69 : decode cX7_stayOrStepAside 69 = .ok (.getfield 123, 3) := by decide +kernel
theorem dX7_stayOrStepAside_72 : decode cX7_stayOrStepAside 72 = .ok (.iload_n 1, 1) := by decide +kernel
theorem dX7_stayOrStepAside_73 : decode cX7_stayOrStepAside 73 = .ok (.dup2, 1) := by decide +kernel
theorem dX7_stayOrStepAside_74 : decode cX7_stayOrStepAside 74 = .ok (.iaload, 1) := by decide +kernel
theorem dX7_stayOrStepAside_75 : decode cX7_stayOrStepAside 75 = .ok (.iconst 1, 1) := by decide +kernel
theorem dX7_stayOrStepAside_76 : decode cX7_stayOrStepAside 76 = .ok (.iadd, 1) := by decide +kernel
theorem dX7_stayOrStepAside_77 : decode cX7_stayOrStepAside 77 = .ok (.iastore, 1) := by decide +kernel
theorem dX7_stayOrStepAside_78 : decode cX7_stayOrStepAside 78 = .ok (.return_, 1) := by decide +kernel
theorem dX7_firstFree_0 : decode cX7_firstFree 0 = .ok (.iconst 0, 1) := by decide +kernel
theorem dX7_firstFree_1 : decode cX7_firstFree 1 = .ok (.istore_n 2, 1) := by decide +kernel
theorem dX7_firstFree_2 : decode cX7_firstFree 2 = .ok (.iload_n 2, 1) := by decide +kernel
theorem dX7_firstFree_3 : decode cX7_firstFree 3 = .ok (.iconst 4, 1) := by decide +kernel
theorem dX7_firstFree_4 : decode cX7_firstFree 4 = .ok (.if_icmp .ge 34, 3) := by decide +kernel
theorem dX7_firstFree_7 : decode cX7_firstFree 7 = .ok (.iload_n 1, 1) := by decide +kernel
theorem dX7_firstFree_8 : decode cX7_firstFree 8 = .ok (.iload_n 2, 1) := by decide +kernel
theorem dX7_firstFree_9 : decode cX7_firstFree 9 = .ok (.invokestatic 98, 3) := by decide +kernel
theorem dX7_firstFree_12 : decode cX7_firstFree 12 = .ok (.istore_n 3, 1) := by decide +kernel
theorem dX7_firstFree_13 : decode cX7_firstFree 13 = .ok (.iload_n 3, 1) := by decide +kernel
theorem dX7_firstFree_14 : decode cX7_firstFree 14 = .ok (.ifCond .lt 18, 3) := by decide +kernel
theorem dX7_firstFree_17 : decode cX7_firstFree 17 = .ok (.aload_n 0, 1) := by decide +kernel
theorem dX7_firstFree_18 : decode cX7_firstFree 18 = .ok (.getfield 22, 3) := by decide +kernel
theorem dX7_firstFree_21 : decode cX7_firstFree 21 = .ok (.getfield 87, 3) := by decide +kernel
theorem dX7_firstFree_24 : decode cX7_firstFree 24 = .ok (.iload_n 3, 1) := by decide +kernel
theorem dX7_firstFree_25 : decode cX7_firstFree 25 = .ok (.iaload, 1) := by decide +kernel
theorem dX7_firstFree_26 : decode cX7_firstFree 26 = .ok (.iconst (-1), 1) := by decide +kernel
theorem dX7_firstFree_27 : decode cX7_firstFree 27 = .ok (.if_icmp .ne 5, 3) := by decide +kernel
theorem dX7_firstFree_30 : decode cX7_firstFree 30 = .ok (.iload_n 3, 1) := by decide +kernel
theorem dX7_firstFree_31 : decode cX7_firstFree 31 = .ok (.ireturn, 1) := by decide +kernel
theorem dX7_firstFree_32 : decode cX7_firstFree 32 = .ok (.iinc 2 1, 3) := by decide +kernel
theorem dX7_firstFree_35 : decode cX7_firstFree 35 = .ok (.goto (-33), 3) := by decide +kernel
theorem dX7_firstFree_38 : decode cX7_firstFree 38 = .ok (.bipush (-5), 2) := by decide +kernel
theorem dX7_firstFree_40 : decode cX7_firstFree 40 = .ok (.ireturn, 1) := by decide +kernel
theorem dX8_init_0 : decode cX8_init 0 = .ok (.aload_n 0, 1) := by decide +kernel
theorem dX8_init_1 : decode cX8_init 1 = .ok (.invokespecial 3, 3) := by decide +kernel
theorem dX8_init_4 : decode cX8_init 4 = .ok (.aload_n 0, 1) := by decide +kernel
theorem dX8_init_5 : decode cX8_init 5 = .ok (.bipush 120, 2) := by decide +kernel
theorem dX8_init_7 : decode cX8_init 7 = .ok (.bipush 120, 2) := by decide +kernel
theorem dX8_init_9 : decode cX8_init 9 = .ok (.multianewarray 9 2, 4) := by decide +kernel
theorem dX8_init_13 : decode cX8_init 13 = .ok (.putfield 11, 3) := by decide +kernel
theorem dX8_init_16 : decode cX8_init 16 = .ok (.aload_n 0, 1) := by decide +kernel
theorem dX8_init_17 : decode cX8_init 17 = .ok (.bipush 120, 2) := by decide +kernel
theorem dX8_init_19 : decode cX8_init 19 = .ok (.newarray .boolean, 2) := by decide +kernel
theorem dX8_init_21 : decode cX8_init 21 = .ok (.putfield 16, 3) := by decide +kernel
theorem dX8_init_24 : decode cX8_init 24 = .ok (.aload_n 0, 1) := by decide +kernel
theorem dX8_init_25 : decode cX8_init 25 = .ok (.bipush 120, 2) := by decide +kernel
theorem dX8_init_27 : decode cX8_init 27 = .ok (.newarray .int, 2) := by decide +kernel
theorem dX8_init_29 : decode cX8_init 29 = .ok (.putfield 20, 3) := by decide +kernel
theorem dX8_init_32 : decode cX8_init 32 = .ok (.aload_n 0, 1) := by decide +kernel
theorem dX8_init_33 : decode cX8_init 33 = .ok (.aload_n 1, 1) := by decide +kernel
theorem dX8_init_34 : decode cX8_init 34 = .ok (.putfield 24, 3) := by decide +kernel
theorem dX8_init_37 : decode cX8_init 37 = .ok (.return_, 1) := by decide +kernel
theorem dX8_forget_0 : decode cX8_forget 0 = .ok (.iconst 0, 1) := by decide +kernel
theorem dX8_forget_1 : decode cX8_forget 1 = .ok (.istore_n 1, 1) := by decide +kernel
theorem dX8_forget_2 : decode cX8_forget 2 = .ok (.iload_n 1, 1) := by decide +kernel
theorem dX8_forget_3 : decode cX8_forget 3 = .ok (.bipush 120, 2) := by decide +kernel
theorem dX8_forget_5 : decode cX8_forget 5 = .ok (.if_icmp .ge 16, 3) := by decide +kernel
theorem dX8_forget_8 : decode cX8_forget 8 = .ok (.aload_n 0, 1) := by decide +kernel
theorem dX8_forget_9 : decode cX8_forget 9 = .ok (.getfield 16, 3) := by decide +kernel
theorem dX8_forget_12 : decode cX8_forget 12 = .ok (.iload_n 1, 1) := by decide +kernel
theorem dX8_forget_13 : decode cX8_forget 13 = .ok (.iconst 0, 1) := by decide +kernel
theorem dX8_forget_14 : decode cX8_forget 14 = .ok (.bastore, 1) := by decide +kernel
theorem dX8_forget_15 : decode cX8_forget 15 = .ok (.iinc 1 1, 3) := by decide +kernel
theorem dX8_forget_18 : decode cX8_forget 18 = .ok (.goto (-16), 3) := by decide +kernel
theorem dX8_forget_21 : decode cX8_forget 21 = .ok (.return_, 1) := by decide +kernel
theorem dX8_from_0 : decode cX8_from 0 = .ok (.aload_n 0, 1) := by decide +kernel
theorem dX8_from_1 : decode cX8_from 1 = .ok (.getfield 11, 3) := by decide +kernel
theorem dX8_from_4 : decode cX8_from 4 = .ok (.iload_n 1, 1) := by decide +kernel
theorem dX8_from_5 : decode cX8_from 5 = .ok (.aaload, 1) := by decide +kernel
theorem dX8_from_6 : decode cX8_from 6 = .ok (.astore_n 2, 1) := by decide +kernel
theorem dX8_from_7 : decode cX8_from 7 = .ok (.aload_n 0, 1) := by decide +kernel
theorem dX8_from_8 : decode cX8_from 8 = .ok (.getfield 16, 3) := by decide +kernel
theorem dX8_from_11 : decode cX8_from 11 = .ok (.iload_n 1, 1) := by decide +kernel
theorem dX8_from_12 : decode cX8_from 12 = .ok (.baload, 1) := by decide +kernel
theorem dX8_from_13 : decode cX8_from 13 = .ok (.ifCond .eq 5, 3) := by decide +kernel
theorem dX8_from_16 : decode cX8_from 16 = .ok (.aload_n 2, 1) := by decide +kernel
theorem dX8_from_17 : decode cX8_from 17 = .ok (.areturn, 1) := by decide +kernel
theorem dX8_from_18 : decode cX8_from 18 = .ok (.aload_n 0, 1) := by decide +kernel
theorem dX8_from_19 : decode cX8_from 19 = .ok (.getfield 16, 3) := by decide +kernel
theorem dX8_from_22 : decode cX8_from 22 = .ok (.iload_n 1, 1) := by decide +kernel
theorem dX8_from_23 : decode cX8_from 23 = .ok (.iconst 1, 1) := by decide +kernel
theorem dX8_from_24 : decode cX8_from 24 = .ok (.bastore, 1) := by decide +kernel
theorem dX8_from_25 : decode cX8_from 25 = .ok (.aload_n 2, 1) := by decide +kernel
theorem dX8_from_26 : decode cX8_from 26 = .ok (.bipush (-5), 2) := by decide +kernel
theorem dX8_from_28 : decode cX8_from 28 = .ok (.invokestatic 28, 3) := by decide +kernel
theorem dX8_from_31 : decode cX8_from 31 = .ok (.aload_n 0, 1) := by decide +kernel
theorem dX8_from_32 : decode cX8_from 32 = .ok (.getfield 24, 3) := by decide +kernel
theorem dX8_from_35 : decode cX8_from 35 = .ok (.getfield 34, 3) := by decide +kernel
theorem dX8_from_38 : decode cX8_from 38 = .ok (.iload_n 1, 1) := by decide +kernel
theorem dX8_from_39 : decode cX8_from 39 = .ok (.iaload, 1) := by decide +kernel
theorem dX8_from_40 : decode cX8_from 40 = .ok (.bipush (-2), 2) := by decide +kernel
theorem dX8_from_42 : decode cX8_from 42 = .ok (.if_icmp .ne 5, 3) := by decide +kernel
theorem dX8_from_45 : decode cX8_from 45 = .ok (.aload_n 2, 1) := by decide +kernel
theorem dX8_from_46 : decode cX8_from 46 = .ok (.areturn, 1) := by decide +kernel
theorem dX8_from_47 : decode cX8_from 47 = .ok (.aload_n 2, 1) := by decide +kernel
theorem dX8_from_48 : decode cX8_from 48 = .ok (.iload_n 1, 1) := by decide +kernel
theorem dX8_from_49 : decode cX8_from 49 = .ok (.iconst 0, 1) := by decide +kernel
theorem dX8_from_50 : decode cX8_from 50 = .ok (.iastore, 1) := by decide +kernel
theorem dX8_from_51 : decode cX8_from 51 = .ok (.aload_n 0, 1) := by decide +kernel
theorem dX8_from_52 : decode cX8_from 52 = .ok (.getfield 20, 3) := by decide +kernel
theorem dX8_from_55 : decode cX8_from 55 = .ok (.iconst 0, 1) := by decide +kernel
theorem dX8_from_56 : decode cX8_from 56 = .ok (.iload_n 1, 1) := by decide +kernel
theorem dX8_from_57 : decode cX8_from 57 = .ok (.iastore, 1) := by decide +kernel
theorem dX8_from_58 : decode cX8_from 58 = .ok (.iconst 1, 1) := by decide +kernel
theorem dX8_from_59 : decode cX8_from 59 = .ok (.istore_n 3, 1) := by decide +kernel
theorem dX8_from_60 : decode cX8_from 60 = .ok (.iconst 0, 1) := by decide +kernel
theorem dX8_from_61 : decode cX8_from 61 = .ok (.istore 4, 2) := by decide +kernel
theorem dX8_from_63 : decode cX8_from 63 = .ok (.iload 4, 2) := by decide +kernel
theorem dX8_from_65 : decode cX8_from 65 = .ok (.iload_n 3, 1) := by decide +kernel
theorem dX8_from_66 : decode cX8_from 66 = .ok (.if_icmp .ge 97, 3) := by decide +kernel
theorem dX8_from_69 : decode cX8_from 69 = .ok (.iload 4, 2) := by decide +kernel
theorem dX8_from_71 : decode cX8_from 71 = .ok (.bipush 120, 2) := by decide +kernel
theorem dX8_from_73 : decode cX8_from 73 = .ok (.if_icmp .ge 90, 3) := by decide +kernel
theorem dX8_from_76 : decode cX8_from 76 = .ok (.aload_n 0, 1) := by decide +kernel
theorem dX8_from_77 : decode cX8_from 77 = .ok (.getfield 20, 3) := by decide +kernel
theorem dX8_from_80 : decode cX8_from 80 = .ok (.iload 4, 2) := by decide +kernel
theorem dX8_from_82 : decode cX8_from 82 = .ok (.iaload, 1) := by decide +kernel
theorem dX8_from_83 : decode cX8_from 83 = .ok (.istore 5, 2) := by decide +kernel
theorem dX8_from_85 : decode cX8_from 85 = .ok (.iconst 0, 1) := by decide +kernel
theorem dX8_from_86 : decode cX8_from 86 = .ok (.istore 6, 2) := by decide +kernel
theorem dX8_from_88 : decode cX8_from 88 = .ok (.iload 6, 2) := by decide +kernel
theorem dX8_from_90 : decode cX8_from 90 = .ok (.iconst 4, 1) := by decide +kernel
theorem dX8_from_91 : decode cX8_from 91 = .ok (.if_icmp .ge 66, 3) := by decide +kernel
theorem dX8_from_94 : decode cX8_from 94 = .ok (.iload 5, 2) := by decide +kernel
theorem dX8_from_96 : decode cX8_from 96 = .ok (.iload 6, 2) := by decide +kernel
theorem dX8_from_98 : decode cX8_from 98 = .ok (.invokestatic 39, 3) := by decide +kernel
theorem dX8_from_101 : decode cX8_from 101 = .ok (.istore 7, 2) := by decide +kernel
theorem dX8_from_103 : decode cX8_from 103 = .ok (.iload 7, 2) := by decide +kernel
theorem dX8_from_105 : decode cX8_from 105 = .ok (.ifCond .lt 46, 3) := by decide +kernel
theorem dX8_from_108 : decode cX8_from 108 = .ok (.aload_n 2, 1) := by decide +kernel
theorem dX8_from_109 : decode cX8_from 109 = .ok (.iload 7, 2) := by decide +kernel
theorem dX8_from_111 : decode cX8_from 111 = .ok (.iaload, 1) := by decide +kernel
theorem dX8_from_112 : decode cX8_from 112 = .ok (.ifCond .ge 39, 3) := by decide +kernel
theorem dX8_from_115 : decode cX8_from 115 = .ok (.aload_n 0, 1) := by decide +kernel
theorem dX8_from_116 : decode cX8_from 116 = .ok (.getfield 24, 3) := by decide +kernel
theorem dX8_from_119 : decode cX8_from 119 = .ok (.getfield 34, 3) := by decide +kernel
theorem dX8_from_122 : decode cX8_from 122 = .ok (.iload 7, 2) := by decide +kernel
theorem dX8_from_124 : decode cX8_from 124 = .ok (.iaload, 1) := by decide +kernel
theorem dX8_from_125 : decode cX8_from 125 = .ok (.bipush (-2), 2) := by decide +kernel
theorem dX8_from_127 : decode cX8_from 127 = .ok (.if_icmp .eq 24, 3) := by decide +kernel
theorem dX8_from_130 : decode cX8_from 130 = .ok (.aload_n 2, 1) := by decide +kernel
theorem dX8_from_131 : decode cX8_from 131 = .ok (.iload 7, 2) := by decide +kernel
theorem dX8_from_133 : decode cX8_from 133 = .ok (.aload_n 2, 1) := by decide +kernel
theorem dX8_from_134 : decode cX8_from 134 = .ok (.iload 5, 2) := by decide +kernel
theorem dX8_from_136 : decode cX8_from 136 = .ok (.iaload, 1) := by decide +kernel
theorem dX8_from_137 : decode cX8_from 137 = .ok (.iconst 1, 1) := by decide +kernel
theorem dX8_from_138 : decode cX8_from 138 = .ok (.iadd, 1) := by decide +kernel
theorem dX8_from_139 : decode cX8_from 139 = .ok (.iastore, 1) := by decide +kernel
theorem dX8_from_140 : decode cX8_from 140 = .ok (.aload_n 0, 1) := by decide +kernel
theorem dX8_from_141 : decode cX8_from 141 = .ok (.getfield 20, 3) := by decide +kernel
theorem dX8_from_144 : decode cX8_from 144 = .ok (.iload_n 3, 1) := by decide +kernel
theorem dX8_from_145 : decode cX8_from 145 = .ok (.iload 7, 2) := by decide +kernel
theorem dX8_from_147 : decode cX8_from 147 = .ok (.iastore, 1) := by decide +kernel
theorem dX8_from_148 : decode cX8_from 148 = .ok (.iinc 3 1, 3) := by decide +kernel
theorem dX8_from_151 : decode cX8_from 151 = .ok (.iinc 6 1, 3) := by decide +kernel
theorem dX8_from_154 : decode cX8_from 154 = .ok (.goto (-66), 3) := by decide +kernel
theorem dX8_from_157 : decode cX8_from 157 = .ok (.iinc 4 1, 3) := by decide +kernel
theorem dX8_from_160 : decode cX8_from 160 = .ok (.goto (-97), 3) := by decide +kernel
theorem dX8_from_163 : decode cX8_from 163 = .ok (.aload_n 2, 1) := by decide +kernel
theorem dX8_from_164 : decode cX8_from 164 = .ok (.areturn, 1) := by decide +kernel
theorem dX9_init_0 : decode cX9_init 0 = .ok (.aload_n 0, 1) := by decide +kernel
theorem dX9_init_1 : decode cX9_init 1 = .ok (.invokespecial 3, 3) := by decide +kernel
theorem dX9_init_4 : decode cX9_init 4 = .ok (.aload_n 0, 1) := by decide +kernel
theorem dX9_init_5 : decode cX9_init 5 = .ok (.bipush 120, 2) := by decide +kernel
theorem dX9_init_7 : decode cX9_init 7 = .ok (.newarray .int, 2) := by decide +kernel
theorem dX9_init_9 : decode cX9_init 9 = .ok (.putfield 9, 3) := by decide +kernel
theorem dX9_init_12 : decode cX9_init 12 = .ok (.aload_n 0, 1) := by decide +kernel
theorem dX9_init_13 : decode cX9_init 13 = .ok (.bipush 10, 2) := by decide +kernel
theorem dX9_init_15 : decode cX9_init 15 = .ok (.newarray .int, 2) := by decide +kernel
theorem dX9_init_17 : decode cX9_init 17 = .ok (.putfield 15, 3) := by decide +kernel
theorem dX9_init_20 : decode cX9_init 20 = .ok (.aload_n 0, 1) := by decide +kernel
theorem dX9_init_21 : decode cX9_init 21 = .ok (.bipush 10, 2) := by decide +kernel
theorem dX9_init_23 : decode cX9_init 23 = .ok (.newarray .int, 2) := by decide +kernel
theorem dX9_init_25 : decode cX9_init 25 = .ok (.putfield 18, 3) := by decide +kernel
theorem dX9_init_28 : decode cX9_init 28 = .ok (.aload_n 0, 1) := by decide +kernel
theorem dX9_init_29 : decode cX9_init 29 = .ok (.bipush 10, 2) := by decide +kernel
theorem dX9_init_31 : decode cX9_init 31 = .ok (.newarray .int, 2) := by decide +kernel
theorem dX9_init_33 : decode cX9_init 33 = .ok (.putfield 21, 3) := by decide +kernel
theorem dX9_init_36 : decode cX9_init 36 = .ok (.aload_n 0, 1) := by decide +kernel
theorem dX9_init_37 : decode cX9_init 37 = .ok (.bipush 10, 2) := by decide +kernel
theorem dX9_init_39 : decode cX9_init 39 = .ok (.newarray .int, 2) := by decide +kernel
theorem dX9_init_41 : decode cX9_init 41 = .ok (.putfield 24, 3) := by decide +kernel
theorem dX9_init_44 : decode cX9_init 44 = .ok (.aload_n 0, 1) := by decide +kernel
theorem dX9_init_45 : decode cX9_init 45 = .ok (.bipush 10, 2) := by decide +kernel
theorem dX9_init_47 : decode cX9_init 47 = .ok (.newarray .int, 2) := by decide +kernel
theorem dX9_init_49 : decode cX9_init 49 = .ok (.putfield 27, 3) := by decide +kernel
theorem dX9_init_52 : decode cX9_init 52 = .ok (.aload_n 0, 1) := by decide +kernel
theorem dX9_init_53 : decode cX9_init 53 = .ok (.bipush 10, 2) := by decide +kernel
theorem dX9_init_55 : decode cX9_init 55 = .ok (.newarray .int, 2) := by decide +kernel
theorem dX9_init_57 : decode cX9_init 57 = .ok (.putfield 30, 3) := by decide +kernel
theorem dX9_init_60 : decode cX9_init 60 = .ok (.aload_n 0, 1) := by decide +kernel
theorem dX9_init_61 : decode cX9_init 61 = .ok (.bipush 8, 2) := by decide +kernel
theorem dX9_init_63 : decode cX9_init 63 = .ok (.newarray .int, 2) := by decide +kernel
theorem dX9_init_65 : decode cX9_init 65 = .ok (.putfield 33, 3) := by decide +kernel
theorem dX9_init_68 : decode cX9_init 68 = .ok (.aload_n 0, 1) := by decide +kernel
theorem dX9_init_69 : decode cX9_init 69 = .ok (.iconst 3, 1) := by decide +kernel
theorem dX9_init_70 : decode cX9_init 70 = .ok (.anewarray 36, 3) := by decide +kernel
theorem dX9_init_73 : decode cX9_init 73 = .ok (.putfield 38, 3) := by decide +kernel
theorem dX9_init_76 : decode cX9_init 76 = .ok (.aload_n 0, 1) := by decide +kernel
theorem dX9_init_77 : decode cX9_init 77 = .ok (.bipush (-5), 2) := by decide +kernel
theorem dX9_init_79 : decode cX9_init 79 = .ok (.putfield 42, 3) := by decide +kernel
theorem dX9_init_82 : decode cX9_init 82 = .ok (.aload_n 0, 1) := by decide +kernel
theorem dX9_init_83 : decode cX9_init 83 = .ok (.bipush (-5), 2) := by decide +kernel
theorem dX9_init_85 : decode cX9_init 85 = .ok (.putfield 46, 3) := by decide +kernel
theorem dX9_init_88 : decode cX9_init 88 = .ok (.aload_n 0, 1) := by decide +kernel
theorem dX9_init_89 : decode cX9_init 89 = .ok (.iconst 0, 1) := by decide +kernel
theorem dX9_init_90 : decode cX9_init 90 = .ok (.putfield 49, 3) := by decide +kernel
theorem dX9_init_93 : decode cX9_init 93 = .ok (.aload_n 0, 1) := by decide +kernel
theorem dX9_init_94 : decode cX9_init 94 = .ok (.getfield 9, 3) := by decide +kernel
theorem dX9_init_97 : decode cX9_init 97 = .ok (.iconst (-1), 1) := by decide +kernel
theorem dX9_init_98 : decode cX9_init 98 = .ok (.invokestatic 52, 3) := by decide +kernel
theorem dX9_init_101 : decode cX9_init 101 = .ok (.aload_n 0, 1) := by decide +kernel
theorem dX9_init_102 : decode cX9_init 102 = .ok (.getfield 15, 3) := by decide +kernel
theorem dX9_init_105 : decode cX9_init 105 = .ok (.bipush (-5), 2) := by decide +kernel
theorem dX9_init_107 : decode cX9_init 107 = .ok (.invokestatic 52, 3) := by decide +kernel
theorem dX9_init_110 : decode cX9_init 110 = .ok (.aload_n 0, 1) := by decide +kernel
theorem dX9_init_111 : decode cX9_init 111 = .ok (.getfield 18, 3) := by decide +kernel
theorem dX9_init_114 : decode cX9_init 114 = .ok (.bipush (-5), 2) := by decide +kernel
theorem dX9_init_116 : decode cX9_init 116 = .ok (.invokestatic 52, 3) := by decide +kernel
theorem dX9_init_119 : decode cX9_init 119 = .ok (.iconst 0, 1) := by decide +kernel
theorem dX9_init_120 : decode cX9_init 120 = .ok (.istore_n 1, 1) := by decide +kernel
theorem dX9_init_121 : decode cX9_init 121 = .ok (.iload_n 1, 1) := by decide +kernel
theorem dX9_init_122 : decode cX9_init 122 = .ok (.iconst 3, 1) := by decide +kernel
theorem dX9_init_123 : decode cX9_init 123 = .ok (.if_icmp .ge 22, 3) := by decide +kernel
theorem dX9_init_126 : decode cX9_init 126 = .ok (.aload_n 0, 1) := by decide +kernel
theorem dX9_init_127 : decode cX9_init 127 = .ok (.getfield 38, 3) := by decide +kernel
theorem dX9_init_130 : decode cX9_init 130 = .ok (.iload_n 1, 1) := by decide +kernel
theorem dX9_init_131 : decode cX9_init 131 = .ok (.new 36, 3) := by decide +kernel
theorem dX9_init_134 : decode cX9_init 134 = .ok (.dup, 1) := by decide +kernel
theorem dX9_init_135 : decode cX9_init 135 = .ok (.invokespecial 58, 3) := by decide +kernel
theorem dX9_init_138 : decode cX9_init 138 = .ok (.aastore, 1) := by decide +kernel
theorem dX9_init_139 : decode cX9_init 139 = .ok (.iinc 1 1, 3) := by decide +kernel
theorem dX9_init_142 : decode cX9_init 142 = .ok (.goto (-21), 3) := by decide +kernel
theorem dX9_init_145 : decode cX9_init 145 = .ok (.return_, 1) := by decide +kernel
theorem dX9_copyFrom_0 : decode cX9_copyFrom 0 = .ok (.aload_n 1, 1) := by decide +kernel
theorem dX9_copyFrom_1 : decode cX9_copyFrom 1 = .ok (.getfield 9, 3) := by decide +kernel
theorem dX9_copyFrom_4 : decode cX9_copyFrom 4 = .ok (.iconst 0, 1) := by decide +kernel
theorem dX9_copyFrom_5 : decode cX9_copyFrom 5 = .ok (.aload_n 0, 1) := by decide +kernel
theorem dX9_copyFrom_6 : decode cX9_copyFrom 6 = .ok (.getfield 9, 3) := by decide +kernel
theorem dX9_copyFrom_9 : decode cX9_copyFrom 9 = .ok (.iconst 0, 1) := by decide +kernel
theorem dX9_copyFrom_10 : decode cX9_copyFrom 10 = .ok (.bipush 120, 2) := by decide +kernel
theorem dX9_copyFrom_12 : decode cX9_copyFrom 12 = .ok (.invokestatic 59, 3) := by decide +kernel
theorem dX9_copyFrom_15 : decode cX9_copyFrom 15 = .ok (.aload_n 1, 1) := by decide +kernel
theorem dX9_copyFrom_16 : decode cX9_copyFrom 16 = .ok (.getfield 15, 3) := by decide +kernel
theorem dX9_copyFrom_19 : decode cX9_copyFrom 19 = .ok (.iconst 0, 1) := by decide +kernel
theorem dX9_copyFrom_20 : decode cX9_copyFrom 20 = .ok (.aload_n 0, 1) := by decide +kernel
theorem dX9_copyFrom_21 : decode cX9_copyFrom 21 = .ok (.getfield 15, 3) := by decide +kernel
theorem dX9_copyFrom_24 : decode cX9_copyFrom 24 = .ok (.iconst 0, 1) := by decide +kernel
theorem dX9_copyFrom_25 : decode cX9_copyFrom 25 = .ok (.bipush 10, 2) := by decide +kernel
theorem dX9_copyFrom_27 : decode cX9_copyFrom 27 = .ok (.invokestatic 59, 3) := by decide +kernel
theorem dX9_copyFrom_30 : decode cX9_copyFrom 30 = .ok (.aload_n 1, 1) := by decide +kernel
theorem dX9_copyFrom_31 : decode cX9_copyFrom 31 = .ok (.getfield 18, 3) := by decide +kernel
theorem dX9_copyFrom_34 : decode cX9_copyFrom 34 = .ok (.iconst 0, 1) := by decide +kernel
theorem dX9_copyFrom_35 : decode cX9_copyFrom 35 = .ok (.aload_n 0, 1) := by decide +kernel
theorem dX9_copyFrom_36 : decode cX9_copyFrom 36 = .ok (.getfield 18, 3) := by decide +kernel
theorem dX9_copyFrom_39 : decode cX9_copyFrom 39 = .ok (.iconst 0, 1) := by decide +kernel
theorem dX9_copyFrom_40 : decode cX9_copyFrom 40 = .ok (.bipush 10, 2) := by decide +kernel
theorem dX9_copyFrom_42 : decode cX9_copyFrom 42 = .ok (.invokestatic 59, 3) := by decide +kernel
theorem dX9_copyFrom_45 : decode cX9_copyFrom 45 = .ok (.aload_n 1, 1) := by decide +kernel
theorem dX9_copyFrom_46 : decode cX9_copyFrom 46 = .ok (.getfield 21, 3) := by decide +kernel
theorem dX9_copyFrom_49 : decode cX9_copyFrom 49 = .ok (.iconst 0, 1) := by decide +kernel
theorem dX9_copyFrom_50 : decode cX9_copyFrom 50 = .ok (.aload_n 0, 1) := by decide +kernel
theorem dX9_copyFrom_51 : decode cX9_copyFrom 51 = .ok (.getfield 21, 3) := by decide +kernel
theorem dX9_copyFrom_54 : decode cX9_copyFrom 54 = .ok (.iconst 0, 1) := by decide +kernel
theorem dX9_copyFrom_55 : decode cX9_copyFrom 55 = .ok (.bipush 10, 2) := by decide +kernel
theorem dX9_copyFrom_57 : decode cX9_copyFrom 57 = .ok (.invokestatic 59, 3) := by decide +kernel
theorem dX9_copyFrom_60 : decode cX9_copyFrom 60 = .ok (.aload_n 1, 1) := by decide +kernel
theorem dX9_copyFrom_61 : decode cX9_copyFrom 61 = .ok (.getfield 24, 3) := by decide +kernel
theorem dX9_copyFrom_64 : decode cX9_copyFrom 64 = .ok (.iconst 0, 1) := by decide +kernel
theorem dX9_copyFrom_65 : decode cX9_copyFrom 65 = .ok (.aload_n 0, 1) := by decide +kernel
theorem dX9_copyFrom_66 : decode cX9_copyFrom 66 = .ok (.getfield 24, 3) := by decide +kernel
theorem dX9_copyFrom_69 : decode cX9_copyFrom 69 = .ok (.iconst 0, 1) := by decide +kernel
theorem dX9_copyFrom_70 : decode cX9_copyFrom 70 = .ok (.bipush 10, 2) := by decide +kernel
theorem dX9_copyFrom_72 : decode cX9_copyFrom 72 = .ok (.invokestatic 59, 3) := by decide +kernel
theorem dX9_copyFrom_75 : decode cX9_copyFrom 75 = .ok (.aload_n 1, 1) := by decide +kernel
theorem dX9_copyFrom_76 : decode cX9_copyFrom 76 = .ok (.getfield 27, 3) := by decide +kernel
theorem dX9_copyFrom_79 : decode cX9_copyFrom 79 = .ok (.iconst 0, 1) := by decide +kernel
theorem dX9_copyFrom_80 : decode cX9_copyFrom 80 = .ok (.aload_n 0, 1) := by decide +kernel
theorem dX9_copyFrom_81 : decode cX9_copyFrom 81 = .ok (.getfield 27, 3) := by decide +kernel
theorem dX9_copyFrom_84 : decode cX9_copyFrom 84 = .ok (.iconst 0, 1) := by decide +kernel
theorem dX9_copyFrom_85 : decode cX9_copyFrom 85 = .ok (.bipush 10, 2) := by decide +kernel
theorem dX9_copyFrom_87 : decode cX9_copyFrom 87 = .ok (.invokestatic 59, 3) := by decide +kernel
theorem dX9_copyFrom_90 : decode cX9_copyFrom 90 = .ok (.aload_n 1, 1) := by decide +kernel
theorem dX9_copyFrom_91 : decode cX9_copyFrom 91 = .ok (.getfield 30, 3) := by decide +kernel
theorem dX9_copyFrom_94 : decode cX9_copyFrom 94 = .ok (.iconst 0, 1) := by decide +kernel
theorem dX9_copyFrom_95 : decode cX9_copyFrom 95 = .ok (.aload_n 0, 1) := by decide +kernel
theorem dX9_copyFrom_96 : decode cX9_copyFrom 96 = .ok (.getfield 30, 3) := by decide +kernel
theorem dX9_copyFrom_99 : decode cX9_copyFrom 99 = .ok (.iconst 0, 1) := by decide +kernel
theorem dX9_copyFrom_100 : decode cX9_copyFrom 100 = .ok (.bipush 10, 2) := by decide +kernel
theorem dX9_copyFrom_102 : decode cX9_copyFrom 102 = .ok (.invokestatic 59, 3) := by decide +kernel
theorem dX9_copyFrom_105 : decode cX9_copyFrom 105 = .ok (.aload_n 1, 1) := by decide +kernel
theorem dX9_copyFrom_106 : decode cX9_copyFrom 106 = .ok (.getfield 33, 3) := by decide +kernel
theorem dX9_copyFrom_109 : decode cX9_copyFrom 109 = .ok (.iconst 0, 1) := by decide +kernel
theorem dX9_copyFrom_110 : decode cX9_copyFrom 110 = .ok (.aload_n 0, 1) := by decide +kernel
theorem dX9_copyFrom_111 : decode cX9_copyFrom 111 = .ok (.getfield 33, 3) := by decide +kernel
theorem dX9_copyFrom_114 : decode cX9_copyFrom 114 = .ok (.iconst 0, 1) := by decide +kernel
theorem dX9_copyFrom_115 : decode cX9_copyFrom 115 = .ok (.bipush 8, 2) := by decide +kernel
theorem dX9_copyFrom_117 : decode cX9_copyFrom 117 = .ok (.invokestatic 59, 3) := by decide +kernel
theorem dX9_copyFrom_120 : decode cX9_copyFrom 120 = .ok (.iconst 0, 1) := by decide +kernel
theorem dX9_copyFrom_121 : decode cX9_copyFrom 121 = .ok (.istore_n 2, 1) := by decide +kernel
theorem dX9_copyFrom_122 : decode cX9_copyFrom 122 = .ok (.iload_n 2, 1) := by decide +kernel
theorem dX9_copyFrom_123 : decode cX9_copyFrom 123 = .ok (.iconst 3, 1) := by decide +kernel
theorem dX9_copyFrom_124 : decode cX9_copyFrom 124 = .ok (.if_icmp .ge 24, 3) := by decide +kernel
theorem dX9_copyFrom_127 : decode cX9_copyFrom 127 = .ok (.aload_n 0, 1) := by decide +kernel
theorem dX9_copyFrom_128 : decode cX9_copyFrom 128 = .ok (.getfield 38, 3) := by decide +kernel
theorem dX9_copyFrom_131 : decode cX9_copyFrom 131 = .ok (.iload_n 2, 1) := by decide +kernel
theorem dX9_copyFrom_132 : decode cX9_copyFrom 132 = .ok (.aaload, 1) := by decide +kernel
theorem dX9_copyFrom_133 : decode cX9_copyFrom 133 = .ok (.aload_n 1, 1) := by decide +kernel
theorem dX9_copyFrom_134 : decode cX9_copyFrom 134 = .ok (.getfield 38, 3) := by decide +kernel
theorem dX9_copyFrom_137 : decode cX9_copyFrom 137 = .ok (.iload_n 2, 1) := by decide +kernel
theorem dX9_copyFrom_138 : decode cX9_copyFrom 138 = .ok (.aaload, 1) := by decide +kernel
theorem dX9_copyFrom_139 : decode cX9_copyFrom 139 = .ok (.invokevirtual 65, 3) := by decide +kernel
theorem dX9_copyFrom_142 : decode cX9_copyFrom 142 = .ok (.iinc 2 1, 3) := by decide +kernel
theorem dX9_copyFrom_145 : decode cX9_copyFrom 145 = .ok (.goto (-23), 3) := by decide +kernel
theorem dX9_copyFrom_148 : decode cX9_copyFrom 148 = .ok (.aload_n 0, 1) := by decide +kernel
theorem dX9_copyFrom_149 : decode cX9_copyFrom 149 = .ok (.aload_n 1, 1) := by decide +kernel
theorem dX9_copyFrom_150 : decode cX9_copyFrom 150 = .ok (.getfield 42, 3) := by decide +kernel
theorem dX9_copyFrom_153 : decode cX9_copyFrom 153 = .ok (.putfield 42, 3) := by decide +kernel
theorem dX9_copyFrom_156 : decode cX9_copyFrom 156 = .ok (.aload_n 0, 1) := by decide +kernel
theorem dX9_copyFrom_157 : decode cX9_copyFrom 157 = .ok (.aload_n 1, 1) := by decide +kernel
theorem dX9_copyFrom_158 : decode cX9_copyFrom 158 = .ok (.getfield 46, 3) := by decide +kernel
theorem dX9_copyFrom_161 : decode cX9_copyFrom 161 = .ok (.putfield 46, 3) := by decide +kernel
theorem dX9_copyFrom_164 : decode cX9_copyFrom 164 = .ok (.aload_n 0, 1) := by decide +kernel
theorem dX9_copyFrom_165 : decode cX9_copyFrom 165 = .ok (.aload_n 1, 1) := by decide +kernel
theorem dX9_copyFrom_166 : decode cX9_copyFrom 166 = .ok (.getfield 49, 3) := by decide +kernel
theorem dX9_copyFrom_169 : decode cX9_copyFrom 169 = .ok (.putfield 49, 3) := by decide +kernel
theorem dX9_copyFrom_172 : decode cX9_copyFrom 172 = .ok (.return_, 1) := by decide +kernel
theorem dX9_living_0 : decode cX9_living 0 = .ok (.aload_n 0, 1) := by decide +kernel
theorem dX9_living_1 : decode cX9_living 1 = .ok (.getfield 33, 3) := by decide +kernel
theorem dX9_living_4 : decode cX9_living 4 = .ok (.bipush 7, 2) := by decide +kernel
theorem dX9_living_6 : decode cX9_living 6 = .ok (.iaload, 1) := by decide +kernel
theorem dX9_living_7 : decode cX9_living 7 = .ok (.aload_n 0, 1) := by decide +kernel
theorem dX9_living_8 : decode cX9_living 8 = .ok (.getfield 33, 3) := by decide +kernel
theorem dX9_living_11 : decode cX9_living 11 = .ok (.iconst 5, 1) := by decide +kernel
theorem dX9_living_12 : decode cX9_living 12 = .ok (.iaload, 1) := by decide +kernel
theorem dX9_living_13 : decode cX9_living 13 = .ok (.isub, 1) := by decide +kernel
theorem dX9_living_14 : decode cX9_living 14 = .ok (.ireturn, 1) := by decide +kernel
theorem dX9_hasMember_0 : decode cX9_hasMember 0 = .ok (.iload_n 1, 1) := by decide +kernel
theorem dX9_hasMember_1 : decode cX9_hasMember 1 = .ok (.ifCond .lt 22, 3) := by decide +kernel
theorem dX9_hasMember_4 : decode cX9_hasMember 4 = .ok (.iload_n 1, 1) := by decide +kernel
theorem dX9_hasMember_5 : decode cX9_hasMember 5 = .ok (.bipush 10, 2) := by decide +kernel
theorem dX9_hasMember_7 : decode cX9_hasMember 7 = .ok (.if_icmp .ge 16, 3) := by decide +kernel
theorem dX9_hasMember_10 : decode cX9_hasMember 10 = .ok (.aload_n 0, 1) := by decide +kernel
theorem dX9_hasMember_11 : decode cX9_hasMember 11 = .ok (.getfield 15, 3) := by decide +kernel
theorem dX9_hasMember_14 : decode cX9_hasMember 14 = .ok (.iload_n 1, 1) := by decide +kernel
theorem dX9_hasMember_15 : decode cX9_hasMember 15 = .ok (.iaload, 1) := by decide +kernel
theorem dX9_hasMember_16 : decode cX9_hasMember 16 = .ok (.ifCond .lt 7, 3) := by decide +kernel
theorem dX9_hasMember_19 : decode cX9_hasMember 19 = .ok (.iconst 1, 1) := by decide +kernel
theorem dX9_hasMember_20 : decode cX9_hasMember 20 = .ok (.goto 4, 3) := by decide +kernel
theorem dX9_hasMember_23 : decode cX9_hasMember 23 = .ok (.iconst 0, 1) := by decide +kernel
theorem dX9_hasMember_24 : decode cX9_hasMember 24 = .ok (.ireturn, 1) := by decide +kernel
theorem dX9_leader_0 : decode cX9_leader 0 = .ok (.aload_n 0, 1) := by decide +kernel
theorem dX9_leader_1 : decode cX9_leader 1 = .ok (.aload_n 0, 1) := by decide +kernel
theorem dX9_leader_2 : decode cX9_leader 2 = .ok (.getfield 42, 3) := by decide +kernel
theorem dX9_leader_5 : decode cX9_leader 5 = .ok (.invokevirtual 69, 3) := by decide +kernel
theorem dX9_leader_8 : decode cX9_leader 8 = .ok (.ifCond .eq 8, 3) := by decide +kernel
theorem dX9_leader_11 : decode cX9_leader 11 = .ok (.aload_n 0, 1) := by decide +kernel
theorem dX9_leader_12 : decode cX9_leader 12 = .ok (.getfield 42, 3) := by decide +kernel
theorem dX9_leader_15 : decode cX9_leader 15 = .ok (.ireturn, 1) := by decide +kernel
theorem dX9_leader_16 : decode cX9_leader 16 = .ok (.iconst 0, 1) := by decide +kernel
theorem dX9_leader_17 : decode cX9_leader 17 = .ok (.istore_n 1, 1) := by decide +kernel
theorem dX9_leader_18 : decode cX9_leader 18 = .ok (.iload_n 1, 1) := by decide +kernel
theorem dX9_leader_19 : decode cX9_leader 19 = .ok (.bipush 10, 2) := by decide +kernel
theorem dX9_leader_21 : decode cX9_leader 21 = .ok (.if_icmp .ge 19, 3) := by decide +kernel
theorem dX9_leader_24 : decode cX9_leader 24 = .ok (.aload_n 0, 1) := by decide +kernel
theorem dX9_leader_25 : decode cX9_leader 25 = .ok (.iload_n 1, 1) := by decide +kernel
theorem dX9_leader_26 : decode cX9_leader 26 = .ok (.invokevirtual 69, 3) := by decide +kernel
theorem dX9_leader_29 : decode cX9_leader 29 = .ok (.ifCond .eq 5, 3) := by decide +kernel
theorem dX9_leader_32 : decode cX9_leader 32 = .ok (.iload_n 1, 1) := by decide +kernel
theorem dX9_leader_33 : decode cX9_leader 33 = .ok (.ireturn, 1) := by decide +kernel
theorem dX9_leader_34 : decode cX9_leader 34 = .ok (.iinc 1 1, 3) := by decide +kernel
theorem dX9_leader_37 : decode cX9_leader 37 = .ok (.goto (-19), 3) := by decide +kernel
theorem dX9_leader_40 : decode cX9_leader 40 = .ok (.bipush (-5), 2) := by decide +kernel
theorem dX9_leader_42 : decode cX9_leader 42 = .ok (.ireturn, 1) := by decide +kernel
theorem dX9_presentShape_0 : decode cX9_presentShape 0 = .ok (.aload_n 0, 1) := by decide +kernel
theorem dX9_presentShape_1 : decode cX9_presentShape 1 = .ok (.getfield 38, 3) := by decide +kernel
theorem dX9_presentShape_4 : decode cX9_presentShape 4 = .ok (.aload_n 0, 1) := by decide +kernel
theorem dX9_presentShape_5 : decode cX9_presentShape 5 = .ok (.getfield 49, 3) := by decide +kernel
theorem dX9_presentShape_8 : decode cX9_presentShape 8 = .ok (.aaload, 1) := by decide +kernel
theorem dX9_presentShape_9 : decode cX9_presentShape 9 = .ok (.areturn, 1) := by decide +kernel
theorem dX9_shapeSet_0 : decode cX9_shapeSet 0 = .ok (.iconst 0, 1) := by decide +kernel
theorem dX9_shapeSet_1 : decode cX9_shapeSet 1 = .ok (.istore_n 1, 1) := by decide +kernel
theorem dX9_shapeSet_2 : decode cX9_shapeSet 2 = .ok (.iconst 0, 1) := by decide +kernel
theorem dX9_shapeSet_3 : decode cX9_shapeSet 3 = .ok (.istore_n 2, 1) := by decide +kernel
theorem dX9_shapeSet_4 : decode cX9_shapeSet 4 = .ok (.iload_n 2, 1) := by decide +kernel
theorem dX9_shapeSet_5 : decode cX9_shapeSet 5 = .ok (.iconst 3, 1) := by decide +kernel
theorem dX9_shapeSet_6 : decode cX9_shapeSet 6 = .ok (.if_icmp .ge 27, 3) := by decide +kernel
theorem dX9_shapeSet_9 : decode cX9_shapeSet 9 = .ok (.aload_n 0, 1) := by decide +kernel
theorem dX9_shapeSet_10 : decode cX9_shapeSet 10 = .ok (.getfield 38, 3) := by decide +kernel
theorem dX9_shapeSet_13 : decode cX9_shapeSet 13 = .ok (.iload_n 2, 1) := by decide +kernel
theorem dX9_shapeSet_14 : decode cX9_shapeSet 14 = .ok (.aaload, 1) := by decide +kernel
theorem dX9_shapeSet_15 : decode cX9_shapeSet 15 = .ok (.getfield 73, 3) := by decide +kernel
theorem dX9_shapeSet_18 : decode cX9_shapeSet 18 = .ok (.ifCond .le 9, 3) := by decide +kernel
theorem dX9_shapeSet_21 : decode cX9_shapeSet 21 = .ok (.iload_n 1, 1) := by decide +kernel
theorem dX9_shapeSet_22 : decode cX9_shapeSet 22 = .ok (.iconst 1, 1) := by decide +kernel
theorem dX9_shapeSet_23 : decode cX9_shapeSet 23 = .ok (.iload_n 2, 1) := by decide +kernel
theorem dX9_shapeSet_24 : decode cX9_shapeSet 24 = .ok (.ishl, 1) := by decide +kernel
theorem dX9_shapeSet_25 : decode cX9_shapeSet 25 = .ok (.ior, 1) := by decide +kernel
theorem dX9_shapeSet_26 : decode cX9_shapeSet 26 = .ok (.istore_n 1, 1) := by decide +kernel
theorem dX9_shapeSet_27 : decode cX9_shapeSet 27 = .ok (.iinc 2 1, 3) := by decide +kernel
theorem dX9_shapeSet_30 : decode cX9_shapeSet 30 = .ok (.goto (-26), 3) := by decide +kernel
theorem dX9_shapeSet_33 : decode cX9_shapeSet 33 = .ok (.iload_n 1, 1) := by decide +kernel
theorem dX9_shapeSet_34 : decode cX9_shapeSet 34 = .ok (.ireturn, 1) := by decide +kernel
theorem dX9_join_0 : decode cX9_join 0 = .ok (.aload_n 0, 1) := by decide +kernel
theorem dX9_join_1 : decode cX9_join 1 = .ok (.getfield 33, 3) := by decide +kernel
theorem dX9_join_4 : decode cX9_join 4 = .ok (.bipush 7, 2) := by decide +kernel
theorem dX9_join_6 : decode cX9_join 6 = .ok (.iaload, 1) := by decide +kernel
theorem dX9_join_7 : decode cX9_join 7 = .ok (.istore_n 2, 1) := by decide +kernel
theorem dX9_join_8 : decode cX9_join 8 = .ok (.aload_n 0, 1) := by decide +kernel
theorem dX9_join_9 : decode cX9_join 9 = .ok (.getfield 33, 3) := by decide +kernel
theorem dX9_join_12 : decode cX9_join 12 = .ok (.bipush 7, 2) := by decide +kernel
theorem dX9_join_14 : decode cX9_join 14 = .ok (.dup2, 1) := by decide +kernel
theorem dX9_join_15 : decode cX9_join 15 = .ok (.iaload, 1) := by decide +kernel
theorem dX9_join_16 : decode cX9_join 16 = .ok (.iconst 1, 1) := by decide +kernel
theorem dX9_join_17 : decode cX9_join 17 = .ok (.iadd, 1) := by decide +kernel
theorem dX9_join_18 : decode cX9_join 18 = .ok (.iastore, 1) := by decide +kernel
theorem dX9_join_19 : decode cX9_join 19 = .ok (.aload_n 0, 1) := by decide +kernel
theorem dX9_join_20 : decode cX9_join 20 = .ok (.getfield 15, 3) := by decide +kernel
theorem dX9_join_23 : decode cX9_join 23 = .ok (.iload_n 2, 1) := by decide +kernel
theorem dX9_join_24 : decode cX9_join 24 = .ok (.iload_n 1, 1) := by decide +kernel
theorem dX9_join_25 : decode cX9_join 25 = .ok (.iastore, 1) := by decide +kernel
theorem dX9_join_26 : decode cX9_join 26 = .ok (.aload_n 0, 1) := by decide +kernel
theorem dX9_join_27 : decode cX9_join 27 = .ok (.getfield 9, 3) := by decide +kernel
theorem dX9_join_30 : decode cX9_join 30 = .ok (.iload_n 1, 1) := by decide +kernel
theorem dX9_join_31 : decode cX9_join 31 = .ok (.iload_n 2, 1) := by decide +kernel
theorem dX9_join_32 : decode cX9_join 32 = .ok (.iastore, 1) := by decide +kernel
theorem dX9_join_33 : decode cX9_join 33 = .ok (.iload_n 2, 1) := by decide +kernel
theorem dX9_join_34 : decode cX9_join 34 = .ok (.ireturn, 1) := by decide +kernel
theorem dX9_part_0 : decode cX9_part 0 = .ok (.aload_n 0, 1) := by decide +kernel
theorem dX9_part_1 : decode cX9_part 1 = .ok (.getfield 9, 3) := by decide +kernel
theorem dX9_part_4 : decode cX9_part 4 = .ok (.aload_n 0, 1) := by decide +kernel
theorem dX9_part_5 : decode cX9_part 5 = .ok (.getfield 15, 3) := by decide +kernel
theorem dX9_part_8 : decode cX9_part 8 = .ok (.iload_n 1, 1) := by decide +kernel
theorem dX9_part_9 : decode cX9_part 9 = .ok (.iaload, 1) := by decide +kernel
theorem dX9_part_10 : decode cX9_part 10 = .ok (.iconst (-1), 1) := by decide +kernel
theorem dX9_part_11 : decode cX9_part 11 = .ok (.iastore, 1) := by decide +kernel
theorem dX9_part_12 : decode cX9_part 12 = .ok (.aload_n 0, 1) := by decide +kernel
theorem dX9_part_13 : decode cX9_part 13 = .ok (.getfield 15, 3) := by decide +kernel
theorem dX9_part_16 : decode cX9_part 16 = .ok (.iload_n 1, 1) := by decide +kernel
theorem dX9_part_17 : decode cX9_part 17 = .ok (.bipush (-5), 2) := by decide +kernel
theorem dX9_part_19 : decode cX9_part 19 = .ok (.iastore, 1) := by decide +kernel
theorem dX9_part_20 : decode cX9_part 20 = .ok (.aload_n 0, 1) := by decide +kernel
theorem dX9_part_21 : decode cX9_part 21 = .ok (.getfield 33, 3) := by decide +kernel
theorem dX9_part_24 : decode cX9_part 24 = .ok (.iconst 5, 1) := by decide +kernel
theorem dX9_part_25 : decode cX9_part 25 = .ok (.dup2, 1) := by decide +kernel
theorem dX9_part_26 : decode cX9_part 26 = .ok (.iaload, 1) := by decide +kernel
theorem dX9_part_27 : decode cX9_part 27 = .ok (.iconst 1, 1) := by decide +kernel
theorem dX9_part_28 : decode cX9_part 28 = .ok (.iadd, 1) := by decide +kernel
theorem dX9_part_29 : decode cX9_part 29 = .ok (.iastore, 1) := by decide +kernel
theorem dX9_part_30 : decode cX9_part 30 = .ok (.return_, 1) := by decide +kernel
theorem dX9_turnWall_0 : decode cX9_turnWall 0 = .ok (.aload_n 0, 1) := by decide +kernel
theorem dX9_turnWall_1 : decode cX9_turnWall 1 = .ok (.getfield 9, 3) := by decide +kernel
theorem dX9_turnWall_4 : decode cX9_turnWall 4 = .ok (.iload_n 1, 1) := by decide +kernel
theorem dX9_turnWall_5 : decode cX9_turnWall 5 = .ok (.iaload, 1) := by decide +kernel
theorem dX9_turnWall_6 : decode cX9_turnWall 6 = .ok (.bipush (-2), 2) := by decide +kernel
theorem dX9_turnWall_8 : decode cX9_turnWall 8 = .ok (.if_icmp .ne 7, 3) := by decide +kernel
theorem dX9_turnWall_11 : decode cX9_turnWall 11 = .ok (.iconst 1, 1) := by decide +kernel
theorem dX9_turnWall_12 : decode cX9_turnWall 12 = .ok (.goto 4, 3) := by decide +kernel
theorem dX9_turnWall_15 : decode cX9_turnWall 15 = .ok (.iconst 0, 1) := by decide +kernel
theorem dX9_turnWall_16 : decode cX9_turnWall 16 = .ok (.istore_n 2, 1) := by decide +kernel
theorem dX9_turnWall_17 : decode cX9_turnWall 17 = .ok (.aload_n 0, 1) := by decide +kernel
theorem dX9_turnWall_18 : decode cX9_turnWall 18 = .ok (.getfield 9, 3) := by decide +kernel
theorem dX9_turnWall_21 : decode cX9_turnWall 21 = .ok (.iload_n 1, 1) := by decide +kernel
theorem dX9_turnWall_22 : decode cX9_turnWall 22 = .ok (.iload_n 2, 1) := by decide +kernel
theorem dX9_turnWall_23 : decode cX9_turnWall 23 = .ok (.ifCond .eq 7, 3) := by decide +kernel
theorem dX9_turnWall_26 : decode cX9_turnWall 26 = .ok (.iconst (-1), 1) := by decide +kernel
theorem dX9_turnWall_27 : decode cX9_turnWall 27 = .ok (.goto 5, 3) := by decide +kernel
theorem dX9_turnWall_30 : decode cX9_turnWall 30 = .ok (.bipush (-2), 2) := by decide +kernel
theorem dX9_turnWall_32 : decode cX9_turnWall 32 = .ok (.iastore, 1) := by decide +kernel
theorem dX9_turnWall_33 : decode cX9_turnWall 33 = .ok (.aload_n 0, 1) := by decide +kernel
theorem dX9_turnWall_34 : decode cX9_turnWall 34 = .ok (.getfield 33, 3) := by decide +kernel
theorem dX9_turnWall_37 : decode cX9_turnWall 37 = .ok (.bipush 6, 2) := by decide +kernel
theorem dX9_turnWall_39 : decode cX9_turnWall 39 = .ok (.dup2, 1) := by decide +kernel
theorem dX9_turnWall_40 : decode cX9_turnWall 40 = .ok (.iaload, 1) := by decide +kernel
theorem dX9_turnWall_41 : decode cX9_turnWall 41 = .ok (.iload_n 2, 1) := by decide +kernel
theorem dX9_turnWall_42 : decode cX9_turnWall 42 = .ok (.ifCond .eq 7, 3) := by decide +kernel
theorem dX9_turnWall_45 : decode cX9_turnWall 45 = .ok (.iconst (-1), 1) := by decide +kernel
theorem dX9_turnWall_46 : decode cX9_turnWall 46 = .ok (.goto 4, 3) := by decide +kernel
theorem dX9_turnWall_49 : decode cX9_turnWall 49 = .ok (.iconst 1, 1) := by decide +kernel
theorem dX9_turnWall_50 : decode cX9_turnWall 50 = .ok (.iadd, 1) := by decide +kernel
theorem dX9_turnWall_51 : decode cX9_turnWall 51 = .ok (.iastore, 1) := by decide +kernel
theorem dX9_turnWall_52 : decode cX9_turnWall 52 = .ok (.return_, 1) := by decide +kernel
theorem dX9_step_0 : decode cX9_step 0 = .ok (.aload_n 0, 1) := by decide +kernel
theorem dX9_step_1 : decode cX9_step 1 = .ok (.getfield 9, 3) := by decide +kernel
theorem dX9_step_4 : decode cX9_step 4 = .ok (.aload_n 0, 1) := by decide +kernel
theorem dX9_step_5 : decode cX9_step 5 = .ok (.getfield 15, 3) := by decide +kernel
theorem dX9_step_8 : decode cX9_step 8 = .ok (.iload_n 1, 1) := by decide +kernel
theorem dX9_step_9 : decode cX9_step 9 = .ok (.iaload, 1) := by decide +kernel
theorem dX9_step_10 : decode cX9_step 10 = .ok (.iconst (-1), 1) := by decide +kernel
theorem dX9_step_11 : decode cX9_step 11 = .ok (.iastore, 1) := by decide +kernel
theorem dX9_step_12 : decode cX9_step 12 = .ok (.aload_n 0, 1) := by decide +kernel
theorem dX9_step_13 : decode cX9_step 13 = .ok (.iload_n 1, 1) := by decide +kernel
theorem dX9_step_14 : decode cX9_step 14 = .ok (.iload_n 2, 1) := by decide +kernel
theorem dX9_step_15 : decode cX9_step 15 = .ok (.iload_n 3, 1) := by decide +kernel
theorem dX9_step_16 : decode cX9_step 16 = .ok (.invokevirtual 76, 3) := by decide +kernel
theorem dX9_step_19 : decode cX9_step 19 = .ok (.return_, 1) := by decide +kernel
theorem dX9_exchange_0 : decode cX9_exchange 0 = .ok (.aload_n 0, 1) := by decide +kernel
theorem dX9_exchange_1 : decode cX9_exchange 1 = .ok (.getfield 15, 3) := by decide +kernel
theorem dX9_exchange_4 : decode cX9_exchange 4 = .ok (.iload_n 1, 1) := by decide +kernel
theorem dX9_exchange_5 : decode cX9_exchange 5 = .ok (.iaload, 1) := by decide +kernel
theorem dX9_exchange_6 : decode cX9_exchange 6 = .ok (.istore_n 3, 1) := by decide +kernel
theorem dX9_exchange_7 : decode cX9_exchange 7 = .ok (.aload_n 0, 1) := by decide +kernel
theorem dX9_exchange_8 : decode cX9_exchange 8 = .ok (.iload_n 1, 1) := by decide +kernel
theorem dX9_exchange_9 : decode cX9_exchange 9 = .ok (.aload_n 0, 1) := by decide +kernel
theorem dX9_exchange_10 : decode cX9_exchange 10 = .ok (.getfield 15, 3) := by decide +kernel
theorem dX9_exchange_13 : decode cX9_exchange 13 = .ok (.iload_n 2, 1) := by decide +kernel
theorem dX9_exchange_14 : decode cX9_exchange 14 = .ok (.iaload, 1) := by decide +kernel
theorem dX9_exchange_15 : decode cX9_exchange 15 = .ok (.iconst 4, 1) := by decide +kernel
theorem dX9_exchange_16 : decode cX9_exchange 16 = .ok (.invokevirtual 76, 3) := by decide +kernel
theorem dX9_exchange_19 : decode cX9_exchange 19 = .ok (.aload_n 0, 1) := by decide +kernel
theorem dX9_exchange_20 : decode cX9_exchange 20 = .ok (.iload_n 2, 1) := by decide +kernel
theorem dX9_exchange_21 : decode cX9_exchange 21 = .ok (.iload_n 3, 1) := by decide +kernel
theorem dX9_exchange_22 : decode cX9_exchange 22 = .ok (.iconst 4, 1) := by decide +kernel
theorem dX9_exchange_23 : decode cX9_exchange 23 = .ok (.invokevirtual 76, 3) := by decide +kernel
theorem dX9_exchange_26 : decode cX9_exchange 26 = .ok (.return_, 1) := by decide +kernel
theorem dX9_put_0 : decode cX9_put 0 = .ok (.aload_n 0, 1) := by decide +kernel
theorem dX9_put_1 : decode cX9_put 1 = .ok (.getfield 9, 3) := by decide +kernel
theorem dX9_put_4 : decode cX9_put 4 = .ok (.iload_n 2, 1) := by decide +kernel
theorem dX9_put_5 : decode cX9_put 5 = .ok (.iload_n 1, 1) := by decide +kernel
theorem dX9_put_6 : decode cX9_put 6 = .ok (.iastore, 1) := by decide +kernel
theorem dX9_put_7 : decode cX9_put 7 = .ok (.aload_n 0, 1) := by decide +kernel
theorem dX9_put_8 : decode cX9_put 8 = .ok (.getfield 15, 3) := by decide +kernel
theorem dX9_put_11 : decode cX9_put 11 = .ok (.iload_n 1, 1) := by decide +kernel
theorem dX9_put_12 : decode cX9_put 12 = .ok (.iload_n 2, 1) := by decide +kernel
theorem dX9_put_13 : decode cX9_put 13 = .ok (.iastore, 1) := by decide +kernel
theorem dX9_put_14 : decode cX9_put 14 = .ok (.aload_n 0, 1) := by decide +kernel
theorem dX9_put_15 : decode cX9_put 15 = .ok (.getfield 24, 3) := by decide +kernel
theorem dX9_put_18 : decode cX9_put 18 = .ok (.iload_n 1, 1) := by decide +kernel
theorem dX9_put_19 : decode cX9_put 19 = .ok (.dup2, 1) := by decide +kernel
theorem dX9_put_20 : decode cX9_put 20 = .ok (.iaload, 1) := by decide +kernel
theorem dX9_put_21 : decode cX9_put 21 = .ok (.iconst 1, 1) := by decide +kernel
theorem dX9_put_22 : decode cX9_put 22 = .ok (.iadd, 1) := by decide +kernel
theorem dX9_put_23 : decode cX9_put 23 = .ok (.iastore, 1) := by decide +kernel
theorem dX9_put_24 : decode cX9_put 24 = .ok (.aload_n 0, 1) := by decide +kernel
theorem dX9_put_25 : decode cX9_put 25 = .ok (.getfield 21, 3) := by decide +kernel
theorem dX9_put_28 : decode cX9_put 28 = .ok (.iload_n 1, 1) := by decide +kernel
theorem dX9_put_29 : decode cX9_put 29 = .ok (.iconst 0, 1) := by decide +kernel
theorem dX9_put_30 : decode cX9_put 30 = .ok (.iastore, 1) := by decide +kernel
theorem dX9_put_31 : decode cX9_put 31 = .ok (.aload_n 0, 1) := by decide +kernel
theorem dX9_put_32 : decode cX9_put 32 = .ok (.getfield 18, 3) := by decide +kernel
theorem dX9_put_35 : decode cX9_put 35 = .ok (.iload_n 1, 1) := by decide +kernel
theorem dX9_put_36 : decode cX9_put 36 = .ok (.iload_n 3, 1) := by decide +kernel
theorem dX9_put_37 : decode cX9_put 37 = .ok (.iastore, 1) := by decide +kernel
theorem dX9_put_38 : decode cX9_put 38 = .ok (.return_, 1) := by decide +kernel
theorem dX9_stay_0 : decode cX9_stay 0 = .ok (.aload_n 0, 1) := by decide +kernel
theorem dX9_stay_1 : decode cX9_stay 1 = .ok (.getfield 27, 3) := by decide +kernel
theorem dX9_stay_4 : decode cX9_stay 4 = .ok (.iload_n 1, 1) := by decide +kernel
theorem dX9_stay_5 : decode cX9_stay 5 = .ok (.dup2, 1) := by decide +kernel
theorem dX9_stay_6 : decode cX9_stay 6 = .ok (.iaload, 1) := by decide +kernel
theorem dX9_stay_7 : decode cX9_stay 7 = .ok (.iconst 1, 1) := by decide +kernel
theorem dX9_stay_8 : decode cX9_stay 8 = .ok (.iadd, 1) := by decide +kernel
theorem dX9_stay_9 : decode cX9_stay 9 = .ok (.iastore, 1) := by decide +kernel
theorem dX9_stay_10 : decode cX9_stay 10 = .ok (.aload_n 0, 1) := by decide +kernel
theorem dX9_stay_11 : decode cX9_stay 11 = .ok (.getfield 33, 3) := by decide +kernel
theorem dX9_stay_14 : decode cX9_stay 14 = .ok (.iconst 2, 1) := by decide +kernel
theorem dX9_stay_15 : decode cX9_stay 15 = .ok (.dup2, 1) := by decide +kernel
theorem dX9_stay_16 : decode cX9_stay 16 = .ok (.iaload, 1) := by decide +kernel
theorem dX9_stay_17 : decode cX9_stay 17 = .ok (.iconst 1, 1) := by decide +kernel
theorem dX9_stay_18 : decode cX9_stay 18 = .ok (.iadd, 1) := by decide +kernel
theorem dX9_stay_19 : decode cX9_stay 19 = .ok (.iastore, 1) := by decide +kernel
theorem dX9_stay_20 : decode cX9_stay 20 = .ok (.aload_n 0, 1) := by decide +kernel
theorem dX9_stay_21 : decode cX9_stay 21 = .ok (.getfield 18, 3) := by decide +kernel
theorem dX9_stay_24 : decode cX9_stay 24 = .ok (.iload_n 1, 1) := by decide +kernel
theorem dX9_stay_25 : decode cX9_stay 25 = .ok (.iload_n 2, 1) := by decide +kernel
theorem dX9_stay_26 : decode cX9_stay 26 = .ok (.iastore, 1) := by decide +kernel
theorem dX9_stay_27 : decode cX9_stay 27 = .ok (.return_, 1) := by decide +kernel
theorem dX9_movedSince_0 : decode cX9_movedSince 0 = .ok (.iconst 0, 1) := by decide +kernel
theorem dX9_movedSince_1 : decode cX9_movedSince 1 = .ok (.istore_n 2, 1) := by decide +kernel
theorem dX9_movedSince_2 : decode cX9_movedSince 2 = .ok (.iconst 0, 1) := by decide +kernel
theorem dX9_movedSince_3 : decode cX9_movedSince 3 = .ok (.istore_n 3, 1) := by decide +kernel
theorem dX9_movedSince_4 : decode cX9_movedSince 4 = .ok (.iload_n 3, 1) := by decide +kernel
theorem dX9_movedSince_5 : decode cX9_movedSince 5 = .ok (.bipush 10, 2) := by decide +kernel
theorem dX9_movedSince_7 : decode cX9_movedSince 7 = .ok (.if_icmp .ge 27, 3) := by decide +kernel
theorem dX9_movedSince_10 : decode cX9_movedSince 10 = .ok (.aload_n 0, 1) := by decide +kernel
theorem dX9_movedSince_11 : decode cX9_movedSince 11 = .ok (.getfield 15, 3) := by decide +kernel
theorem dX9_movedSince_14 : decode cX9_movedSince 14 = .ok (.iload_n 3, 1) := by decide +kernel
theorem dX9_movedSince_15 : decode cX9_movedSince 15 = .ok (.iaload, 1) := by decide +kernel
theorem dX9_movedSince_16 : decode cX9_movedSince 16 = .ok (.aload_n 1, 1) := by decide +kernel
theorem dX9_movedSince_17 : decode cX9_movedSince 17 = .ok (.getfield 15, 3) := by decide +kernel
theorem dX9_movedSince_20 : decode cX9_movedSince 20 = .ok (.iload_n 3, 1) := by decide +kernel
theorem dX9_movedSince_21 : decode cX9_movedSince 21 = .ok (.iaload, 1) := by decide +kernel
theorem dX9_movedSince_22 : decode cX9_movedSince 22 = .ok (.if_icmp .eq 6, 3) := by decide +kernel
theorem dX9_movedSince_25 : decode cX9_movedSince 25 = .ok (.iinc 2 1, 3) := by decide +kernel
theorem dX9_movedSince_28 : decode cX9_movedSince 28 = .ok (.iinc 3 1, 3) := by decide +kernel
theorem dX9_movedSince_31 : decode cX9_movedSince 31 = .ok (.goto (-27), 3) := by decide +kernel
theorem dX9_movedSince_34 : decode cX9_movedSince 34 = .ok (.iload_n 2, 1) := by decide +kernel
theorem dX9_movedSince_35 : decode cX9_movedSince 35 = .ok (.ireturn, 1) := by decide +kernel
theorem dX10_init_0 : decode cX10_init 0 = .ok (.aload_n 0, 1) := by decide +kernel
theorem dX10_init_1 : decode cX10_init 1 = .ok (.invokespecial 1, 3) := by decide +kernel
theorem dX10_init_4 : decode cX10_init 4 = .ok (.aload_n 0, 1) := by decide +kernel
theorem dX10_init_5 : decode cX10_init 5 = .ok (.new 7, 3) := by decide +kernel
theorem dX10_init_8 : decode cX10_init 8 = .ok (.dup, 1) := by decide +kernel
theorem dX10_init_9 : decode cX10_init 9 = .ok (.invokespecial 9, 3) := by decide +kernel
theorem dX10_init_12 : decode cX10_init 12 = .ok (.putfield 10, 3) := by decide +kernel
theorem dX10_init_15 : decode cX10_init 15 = .ok (.aload_n 0, 1) := by decide +kernel
theorem dX10_init_16 : decode cX10_init 16 = .ok (.new 7, 3) := by decide +kernel
theorem dX10_init_19 : decode cX10_init 19 = .ok (.dup, 1) := by decide +kernel
theorem dX10_init_20 : decode cX10_init 20 = .ok (.invokespecial 9, 3) := by decide +kernel
theorem dX10_init_23 : decode cX10_init 23 = .ok (.putfield 16, 3) := by decide +kernel
theorem dX10_init_26 : decode cX10_init 26 = .ok (.aload_n 0, 1) := by decide +kernel
theorem dX10_init_27 : decode cX10_init 27 = .ok (.new 7, 3) := by decide +kernel
theorem dX10_init_30 : decode cX10_init 30 = .ok (.dup, 1) := by decide +kernel
theorem dX10_init_31 : decode cX10_init 31 = .ok (.invokespecial 9, 3) := by decide +kernel
theorem dX10_init_34 : decode cX10_init 34 = .ok (.putfield 19, 3) := by decide +kernel
theorem dX10_init_37 : decode cX10_init 37 = .ok (.aload_n 0, 1) := by decide +kernel
theorem dX10_init_38 : decode cX10_init 38 = .ok (.iconst 0, 1) := by decide +kernel
theorem dX10_init_39 : decode cX10_init 39 = .ok (.putfield 22, 3) := by decide +kernel
theorem dX10_init_42 : decode cX10_init 42 = .ok (.aload_n 0, 1) := by decide +kernel
theorem dX10_init_43 : decode cX10_init 43 = .ok (.new 26, 3) := by decide +kernel
theorem dX10_init_46 : decode cX10_init 46 = .ok (.dup, 1) := by decide +kernel
theorem dX10_init_47 : decode cX10_init 47 = .ok (.invokespecial 28, 3) := by decide +kernel
theorem dX10_init_50 : decode cX10_init 50 = .ok (.putfield 29, 3) := by decide +kernel
theorem dX10_init_53 : decode cX10_init 53 = .ok (.aload_n 0, 1) := by decide +kernel
theorem dX10_init_54 : decode cX10_init 54 = .ok (.new 33, 3) := by decide +kernel
theorem dX10_init_57 : decode cX10_init 57 = .ok (.dup, 1) := by decide +kernel
theorem dX10_init_58 : decode cX10_init 58 = .ok (.invokespecial 35, 3) := by decide +kernel
theorem dX10_init_61 : decode cX10_init 61 = .ok (.putfield 36, 3) := by decide +kernel
theorem dX10_init_64 : decode cX10_init 64 = .ok (.aload_n 0, 1) := by decide +kernel
theorem dX10_init_65 : decode cX10_init 65 = .ok (.new 40, 3) := by decide +kernel
theorem dX10_init_68 : decode cX10_init 68 = .ok (.dup, 1) := by decide +kernel
theorem dX10_init_69 : decode cX10_init 69 = .ok (.invokespecial 42, 3) := by decide +kernel
theorem dX10_init_72 : decode cX10_init 72 = .ok (.putfield 43, 3) := by decide +kernel
theorem dX10_init_75 : decode cX10_init 75 = .ok (.aload_n 0, 1) := by decide +kernel
theorem dX10_init_76 : decode cX10_init 76 = .ok (.new 47, 3) := by decide +kernel
theorem dX10_init_79 : decode cX10_init 79 = .ok (.dup, 1) := by decide +kernel
theorem dX10_init_80 : decode cX10_init 80 = .ok (.invokespecial 49, 3) := by decide +kernel
theorem dX10_init_83 : decode cX10_init 83 = .ok (.putfield 50, 3) := by decide +kernel
theorem dX10_init_86 : decode cX10_init 86 = .ok (.aload_n 0, 1) := by decide +kernel
theorem dX10_init_87 : decode cX10_init 87 = .ok (.new 54, 3) := by decide +kernel
theorem dX10_init_90 : decode cX10_init 90 = .ok (.dup, 1) := by decide +kernel
theorem dX10_init_91 : decode cX10_init 91 = .ok (.aload_n 0, 1) := by decide +kernel
theorem dX10_init_92 : decode cX10_init 92 = .ok (.getfield 10, 3) := by decide +kernel
theorem dX10_init_95 : decode cX10_init 95 = .ok (.invokespecial 56, 3) := by decide +kernel
theorem dX10_init_98 : decode cX10_init 98 = .ok (.putfield 59, 3) := by decide +kernel
theorem dX10_init_101 : decode cX10_init 101 = .ok (.aload_n 0, 1) := by decide +kernel
theorem dX10_init_102 : decode cX10_init 102 = .ok (.new 63, 3) := by decide +kernel
theorem dX10_init_105 : decode cX10_init 105 = .ok (.dup, 1) := by decide +kernel
theorem dX10_init_106 : decode cX10_init 106 = .ok (.aload_n 0, 1) := by decide +kernel
theorem dX10_init_107 : decode cX10_init 107 = .ok (.getfield 10, 3) := by decide +kernel
theorem dX10_init_110 : decode cX10_init 110 = .ok (.aload_n 0, 1) := by decide +kernel
theorem dX10_init_111 : decode cX10_init 111 = .ok (.getfield 59, 3) := by decide +kernel
theorem dX10_init_114 : decode cX10_init 114 = .ok (.invokespecial 65, 3) := by decide +kernel
theorem dX10_init_117 : decode cX10_init 117 = .ok (.putfield 68, 3) := by decide +kernel
theorem dX10_init_120 : decode cX10_init 120 = .ok (.aload_n 0, 1) := by decide +kernel
theorem dX10_init_121 : decode cX10_init 121 = .ok (.new 72, 3) := by decide +kernel
theorem dX10_init_124 : decode cX10_init 124 = .ok (.dup, 1) := by decide +kernel
theorem dX10_init_125 : decode cX10_init 125 = .ok (.aload_n 0, 1) := by decide +kernel
theorem dX10_init_126 : decode cX10_init 126 = .ok (.getfield 10, 3) := by decide +kernel
theorem dX10_init_129 : decode cX10_init 129 = .ok (.aload_n 0, 1) := by decide +kernel
theorem dX10_init_130 : decode cX10_init 130 = .ok (.getfield 59, 3) := by decide +kernel
theorem dX10_init_133 : decode cX10_init 133 = .ok (.aload_n 0, 1) := by decide +kernel
theorem dX10_init_134 : decode cX10_init 134 = .ok (.getfield 68, 3) := by decide +kernel
theorem dX10_init_137 : decode cX10_init 137 = .ok (.invokespecial 74, 3) := by decide +kernel
theorem dX10_init_140 : decode cX10_init 140 = .ok (.putfield 77, 3) := by decide +kernel
theorem dX10_init_143 : decode cX10_init 143 = .ok (.aload_n 0, 1) := by decide +kernel
theorem dX10_init_144 : decode cX10_init 144 = .ok (.bipush (-5), 2) := by decide +kernel
theorem dX10_init_146 : decode cX10_init 146 = .ok (.putfield 81, 3) := by decide +kernel
theorem dX10_init_149 : decode cX10_init 149 = .ok (.aload_n 0, 1) := by decide +kernel
theorem dX10_init_150 : decode cX10_init 150 = .ok (.bipush (-5), 2) := by decide +kernel
theorem dX10_init_152 : decode cX10_init 152 = .ok (.putfield 85, 3) := by decide +kernel
theorem dX10_init_155 : decode cX10_init 155 = .ok (.return_, 1) := by decide +kernel
theorem dX10_add_0 : decode cX10_add 0 = .ok (.iload_n 1, 1) := by decide +kernel
theorem dX10_add_1 : decode cX10_add 1 = .ok (.iload_n 2, 1) := by decide +kernel
theorem dX10_add_2 : decode cX10_add 2 = .ok (.invokestatic 88, 3) := by decide +kernel
theorem dX10_add_5 : decode cX10_add 5 = .ok (.istore_n 3, 1) := by decide +kernel
theorem dX10_add_6 : decode cX10_add 6 = .ok (.iload_n 3, 1) := by decide +kernel
theorem dX10_add_7 : decode cX10_add 7 = .ok (.ifCond .ge 6, 3) := by decide +kernel
theorem dX10_add_10 : decode cX10_add 10 = .ok (.bipush (-2), 2) := by decide +kernel
theorem dX10_add_12 : decode cX10_add 12 = .ok (.ireturn, 1) := by decide +kernel
theorem dX10_add_13 : decode cX10_add 13 = .ok (.aload_n 0, 1) := by decide +kernel
theorem dX10_add_14 : decode cX10_add 14 = .ok (.getfield 10, 3) := by decide +kernel
theorem dX10_add_17 : decode cX10_add 17 = .ok (.getfield 92, 3) := by decide +kernel
theorem dX10_add_20 : decode cX10_add 20 = .ok (.iload_n 3, 1) := by decide +kernel
theorem dX10_add_21 : decode cX10_add 21 = .ok (.iaload, 1) := by decide +kernel
theorem dX10_add_22 : decode cX10_add 22 = .ok (.iconst (-1), 1) := by decide +kernel
theorem dX10_add_23 : decode cX10_add 23 = .ok (.if_icmp .eq 6, 3) := by decide +kernel
theorem dX10_add_26 : decode cX10_add 26 = .ok (.bipush (-3), 2) := by decide +kernel
theorem dX10_add_28 : decode cX10_add 28 = .ok (.ireturn, 1) := by decide +kernel
theorem dX10_add_29 : decode cX10_add 29 = .ok (.aload_n 0, 1) := by decide +kernel
theorem dX10_add_30 : decode cX10_add 30 = .ok (.getfield 10, 3) := by decide +kernel
theorem dX10_add_33 : decode cX10_add 33 = .ok (.getfield 96, 3) := by decide +kernel
theorem dX10_add_36 : decode cX10_add 36 = .ok (.bipush 7, 2) := by decide +kernel
theorem dX10_add_38 : decode cX10_add 38 = .ok (.iaload, 1) := by decide +kernel
theorem dX10_add_39 : decode cX10_add 39 = .ok (.bipush 10, 2) := by decide +kernel
theorem dX10_add_41 : decode cX10_add 41 = .ok (.if_icmp .lt 6, 3) := by decide +kernel
theorem dX10_add_44 : decode cX10_add 44 = .ok (.bipush (-4), 2) := by decide +kernel
theorem dX10_add_46 : decode cX10_add 46 = .ok (.ireturn, 1) := by decide +kernel
theorem dX10_add_47 : decode cX10_add 47 = .ok (.aload_n 0, 1) := by decide +kernel
theorem dX10_add_48 : decode cX10_add 48 = .ok (.getfield 29, 3) := by decide +kernel
theorem dX10_add_51 : decode cX10_add 51 = .ok (.aload_n 0, 1) := by decide +kernel
theorem dX10_add_52 : decode cX10_add 52 = .ok (.getfield 10, 3) := by decide +kernel
theorem dX10_add_55 : decode cX10_add 55 = .ok (.invokevirtual 99, 3) := by decide +kernel
theorem dX10_add_58 : decode cX10_add 58 = .ok (.aload_n 0, 1) := by decide +kernel
theorem dX10_add_59 : decode cX10_add 59 = .ok (.getfield 10, 3) := by decide +kernel
theorem dX10_add_62 : decode cX10_add 62 = .ok (.iload_n 3, 1) := by decide +kernel
theorem dX10_add_63 : decode cX10_add 63 = .ok (.invokevirtual 102, 3) := by decide +kernel
theorem dX10_add_66 : decode cX10_add 66 = .ok (.ireturn, 1) := by decide +kernel
theorem dX10_lose_0 : decode cX10_lose 0 = .ok (.aload_n 0, 1) := by decide +kernel
theorem dX10_lose_1 : decode cX10_lose 1 = .ok (.getfield 10, 3) := by decide +kernel
theorem dX10_lose_4 : decode cX10_lose 4 = .ok (.iload_n 1, 1) := by decide +kernel
theorem dX10_lose_5 : decode cX10_lose 5 = .ok (.invokevirtual 106, 3) := by decide +kernel
theorem dX10_lose_8 : decode cX10_lose 8 = .ok (.ifCond .ne 5, 3) := by decide +kernel
theorem dX10_lose_11 : decode cX10_lose 11 = .ok (.iconst (-1), 1) := by decide +kernel
theorem dX10_lose_12 : decode cX10_lose 12 = .ok (.ireturn, 1) := by decide +kernel
theorem dX10_lose_13 : decode cX10_lose 13 = .ok (.aload_n 0, 1) := by decide +kernel
theorem dX10_lose_14 : decode cX10_lose 14 = .ok (.getfield 29, 3) := by decide +kernel
theorem dX10_lose_17 : decode cX10_lose 17 = .ok (.aload_n 0, 1) := by decide +kernel
theorem dX10_lose_18 : decode cX10_lose 18 = .ok (.getfield 10, 3) := by decide +kernel
theorem dX10_lose_21 : decode cX10_lose 21 = .ok (.invokevirtual 99, 3) := by decide +kernel
theorem dX10_lose_24 : decode cX10_lose 24 = .ok (.aload_n 0, 1) := by decide +kernel
theorem dX10_lose_25 : decode cX10_lose 25 = .ok (.getfield 10, 3) := by decide +kernel
theorem dX10_lose_28 : decode cX10_lose 28 = .ok (.iload_n 1, 1) := by decide +kernel
theorem dX10_lose_29 : decode cX10_lose 29 = .ok (.invokevirtual 110, 3) := by decide +kernel
theorem dX10_lose_32 : decode cX10_lose 32 = .ok (.aload_n 0, 1) := by decide +kernel
theorem dX10_lose_33 : decode cX10_lose 33 = .ok (.getfield 10, 3) := by decide +kernel
theorem dX10_lose_36 : decode cX10_lose 36 = .ok (.invokevirtual 114, 3) := by decide +kernel
theorem dX10_lose_39 : decode cX10_lose 39 = .ok (.ireturn, 1) := by decide +kernel
theorem dX10_lead_0 : decode cX10_lead 0 = .ok (.aload_n 0, 1) := by decide +kernel
theorem dX10_lead_1 : decode cX10_lead 1 = .ok (.getfield 10, 3) := by decide +kernel
theorem dX10_lead_4 : decode cX10_lead 4 = .ok (.iload_n 1, 1) := by decide +kernel
theorem dX10_lead_5 : decode cX10_lead 5 = .ok (.invokevirtual 106, 3) := by decide +kernel
theorem dX10_lead_8 : decode cX10_lead 8 = .ok (.ifCond .ne 5, 3) := by decide +kernel
theorem dX10_lead_11 : decode cX10_lead 11 = .ok (.iconst (-1), 1) := by decide +kernel
theorem dX10_lead_12 : decode cX10_lead 12 = .ok (.ireturn, 1) := by decide +kernel
theorem dX10_lead_13 : decode cX10_lead 13 = .ok (.aload_n 0, 1) := by decide +kernel
theorem dX10_lead_14 : decode cX10_lead 14 = .ok (.getfield 29, 3) := by decide +kernel
theorem dX10_lead_17 : decode cX10_lead 17 = .ok (.aload_n 0, 1) := by decide +kernel
theorem dX10_lead_18 : decode cX10_lead 18 = .ok (.getfield 10, 3) := by decide +kernel
theorem dX10_lead_21 : decode cX10_lead 21 = .ok (.invokevirtual 99, 3) := by decide +kernel
theorem dX10_lead_24 : decode cX10_lead 24 = .ok (.aload_n 0, 1) := by decide +kernel
theorem dX10_lead_25 : decode cX10_lead 25 = .ok (.getfield 10, 3) := by decide +kernel
theorem dX10_lead_28 : decode cX10_lead 28 = .ok (.invokevirtual 118, 3) := by decide +kernel
theorem dX10_lead_31 : decode cX10_lead 31 = .ok (.istore_n 2, 1) := by decide +kernel
theorem dX10_lead_32 : decode cX10_lead 32 = .ok (.aload_n 0, 1) := by decide +kernel
theorem dX10_lead_33 : decode cX10_lead 33 = .ok (.getfield 10, 3) := by decide +kernel
theorem dX10_lead_36 : decode cX10_lead 36 = .ok (.iload_n 1, 1) := by decide +kernel
theorem dX10_lead_37 : decode cX10_lead 37 = .ok (.putfield 121, 3) := by decide +kernel
theorem dX10_lead_40 : decode cX10_lead 40 = .ok (.iload_n 2, 1) := by decide +kernel
theorem dX10_lead_41 : decode cX10_lead 41 = .ok (.ireturn, 1) := by decide +kernel
theorem dX10_target_0 : decode cX10_target 0 = .ok (.iload_n 1, 1) := by decide +kernel
theorem dX10_target_1 : decode cX10_target 1 = .ok (.iconst (-1), 1) := by decide +kernel
theorem dX10_target_2 : decode cX10_target 2 = .ok (.if_icmp .eq 13, 3) := by decide +kernel
theorem dX10_target_5 : decode cX10_target 5 = .ok (.iload_n 1, 1) := by decide +kernel
theorem dX10_target_6 : decode cX10_target 6 = .ok (.invokestatic 124, 3) := by decide +kernel
theorem dX10_target_9 : decode cX10_target 9 = .ok (.ifCond .ne 6, 3) := by decide +kernel
theorem dX10_target_12 : decode cX10_target 12 = .ok (.bipush (-2), 2) := by decide +kernel
theorem dX10_target_14 : decode cX10_target 14 = .ok (.ireturn, 1) := by decide +kernel
theorem dX10_target_15 : decode cX10_target 15 = .ok (.aload_n 0, 1) := by decide +kernel
theorem dX10_target_16 : decode cX10_target 16 = .ok (.getfield 29, 3) := by decide +kernel
theorem dX10_target_19 : decode cX10_target 19 = .ok (.aload_n 0, 1) := by decide +kernel
theorem dX10_target_20 : decode cX10_target 20 = .ok (.getfield 10, 3) := by decide +kernel
theorem dX10_target_23 : decode cX10_target 23 = .ok (.invokevirtual 99, 3) := by decide +kernel
theorem dX10_target_26 : decode cX10_target 26 = .ok (.aload_n 0, 1) := by decide +kernel
theorem dX10_target_27 : decode cX10_target 27 = .ok (.getfield 10, 3) := by decide +kernel
theorem dX10_target_30 : decode cX10_target 30 = .ok (.getfield 127, 3) := by decide +kernel
theorem dX10_target_33 : decode cX10_target 33 = .ok (.istore_n 2, 1) := by decide +kernel
theorem dX10_target_34 : decode cX10_target 34 = .ok (.aload_n 0, 1) := by decide +kernel
theorem dX10_target_35 : decode cX10_target 35 = .ok (.getfield 10, 3) := by decide +kernel
theorem dX10_target_38 : decode cX10_target 38 = .ok (.iload_n 1, 1) := by decide +kernel
theorem dX10_target_39 : decode cX10_target 39 = .ok (.iconst (-1), 1) := by decide +kernel
theorem dX10_target_40 : decode cX10_target 40 = .ok (.if_icmp .ne 8, 3) := by decide +kernel
theorem dX10_target_43 : decode cX10_target 43 = .ok (.bipush (-5), 2) := by decide +kernel
theorem dX10_target_45 : decode cX10_target 45 = .ok (.goto 4, 3) := by decide +kernel
theorem dX10_target_48 : decode cX10_target 48 = .ok (.iload_n 1, 1) := by decide +kernel
theorem dX10_target_49 : decode cX10_target 49 = .ok (.putfield 127, 3) := by decide +kernel
theorem dX10_target_52 : decode cX10_target 52 = .ok (.iload_n 2, 1) := by decide +kernel
theorem dX10_target_53 : decode cX10_target 53 = .ok (.ireturn, 1) := by decide +kernel
theorem dX10_obstacle_0 : decode cX10_obstacle 0 = .ok (.iload_n 1, 1) := by decide +kernel
theorem dX10_obstacle_1 : decode cX10_obstacle 1 = .ok (.invokestatic 124, 3) := by decide +kernel
theorem dX10_obstacle_4 : decode cX10_obstacle 4 = .ok (.ifCond .ne 5, 3) := by decide +kernel
theorem dX10_obstacle_7 : decode cX10_obstacle 7 = .ok (.iconst (-1), 1) := by decide +kernel
theorem dX10_obstacle_8 : decode cX10_obstacle 8 = .ok (.ireturn, 1) := by decide +kernel
theorem dX10_obstacle_9 : decode cX10_obstacle 9 = .ok (.aload_n 0, 1) := by decide +kernel
theorem dX10_obstacle_10 : decode cX10_obstacle 10 = .ok (.getfield 10, 3) := by decide +kernel
theorem dX10_obstacle_13 : decode cX10_obstacle 13 = .ok (.getfield 92, 3) := by decide +kernel
theorem dX10_obstacle_16 : decode cX10_obstacle 16 = .ok (.iload_n 1, 1) := by decide +kernel
theorem dX10_obstacle_17 : decode cX10_obstacle 17 = .ok (.iaload, 1) := by decide +kernel
theorem dX10_obstacle_18 : decode cX10_obstacle 18 = .ok (.ifCond .lt 6, 3) := by decide +kernel
theorem dX10_obstacle_21 : decode cX10_obstacle 21 = .ok (.bipush (-3), 2) := by decide +kernel
theorem dX10_obstacle_23 : decode cX10_obstacle 23 = .ok (.ireturn, 1) := by decide +kernel
theorem dX10_obstacle_24 : decode cX10_obstacle 24 = .ok (.aload_n 0, 1) := by decide +kernel
theorem dX10_obstacle_25 : decode cX10_obstacle 25 = .ok (.getfield 29, 3) := by decide +kernel
theorem dX10_obstacle_28 : decode cX10_obstacle 28 = .ok (.aload_n 0, 1) := by decide +kernel
theorem dX10_obstacle_29 : decode cX10_obstacle 29 = .ok (.getfield 10, 3) := by decide +kernel
theorem dX10_obstacle_32 : decode cX10_obstacle 32 = .ok (.invokevirtual 99, 3) := by decide +kernel
theorem dX10_obstacle_35 : decode cX10_obstacle 35 = .ok (.aload_n 0, 1) := by decide +kernel
theorem dX10_obstacle_36 : decode cX10_obstacle 36 = .ok (.iload_n 1, 1) := by decide +kernel
theorem dX10_obstacle_37 : decode cX10_obstacle 37 = .ok (.invokevirtual 130, 3) := by decide +kernel
theorem dX10_obstacle_40 : decode cX10_obstacle 40 = .ok (.aload_n 0, 1) := by decide +kernel
theorem dX10_obstacle_41 : decode cX10_obstacle 41 = .ok (.getfield 10, 3) := by decide +kernel
theorem dX10_obstacle_44 : decode cX10_obstacle 44 = .ok (.getfield 92, 3) := by decide +kernel
theorem dX10_obstacle_47 : decode cX10_obstacle 47 = .ok (.iload_n 1, 1) := by decide +kernel
theorem dX10_obstacle_48 : decode cX10_obstacle 48 = .ok (.iaload, 1) := by decide +kernel
theorem dX10_obstacle_49 : decode cX10_obstacle 49 = .ok (.bipush (-2), 2) := by decide +kernel
theorem dX10_obstacle_51 : decode cX10_obstacle 51 = .ok (.if_icmp .ne 7, 3) := by decide +kernel
theorem dX10_obstacle_54 : decode cX10_obstacle 54 = .ok (.iconst 1, 1) := by decide +kernel
theorem dX10_obstacle_55 : decode cX10_obstacle 55 = .ok (.goto 4, 3) := by decide +kernel
theorem dX10_obstacle_58 : decode cX10_obstacle 58 = .ok (.iconst 0, 1) := by decide +kernel
theorem dX10_obstacle_59 : decode cX10_obstacle 59 = .ok (.ireturn, 1) := by decide +kernel
theorem dX10_feed_0 : decode cX10_feed 0 = .ok (.iload_n 1, 1) := by decide +kernel
theorem dX10_feed_1 : decode cX10_feed 1 = .ok (.iconst 1, 1) := by decide +kernel
theorem dX10_feed_2 : decode cX10_feed 2 = .ok (.if_icmp .lt 46, 3) := by decide +kernel
theorem dX10_feed_5 : decode cX10_feed 5 = .ok (.iload_n 1, 1) := by decide +kernel
theorem dX10_feed_6 : decode cX10_feed 6 = .ok (.iconst 5, 1) := by decide +kernel
theorem dX10_feed_7 : decode cX10_feed 7 = .ok (.if_icmp .gt 41, 3) := by decide +kernel
theorem dX10_feed_10 : decode cX10_feed 10 = .ok (.iload_n 2, 1) := by decide +kernel
theorem dX10_feed_11 : decode cX10_feed 11 = .ok (.invokestatic 133, 3) := by decide +kernel
theorem dX10_feed_14 : decode cX10_feed 14 = .ok (.ifCond .eq 34, 3) := by decide +kernel
theorem dX10_feed_17 : decode cX10_feed 17 = .ok (.iload_n 3, 1) := by decide +kernel
theorem dX10_feed_18 : decode cX10_feed 18 = .ok (.invokestatic 133, 3) := by decide +kernel
theorem dX10_feed_21 : decode cX10_feed 21 = .ok (.ifCond .eq 27, 3) := by decide +kernel
theorem dX10_feed_24 : decode cX10_feed 24 = .ok (.iload 4, 2) := by decide +kernel
theorem dX10_feed_26 : decode cX10_feed 26 = .ok (.invokestatic 133, 3) := by decide +kernel
theorem dX10_feed_29 : decode cX10_feed 29 = .ok (.ifCond .eq 19, 3) := by decide +kernel
theorem dX10_feed_32 : decode cX10_feed 32 = .ok (.iload 5, 2) := by decide +kernel
theorem dX10_feed_34 : decode cX10_feed 34 = .ok (.invokestatic 133, 3) := by decide +kernel
theorem dX10_feed_37 : decode cX10_feed 37 = .ok (.ifCond .eq 11, 3) := by decide +kernel
theorem dX10_feed_40 : decode cX10_feed 40 = .ok (.iload 6, 2) := by decide +kernel
theorem dX10_feed_42 : decode cX10_feed 42 = .ok (.invokestatic 133, 3) := by decide +kernel
theorem dX10_feed_45 : decode cX10_feed 45 = .ok (.ifCond .ne 6, 3) := by decide +kernel
theorem dX10_feed_48 : decode cX10_feed 48 = .ok (.bipush (-2), 2) := by decide +kernel
theorem dX10_feed_50 : decode cX10_feed 50 = .ok (.ireturn, 1) := by decide +kernel
theorem dX10_feed_51 : decode cX10_feed 51 = .ok (.aload_n 0, 1) := by decide +kernel
theorem dX10_feed_52 : decode cX10_feed 52 = .ok (.getfield 36, 3) := by decide +kernel
theorem dX10_feed_55 : decode cX10_feed 55 = .ok (.getfield 136, 3) := by decide +kernel
theorem dX10_feed_58 : decode cX10_feed 58 = .ok (.iload_n 1, 1) := by decide +kernel
theorem dX10_feed_59 : decode cX10_feed 59 = .ok (.iadd, 1) := by decide +kernel
theorem dX10_feed_60 : decode cX10_feed 60 = .ok (.bipush 60, 2) := by decide +kernel
theorem dX10_feed_62 : decode cX10_feed 62 = .ok (.if_icmp .le 6, 3) := by decide +kernel
theorem dX10_feed_65 : decode cX10_feed 65 = .ok (.bipush (-4), 2) := by decide +kernel
theorem dX10_feed_67 : decode cX10_feed 67 = .ok (.ireturn, 1) := by decide +kernel
theorem dX10_feed_68 : decode cX10_feed 68 = .ok (.aload_n 0, 1) := by decide +kernel
theorem dX10_feed_69 : decode cX10_feed 69 = .ok (.getfield 36, 3) := by decide +kernel
theorem dX10_feed_72 : decode cX10_feed 72 = .ok (.iload_n 2, 1) := by decide +kernel
theorem dX10_feed_73 : decode cX10_feed 73 = .ok (.invokevirtual 139, 3) := by decide +kernel
theorem dX10_feed_76 : decode cX10_feed 76 = .ok (.iload_n 1, 1) := by decide +kernel
theorem dX10_feed_77 : decode cX10_feed 77 = .ok (.iconst 1, 1) := by decide +kernel
theorem dX10_feed_78 : decode cX10_feed 78 = .ok (.if_icmp .le 11, 3) := by decide +kernel
theorem dX10_feed_81 : decode cX10_feed 81 = .ok (.aload_n 0, 1) := by decide +kernel
theorem dX10_feed_82 : decode cX10_feed 82 = .ok (.getfield 36, 3) := by decide +kernel
theorem dX10_feed_85 : decode cX10_feed 85 = .ok (.iload_n 3, 1) := by decide +kernel
theorem dX10_feed_86 : decode cX10_feed 86 = .ok (.invokevirtual 139, 3) := by decide +kernel
theorem dX10_feed_89 : decode cX10_feed 89 = .ok (.iload_n 1, 1) := by decide +kernel
theorem dX10_feed_90 : decode cX10_feed 90 = .ok (.iconst 2, 1) := by decide +kernel
theorem dX10_feed_91 : decode cX10_feed 91 = .ok (.if_icmp .le 12, 3) := by decide +kernel
theorem dX10_feed_94 : decode cX10_feed 94 = .ok (.aload_n 0, 1) := by decide +kernel
theorem dX10_feed_95 : decode cX10_feed 95 = .ok (.getfield 36, 3) := by decide +kernel
theorem dX10_feed_98 : decode cX10_feed 98 = .ok (.iload 4, 2) := by decide +kernel
theorem dX10_feed_100 : decode cX10_feed 100 = .ok (.invokevirtual 139, 3) := by decide +kernel
theorem dX10_feed_103 : decode cX10_feed 103 = .ok (.iload_n 1, 1) := by decide +kernel
theorem dX10_feed_104 : decode cX10_feed 104 = .ok (.iconst 3, 1) := by decide +kernel
theorem dX10_feed_105 : decode cX10_feed 105 = .ok (.if_icmp .le 12, 3) := by decide +kernel
theorem dX10_feed_108 : decode cX10_feed 108 = .ok (.aload_n 0, 1) := by decide +kernel
theorem dX10_feed_109 : decode cX10_feed 109 = .ok (.getfield 36, 3) := by decide +kernel
theorem dX10_feed_112 : decode cX10_feed 112 = .ok (.iload 5, 2) := by decide +kernel
theorem dX10_feed_114 : decode cX10_feed 114 = .ok (.invokevirtual 139, 3) := by decide +kernel
theorem dX10_feed_117 : decode cX10_feed 117 = .ok (.iload_n 1, 1) := by decide +kernel
theorem dX10_feed_118 : decode cX10_feed 118 = .ok (.iconst 4, 1) := by decide +kernel
theorem dX10_feed_119 : decode cX10_feed 119 = .ok (.if_icmp .le 12, 3) := by decide +kernel
theorem dX10_feed_122 : decode cX10_feed 122 = .ok (.aload_n 0, 1) := by decide +kernel
theorem dX10_feed_123 : decode cX10_feed 123 = .ok (.getfield 36, 3) := by decide +kernel
theorem dX10_feed_126 : decode cX10_feed 126 = .ok (.iload 6, 2) := by decide +kernel
theorem dX10_feed_128 : decode cX10_feed 128 = .ok (.invokevirtual 139, 3) := by decide +kernel
theorem dX10_feed_131 : decode cX10_feed 131 = .ok (.aload_n 0, 1) := by decide +kernel
theorem dX10_feed_132 : decode cX10_feed 132 = .ok (.getfield 36, 3) := by decide +kernel
theorem dX10_feed_135 : decode cX10_feed 135 = .ok (.getfield 136, 3) := by decide +kernel
theorem dX10_feed_138 : decode cX10_feed 138 = .ok (.ireturn, 1) := by decide +kernel
theorem dX10_shape_0 : decode cX10_shape 0 = .ok (.iload_n 1, 1) := by decide +kernel
theorem dX10_shape_1 : decode cX10_shape 1 = .ok (.invokestatic 142, 3) := by decide +kernel
theorem dX10_shape_4 : decode cX10_shape 4 = .ok (.ifCond .ne 5, 3) := by decide +kernel
theorem dX10_shape_7 : decode cX10_shape 7 = .ok (.iconst (-1), 1) := by decide +kernel
theorem dX10_shape_8 : decode cX10_shape 8 = .ok (.ireturn, 1) := by decide +kernel
theorem dX10_shape_9 : decode cX10_shape 9 = .ok (.aload_n 0, 1) := by decide +kernel
theorem dX10_shape_10 : decode cX10_shape 10 = .ok (.getfield 43, 3) := by decide +kernel
theorem dX10_shape_13 : decode cX10_shape 13 = .ok (.aload_n 0, 1) := by decide +kernel
theorem dX10_shape_14 : decode cX10_shape 14 = .ok (.getfield 36, 3) := by decide +kernel
theorem dX10_shape_17 : decode cX10_shape 17 = .ok (.invokevirtual 145, 3) := by decide +kernel
theorem dX10_shape_20 : decode cX10_shape 20 = .ok (.istore_n 2, 1) := by decide +kernel
theorem dX10_shape_21 : decode cX10_shape 21 = .ok (.aload_n 0, 1) := by decide +kernel
theorem dX10_shape_22 : decode cX10_shape 22 = .ok (.getfield 36, 3) := by decide +kernel
theorem dX10_shape_25 : decode cX10_shape 25 = .ok (.invokevirtual 149, 3) := by decide +kernel
theorem dX10_shape_28 : decode cX10_shape 28 = .ok (.iload_n 2, 1) := by decide +kernel
theorem dX10_shape_29 : decode cX10_shape 29 = .ok (.iconst (-1), 1) := by decide +kernel
theorem dX10_shape_30 : decode cX10_shape 30 = .ok (.if_icmp .eq 8, 3) := by decide +kernel
theorem dX10_shape_33 : decode cX10_shape 33 = .ok (.bipush (-100), 2) := by decide +kernel
theorem dX10_shape_35 : decode cX10_shape 35 = .ok (.iload_n 2, 1) := by decide +kernel
theorem dX10_shape_36 : decode cX10_shape 36 = .ok (.isub, 1) := by decide +kernel
theorem dX10_shape_37 : decode cX10_shape 37 = .ok (.ireturn, 1) := by decide +kernel
theorem dX10_shape_38 : decode cX10_shape 38 = .ok (.aload_n 0, 1) := by decide +kernel
theorem dX10_shape_39 : decode cX10_shape 39 = .ok (.getfield 29, 3) := by decide +kernel
theorem dX10_shape_42 : decode cX10_shape 42 = .ok (.aload_n 0, 1) := by decide +kernel
theorem dX10_shape_43 : decode cX10_shape 43 = .ok (.getfield 10, 3) := by decide +kernel
theorem dX10_shape_46 : decode cX10_shape 46 = .ok (.invokevirtual 99, 3) := by decide +kernel
theorem dX10_shape_49 : decode cX10_shape 49 = .ok (.aload_n 0, 1) := by decide +kernel
theorem dX10_shape_50 : decode cX10_shape 50 = .ok (.getfield 10, 3) := by decide +kernel
theorem dX10_shape_53 : decode cX10_shape 53 = .ok (.getfield 152, 3) := by decide +kernel
theorem dX10_shape_56 : decode cX10_shape 56 = .ok (.iload_n 1, 1) := by decide +kernel
theorem dX10_shape_57 : decode cX10_shape 57 = .ok (.aaload, 1) := by decide +kernel
theorem dX10_shape_58 : decode cX10_shape 58 = .ok (.aload_n 0, 1) := by decide +kernel
theorem dX10_shape_59 : decode cX10_shape 59 = .ok (.getfield 43, 3) := by decide +kernel
theorem dX10_shape_62 : decode cX10_shape 62 = .ok (.getfield 156, 3) := by decide +kernel
theorem dX10_shape_65 : decode cX10_shape 65 = .ok (.invokevirtual 160, 3) := by decide +kernel
theorem dX10_shape_68 : decode cX10_shape 68 = .ok (.aload_n 0, 1) := by decide +kernel
theorem dX10_shape_69 : decode cX10_shape 69 = .ok (.getfield 10, 3) := by decide +kernel
theorem dX10_shape_72 : decode cX10_shape 72 = .ok (.getfield 152, 3) := by decide +kernel
theorem dX10_shape_75 : decode cX10_shape 75 = .ok (.iload_n 1, 1) := by decide +kernel
theorem dX10_shape_76 : decode cX10_shape 76 = .ok (.aaload, 1) := by decide +kernel
theorem dX10_shape_77 : decode cX10_shape 77 = .ok (.getfield 166, 3) := by decide +kernel
theorem dX10_shape_80 : decode cX10_shape 80 = .ok (.ireturn, 1) := by decide +kernel
theorem dX10_choose_0 : decode cX10_choose 0 = .ok (.iload_n 1, 1) := by decide +kernel
theorem dX10_choose_1 : decode cX10_choose 1 = .ok (.invokestatic 142, 3) := by decide +kernel
theorem dX10_choose_4 : decode cX10_choose 4 = .ok (.ifCond .ne 5, 3) := by decide +kernel
theorem dX10_choose_7 : decode cX10_choose 7 = .ok (.iconst (-1), 1) := by decide +kernel
theorem dX10_choose_8 : decode cX10_choose 8 = .ok (.ireturn, 1) := by decide +kernel
theorem dX10_choose_9 : decode cX10_choose 9 = .ok (.aload_n 0, 1) := by decide +kernel
theorem dX10_choose_10 : decode cX10_choose 10 = .ok (.getfield 29, 3) := by decide +kernel
theorem dX10_choose_13 : decode cX10_choose 13 = .ok (.aload_n 0, 1) := by decide +kernel
theorem dX10_choose_14 : decode cX10_choose 14 = .ok (.getfield 10, 3) := by decide +kernel
theorem dX10_choose_17 : decode cX10_choose 17 = .ok (.invokevirtual 99, 3) := by decide +kernel
theorem dX10_choose_20 : decode cX10_choose 20 = .ok (.aload_n 0, 1) := by decide +kernel
theorem dX10_choose_21 : decode cX10_choose 21 = .ok (.getfield 10, 3) := by decide +kernel
theorem dX10_choose_24 : decode cX10_choose 24 = .ok (.getfield 169, 3) := by decide +kernel
theorem dX10_choose_27 : decode cX10_choose 27 = .ok (.istore_n 2, 1) := by decide +kernel
theorem dX10_choose_28 : decode cX10_choose 28 = .ok (.aload_n 0, 1) := by decide +kernel
theorem dX10_choose_29 : decode cX10_choose 29 = .ok (.getfield 10, 3) := by decide +kernel
theorem dX10_choose_32 : decode cX10_choose 32 = .ok (.iload_n 1, 1) := by decide +kernel
theorem dX10_choose_33 : decode cX10_choose 33 = .ok (.putfield 169, 3) := by decide +kernel
theorem dX10_choose_36 : decode cX10_choose 36 = .ok (.iload_n 2, 1) := by decide +kernel
theorem dX10_choose_37 : decode cX10_choose 37 = .ok (.ireturn, 1) := by decide +kernel
theorem dX10_rounds_0 : decode cX10_rounds 0 = .ok (.iload_n 1, 1) := by decide +kernel
theorem dX10_rounds_1 : decode cX10_rounds 1 = .ok (.iconst 1, 1) := by decide +kernel
theorem dX10_rounds_2 : decode cX10_rounds 2 = .ok (.if_icmp .lt 9, 3) := by decide +kernel
theorem dX10_rounds_5 : decode cX10_rounds 5 = .ok (.iload_n 1, 1) := by decide +kernel
theorem dX10_rounds_6 : decode cX10_rounds 6 = .ok (.bipush 40, 2) := by decide +kernel
theorem dX10_rounds_8 : decode cX10_rounds 8 = .ok (.if_icmp .le 6, 3) := by decide +kernel
theorem dX10_rounds_11 : decode cX10_rounds 11 = .ok (.bipush (-2), 2) := by decide +kernel
theorem dX10_rounds_13 : decode cX10_rounds 13 = .ok (.ireturn, 1) := by decide +kernel
theorem dX10_rounds_14 : decode cX10_rounds 14 = .ok (.aload_n 0, 1) := by decide +kernel
theorem dX10_rounds_15 : decode cX10_rounds 15 = .ok (.getfield 10, 3) := by decide +kernel
theorem dX10_rounds_18 : decode cX10_rounds 18 = .ok (.invokevirtual 114, 3) := by decide +kernel
theorem dX10_rounds_21 : decode cX10_rounds 21 = .ok (.ifCond .ne 6, 3) := by decide +kernel
theorem dX10_rounds_24 : decode cX10_rounds 24 = .ok (.bipush (-3), 2) := by decide +kernel
theorem dX10_rounds_26 : decode cX10_rounds 26 = .ok (.ireturn, 1) := by decide +kernel
theorem dX10_rounds_27 : decode cX10_rounds 27 = .ok (.aload_n 0, 1) := by decide +kernel
theorem dX10_rounds_28 : decode cX10_rounds 28 = .ok (.getfield 16, 3) := by decide +kernel
theorem dX10_rounds_31 : decode cX10_rounds 31 = .ok (.aload_n 0, 1) := by decide +kernel
theorem dX10_rounds_32 : decode cX10_rounds 32 = .ok (.getfield 10, 3) := by decide +kernel
theorem dX10_rounds_35 : decode cX10_rounds 35 = .ok (.invokevirtual 172, 3) := by decide +kernel
theorem dX10_rounds_38 : decode cX10_rounds 38 = .ok (.aload_n 0, 1) := by decide +kernel
theorem dX10_rounds_39 : decode cX10_rounds 39 = .ok (.getfield 29, 3) := by decide +kernel
theorem dX10_rounds_42 : decode cX10_rounds 42 = .ok (.aload_n 0, 1) := by decide +kernel
theorem dX10_rounds_43 : decode cX10_rounds 43 = .ok (.getfield 10, 3) := by decide +kernel
theorem dX10_rounds_46 : decode cX10_rounds 46 = .ok (.invokevirtual 99, 3) := by decide +kernel
theorem dX10_rounds_49 : decode cX10_rounds 49 = .ok (.iconst 0, 1) := by decide +kernel
theorem dX10_rounds_50 : decode cX10_rounds 50 = .ok (.istore_n 2, 1) := by decide +kernel
theorem dX10_rounds_51 : decode cX10_rounds 51 = .ok (.iload_n 2, 1) := by decide +kernel
theorem dX10_rounds_52 : decode cX10_rounds 52 = .ok (.iload_n 1, 1) := by decide +kernel
theorem dX10_rounds_53 : decode cX10_rounds 53 = .ok (.if_icmp .ge 16, 3) := by decide +kernel
theorem dX10_rounds_56 : decode cX10_rounds 56 = .ok (.aload_n 0, 1) := by decide +kernel
theorem dX10_rounds_57 : decode cX10_rounds 57 = .ok (.getfield 77, 3) := by decide +kernel
theorem dX10_rounds_60 : decode cX10_rounds 60 = .ok (.invokevirtual 174, 3) := by decide +kernel
theorem dX10_rounds_63 : decode cX10_rounds 63 = .ok (.iinc 2 1, 3) := by decide +kernel
theorem dX10_rounds_66 : decode cX10_rounds 66 = .ok (.goto (-15), 3) := by decide +kernel
theorem dX10_rounds_69 : decode cX10_rounds 69 = .ok (.aload_n 0, 1) := by decide +kernel
theorem dX10_rounds_70 : decode cX10_rounds 70 = .ok (.getfield 10, 3) := by decide +kernel
theorem dX10_rounds_73 : decode cX10_rounds 73 = .ok (.aload_n 0, 1) := by decide +kernel
theorem dX10_rounds_74 : decode cX10_rounds 74 = .ok (.getfield 16, 3) := by decide +kernel
theorem dX10_rounds_77 : decode cX10_rounds 77 = .ok (.invokevirtual 177, 3) := by decide +kernel
theorem dX10_rounds_80 : decode cX10_rounds 80 = .ok (.ireturn, 1) := by decide +kernel
theorem dX10_execute_0 : decode cX10_execute 0 = .ok (.aload_n 0, 1) := by decide +kernel
theorem dX10_execute_1 : decode cX10_execute 1 = .ok (.getfield 50, 3) := by decide +kernel
theorem dX10_execute_4 : decode cX10_execute 4 = .ok (.aload_n 0, 1) := by decide +kernel
theorem dX10_execute_5 : decode cX10_execute 5 = .ok (.getfield 36, 3) := by decide +kernel
theorem dX10_execute_8 : decode cX10_execute 8 = .ok (.invokevirtual 181, 3) := by decide +kernel
theorem dX10_execute_11 : decode cX10_execute 11 = .ok (.istore_n 1, 1) := by decide +kernel
theorem dX10_execute_12 : decode cX10_execute 12 = .ok (.aload_n 0, 1) := by decide +kernel
theorem dX10_execute_13 : decode cX10_execute 13 = .ok (.getfield 36, 3) := by decide +kernel
theorem dX10_execute_16 : decode cX10_execute 16 = .ok (.invokevirtual 149, 3) := by decide +kernel
theorem dX10_execute_19 : decode cX10_execute 19 = .ok (.iload_n 1, 1) := by decide +kernel
theorem dX10_execute_20 : decode cX10_execute 20 = .ok (.iconst (-1), 1) := by decide +kernel
theorem dX10_execute_21 : decode cX10_execute 21 = .ok (.if_icmp .eq 8, 3) := by decide +kernel
theorem dX10_execute_24 : decode cX10_execute 24 = .ok (.bipush (-100), 2) := by decide +kernel
theorem dX10_execute_26 : decode cX10_execute 26 = .ok (.iload_n 1, 1) := by decide +kernel
theorem dX10_execute_27 : decode cX10_execute 27 = .ok (.isub, 1) := by decide +kernel
theorem dX10_execute_28 : decode cX10_execute 28 = .ok (.ireturn, 1) := by decide +kernel
theorem dX10_execute_29 : decode cX10_execute 29 = .ok (.aload_n 0, 1) := by decide +kernel
theorem dX10_execute_30 : decode cX10_execute 30 = .ok (.getfield 16, 3) := by decide +kernel
theorem dX10_execute_33 : decode cX10_execute 33 = .ok (.aload_n 0, 1) := by decide +kernel
theorem dX10_execute_34 : decode cX10_execute 34 = .ok (.getfield 10, 3) := by decide +kernel
theorem dX10_execute_37 : decode cX10_execute 37 = .ok (.invokevirtual 172, 3) := by decide +kernel
theorem dX10_execute_40 : decode cX10_execute 40 = .ok (.iconst 0, 1) := by decide +kernel
theorem dX10_execute_41 : decode cX10_execute 41 = .ok (.istore_n 2, 1) := by decide +kernel
theorem dX10_execute_42 : decode cX10_execute 42 = .ok (.iload_n 2, 1) := by decide +kernel
theorem dX10_execute_43 : decode cX10_execute 43 = .ok (.aload_n 0, 1) := by decide +kernel
theorem dX10_execute_44 : decode cX10_execute 44 = .ok (.getfield 50, 3) := by decide +kernel
theorem dX10_execute_47 : decode cX10_execute 47 = .ok (.getfield 182, 3) := by decide +kernel
theorem dX10_execute_50 : decode cX10_execute 50 = .ok (.if_icmp .ge 69, 3) := by decide +kernel
theorem dX10_execute_53 : decode cX10_execute 53 = .ok (.aload_n 0, 1) := by decide +kernel
theorem dX10_execute_54 : decode cX10_execute 54 = .ok (.aload_n 0, 1) := by decide +kernel
theorem dX10_execute_55 : decode cX10_execute 55 = .ok (.getfield 50, 3) := by decide +kernel
theorem dX10_execute_58 : decode cX10_execute 58 = .ok (.getfield 183, 3) := by decide +kernel
theorem dX10_execute_61 : decode cX10_execute 61 = .ok (.iload_n 2, 1) := by decide +kernel
theorem dX10_execute_62 : decode cX10_execute 62 = .ok (.iaload, 1) := by decide +kernel
theorem dX10_execute_63 : decode cX10_execute 63 = .ok (.aload_n 0, 1) := by decide +kernel
theorem dX10_execute_64 : decode cX10_execute 64 = .ok (.getfield 50, 3) := by decide +kernel
theorem dX10_execute_67 : decode cX10_execute 67 = .ok (.getfield 186, 3) := by decide +kernel
theorem dX10_execute_70 : decode cX10_execute 70 = .ok (.iload_n 2, 1) := by decide +kernel
theorem dX10_execute_71 : decode cX10_execute 71 = .ok (.iaload, 1) := by decide +kernel
theorem dX10_execute_72 : decode cX10_execute 72 = .ok (.aload_n 0, 1) := by decide +kernel
theorem dX10_execute_73 : decode cX10_execute 73 = .ok (.getfield 50, 3) := by decide +kernel
theorem dX10_execute_76 : decode cX10_execute 76 = .ok (.getfield 189, 3) := by decide +kernel
theorem dX10_execute_79 : decode cX10_execute 79 = .ok (.iload_n 2, 1) := by decide +kernel
theorem dX10_execute_80 : decode cX10_execute 80 = .ok (.iaload, 1) := by decide +kernel
theorem dX10_execute_81 : decode cX10_execute 81 = .ok (.invokevirtual 192, 3) := by decide +kernel
theorem dX10_execute_84 : decode cX10_execute 84 = .ok (.istore_n 3, 1) := by decide +kernel
theorem dX10_execute_85 : decode cX10_execute 85 = .ok (.iload_n 3, 1) := by decide +kernel
theorem dX10_execute_86 : decode cX10_execute 86 = .ok (.ifCond .eq 27, 3) := by decide +kernel
theorem dX10_execute_89 : decode cX10_execute 89 = .ok (.aload_n 0, 1) := by decide +kernel
theorem dX10_execute_90 : decode cX10_execute 90 = .ok (.aload_n 0, 1) := by decide +kernel
theorem dX10_execute_91 : decode cX10_execute 91 = .ok (.getfield 16, 3) := by decide +kernel
theorem dX10_execute_94 : decode cX10_execute 94 = .ok (.invokevirtual 196, 3) := by decide +kernel
theorem dX10_execute_97 : decode cX10_execute 97 = .ok (.aload_n 0, 1) := by decide +kernel
theorem dX10_execute_98 : decode cX10_execute 98 = .ok (.iload_n 3, 1) := by decide +kernel
theorem dX10_execute_99 : decode cX10_execute 99 = .ok (.putfield 81, 3) := by decide +kernel
theorem dX10_execute_102 : decode cX10_execute 102 = .ok (.aload_n 0, 1) := by decide +kernel
theorem dX10_execute_103 : decode cX10_execute 103 = .ok (.iload_n 2, 1) := by decide +kernel
theorem dX10_execute_104 : decode cX10_execute 104 = .ok (.putfield 85, 3) := by decide +kernel
theorem dX10_execute_107 : decode cX10_execute 107 = .ok (.sipush (-200), 3) := by decide +kernel
theorem dX10_execute_110 : decode cX10_execute 110 = .ok (.iload_n 3, 1) := by decide +kernel
theorem dX10_execute_111 : decode cX10_execute 111 = .ok (.isub, 1) := by decide +kernel
theorem dX10_execute_112 : decode cX10_execute 112 = .ok (.ireturn, 1) := by decide +kernel
theorem dX10_execute_113 : decode cX10_execute 113 = .ok (.iinc 2 1, 3) := by decide +kernel
theorem dX10_execute_116 : decode cX10_execute 116 = .ok (.goto (-74), 3) := by decide +kernel
theorem dX10_execute_119 : decode cX10_execute 119 = .ok (.aload_n 0, 1) := by decide +kernel
theorem dX10_execute_120 : decode cX10_execute 120 = .ok (.getfield 29, 3) := by decide +kernel
theorem dX10_execute_123 : decode cX10_execute 123 = .ok (.aload_n 0, 1) := by decide +kernel
theorem dX10_execute_124 : decode cX10_execute 124 = .ok (.getfield 16, 3) := by decide +kernel
theorem dX10_execute_127 : decode cX10_execute 127 = .ok (.invokevirtual 99, 3) := by decide +kernel
theorem dX10_execute_130 : decode cX10_execute 130 = .ok (.aload_n 0, 1) := by decide +kernel
theorem dX10_execute_131 : decode cX10_execute 131 = .ok (.getfield 50, 3) := by decide +kernel
theorem dX10_execute_134 : decode cX10_execute 134 = .ok (.getfield 182, 3) := by decide +kernel
theorem dX10_execute_137 : decode cX10_execute 137 = .ok (.ireturn, 1) := by decide +kernel
theorem dX10_refusal_0 : decode cX10_refusal 0 = .ok (.iload_n 1, 1) := by decide +kernel
theorem dX10_refusal_1 : decode cX10_refusal 1 = .ok (.lookupswitch 37 #[(0, 27), (1, 32)], 27) := by decide +kernel
theorem dX10_refusal_28 : decode cX10_refusal 28 = .ok (.aload_n 0, 1) := by decide +kernel
theorem dX10_refusal_29 : decode cX10_refusal 29 = .ok (.getfield 81, 3) := by decide +kernel
theorem dX10_refusal_32 : decode cX10_refusal 32 = .ok (.ireturn, 1) := by decide +kernel
theorem dX10_refusal_33 : decode cX10_refusal 33 = .ok (.aload_n 0, 1) := by decide +kernel
theorem dX10_refusal_34 : decode cX10_refusal 34 = .ok (.getfield 85, 3) := by decide +kernel
theorem dX10_refusal_37 : decode cX10_refusal 37 = .ok (.ireturn, 1) := by decide +kernel
theorem dX10_refusal_38 : decode cX10_refusal 38 = .ok (.iconst (-1), 1) := by decide +kernel
theorem dX10_refusal_39 : decode cX10_refusal 39 = .ok (.ireturn, 1) := by decide +kernel
theorem dX10_member_0 : decode cX10_member 0 = .ok (.aload_n 0, 1) := by decide +kernel
theorem dX10_member_1 : decode cX10_member 1 = .ok (.getfield 10, 3) := by decide +kernel
theorem dX10_member_4 : decode cX10_member 4 = .ok (.iload_n 1, 1) := by decide +kernel
theorem dX10_member_5 : decode cX10_member 5 = .ok (.invokevirtual 106, 3) := by decide +kernel
theorem dX10_member_8 : decode cX10_member 8 = .ok (.ifCond .ne 5, 3) := by decide +kernel
theorem dX10_member_11 : decode cX10_member 11 = .ok (.iconst (-1), 1) := by decide +kernel
theorem dX10_member_12 : decode cX10_member 12 = .ok (.ireturn, 1) := by decide +kernel
theorem dX10_member_13 : decode cX10_member 13 = .ok (.iload_n 2, 1) := by decide +kernel
theorem dX10_member_14 : decode cX10_member 14 = .ok (.tableswitch 117 0 8 #[50, 60, 60, 60, 67, 77, 87, 97, 107], 50) := by decide +kernel
theorem dX10_member_64 : decode cX10_member 64 = .ok (.aload_n 0, 1) := by decide +kernel
theorem dX10_member_65 : decode cX10_member 65 = .ok (.getfield 10, 3) := by decide +kernel
theorem dX10_member_68 : decode cX10_member 68 = .ok (.getfield 199, 3) := by decide +kernel
theorem dX10_member_71 : decode cX10_member 71 = .ok (.iload_n 1, 1) := by decide +kernel
theorem dX10_member_72 : decode cX10_member 72 = .ok (.iaload, 1) := by decide +kernel
theorem dX10_member_73 : decode cX10_member 73 = .ok (.ireturn, 1) := by decide +kernel
theorem dX10_member_74 : decode cX10_member 74 = .ok (.aload_n 0, 1) := by decide +kernel
theorem dX10_member_75 : decode cX10_member 75 = .ok (.iload_n 1, 1) := by decide +kernel
theorem dX10_member_76 : decode cX10_member 76 = .ok (.iload_n 2, 1) := by decide +kernel
theorem dX10_member_77 : decode cX10_member 77 = .ok (.invokevirtual 202, 3) := by decide +kernel
theorem dX10_member_80 : decode cX10_member 80 = .ok (.ireturn, 1) := by decide +kernel
theorem dX10_member_81 : decode cX10_member 81 = .ok (.aload_n 0, 1) := by decide +kernel
theorem dX10_member_82 : decode cX10_member 82 = .ok (.getfield 10, 3) := by decide +kernel
theorem dX10_member_85 : decode cX10_member 85 = .ok (.getfield 205, 3) := by decide +kernel
theorem dX10_member_88 : decode cX10_member 88 = .ok (.iload_n 1, 1) := by decide +kernel
theorem dX10_member_89 : decode cX10_member 89 = .ok (.iaload, 1) := by decide +kernel
theorem dX10_member_90 : decode cX10_member 90 = .ok (.ireturn, 1) := by decide +kernel
theorem dX10_member_91 : decode cX10_member 91 = .ok (.aload_n 0, 1) := by decide +kernel
theorem dX10_member_92 : decode cX10_member 92 = .ok (.getfield 10, 3) := by decide +kernel
theorem dX10_member_95 : decode cX10_member 95 = .ok (.getfield 208, 3) := by decide +kernel
theorem dX10_member_98 : decode cX10_member 98 = .ok (.iload_n 1, 1) := by decide +kernel
theorem dX10_member_99 : decode cX10_member 99 = .ok (.iaload, 1) := by decide +kernel
theorem dX10_member_100 : decode cX10_member 100 = .ok (.ireturn, 1) := by decide +kernel
theorem dX10_member_101 : decode cX10_member 101 = .ok (.aload_n 0, 1) := by decide +kernel
theorem dX10_member_102 : decode cX10_member 102 = .ok (.getfield 10, 3) := by decide +kernel
theorem dX10_member_105 : decode cX10_member 105 = .ok (.getfield 211, 3) := by decide +kernel
theorem dX10_member_108 : decode cX10_member 108 = .ok (.iload_n 1, 1) := by decide +kernel
theorem dX10_member_109 : decode cX10_member 109 = .ok (.iaload, 1) := by decide +kernel
theorem dX10_member_110 : decode cX10_member 110 = .ok (.ireturn, 1) := by decide +kernel
theorem dX10_member_111 : decode cX10_member 111 = .ok (.aload_n 0, 1) := by decide +kernel
theorem dX10_member_112 : decode cX10_member 112 = .ok (.getfield 10, 3) := by decide +kernel
theorem dX10_member_115 : decode cX10_member 115 = .ok (.getfield 214, 3) := by decide +kernel
theorem dX10_member_118 : decode cX10_member 118 = .ok (.iload_n 1, 1) := by decide +kernel
theorem dX10_member_119 : decode cX10_member 119 = .ok (.iaload, 1) := by decide +kernel
theorem dX10_member_120 : decode cX10_member 120 = .ok (.ireturn, 1) := by decide +kernel
theorem dX10_member_121 : decode cX10_member 121 = .ok (.aload_n 0, 1) := by decide +kernel
theorem dX10_member_122 : decode cX10_member 122 = .ok (.getfield 10, 3) := by decide +kernel
theorem dX10_member_125 : decode cX10_member 125 = .ok (.getfield 217, 3) := by decide +kernel
theorem dX10_member_128 : decode cX10_member 128 = .ok (.iload_n 1, 1) := by decide +kernel
theorem dX10_member_129 : decode cX10_member 129 = .ok (.iaload, 1) := by decide +kernel
theorem dX10_member_130 : decode cX10_member 130 = .ok (.ireturn, 1) := by decide +kernel
theorem dX10_member_131 : decode cX10_member 131 = .ok (.iconst (-1), 1) := by decide +kernel
theorem dX10_member_132 : decode cX10_member 132 = .ok (.ireturn, 1) := by decide +kernel
theorem dX10_swarm_0 : decode cX10_swarm 0 = .ok (.iload_n 1, 1) := by decide +kernel
theorem dX10_swarm_1 : decode cX10_swarm 1 = .ok (.tableswitch 85 0 7 #[47, 55, 63, 71, 79, 79, 79, 79], 47) := by decide +kernel
theorem dX10_swarm_48 : decode cX10_swarm 48 = .ok (.aload_n 0, 1) := by decide +kernel
theorem dX10_swarm_49 : decode cX10_swarm 49 = .ok (.getfield 10, 3) := by decide +kernel
theorem dX10_swarm_52 : decode cX10_swarm 52 = .ok (.invokevirtual 114, 3) := by decide +kernel
theorem dX10_swarm_55 : decode cX10_swarm 55 = .ok (.ireturn, 1) := by decide +kernel
theorem dX10_swarm_56 : decode cX10_swarm 56 = .ok (.aload_n 0, 1) := by decide +kernel
theorem dX10_swarm_57 : decode cX10_swarm 57 = .ok (.getfield 10, 3) := by decide +kernel
theorem dX10_swarm_60 : decode cX10_swarm 60 = .ok (.invokevirtual 118, 3) := by decide +kernel
theorem dX10_swarm_63 : decode cX10_swarm 63 = .ok (.ireturn, 1) := by decide +kernel
theorem dX10_swarm_64 : decode cX10_swarm 64 = .ok (.aload_n 0, 1) := by decide +kernel
theorem dX10_swarm_65 : decode cX10_swarm 65 = .ok (.getfield 10, 3) := by decide +kernel
theorem dX10_swarm_68 : decode cX10_swarm 68 = .ok (.getfield 127, 3) := by decide +kernel
theorem dX10_swarm_71 : decode cX10_swarm 71 = .ok (.ireturn, 1) := by decide +kernel
theorem dX10_swarm_72 : decode cX10_swarm 72 = .ok (.aload_n 0, 1) := by decide +kernel
theorem dX10_swarm_73 : decode cX10_swarm 73 = .ok (.getfield 10, 3) := by decide +kernel
theorem dX10_swarm_76 : decode cX10_swarm 76 = .ok (.getfield 169, 3) := by decide +kernel
theorem dX10_swarm_79 : decode cX10_swarm 79 = .ok (.ireturn, 1) := by decide +kernel
theorem dX10_swarm_80 : decode cX10_swarm 80 = .ok (.aload_n 0, 1) := by decide +kernel
theorem dX10_swarm_81 : decode cX10_swarm 81 = .ok (.iload_n 1, 1) := by decide +kernel
theorem dX10_swarm_82 : decode cX10_swarm 82 = .ok (.invokevirtual 220, 3) := by decide +kernel
theorem dX10_swarm_85 : decode cX10_swarm 85 = .ok (.ireturn, 1) := by decide +kernel
theorem dX10_swarm_86 : decode cX10_swarm 86 = .ok (.iconst (-1), 1) := by decide +kernel
theorem dX10_swarm_87 : decode cX10_swarm 87 = .ok (.ireturn, 1) := by decide +kernel
theorem dX10_cell_0 : decode cX10_cell 0 = .ok (.iload_n 1, 1) := by decide +kernel
theorem dX10_cell_1 : decode cX10_cell 1 = .ok (.invokestatic 124, 3) := by decide +kernel
theorem dX10_cell_4 : decode cX10_cell 4 = .ok (.ifCond .ne 5, 3) := by decide +kernel
theorem dX10_cell_7 : decode cX10_cell 7 = .ok (.iconst (-1), 1) := by decide +kernel
theorem dX10_cell_8 : decode cX10_cell 8 = .ok (.ireturn, 1) := by decide +kernel
theorem dX10_cell_9 : decode cX10_cell 9 = .ok (.iload_n 2, 1) := by decide +kernel
theorem dX10_cell_10 : decode cX10_cell 10 = .ok (.tableswitch 99 0 4 #[34, 54, 81, 87, 93], 34) := by decide +kernel
theorem dX10_cell_44 : decode cX10_cell 44 = .ok (.aload_n 0, 1) := by decide +kernel
theorem dX10_cell_45 : decode cX10_cell 45 = .ok (.getfield 10, 3) := by decide +kernel
theorem dX10_cell_48 : decode cX10_cell 48 = .ok (.getfield 92, 3) := by decide +kernel
theorem dX10_cell_51 : decode cX10_cell 51 = .ok (.iload_n 1, 1) := by decide +kernel
theorem dX10_cell_52 : decode cX10_cell 52 = .ok (.iaload, 1) := by decide +kernel
theorem dX10_cell_53 : decode cX10_cell 53 = .ok (.bipush (-2), 2) := by decide +kernel
theorem dX10_cell_55 : decode cX10_cell 55 = .ok (.if_icmp .ne 7, 3) := by decide +kernel
theorem dX10_cell_58 : decode cX10_cell 58 = .ok (.iconst 1, 1) := by decide +kernel
theorem dX10_cell_59 : decode cX10_cell 59 = .ok (.goto 4, 3) := by decide +kernel
theorem dX10_cell_62 : decode cX10_cell 62 = .ok (.iconst 0, 1) := by decide +kernel
theorem dX10_cell_63 : decode cX10_cell 63 = .ok (.ireturn, 1) := by decide +kernel
theorem dX10_cell_64 : decode cX10_cell 64 = .ok (.aload_n 0, 1) := by decide +kernel
theorem dX10_cell_65 : decode cX10_cell 65 = .ok (.getfield 10, 3) := by decide +kernel
theorem dX10_cell_68 : decode cX10_cell 68 = .ok (.getfield 92, 3) := by decide +kernel
theorem dX10_cell_71 : decode cX10_cell 71 = .ok (.iload_n 1, 1) := by decide +kernel
theorem dX10_cell_72 : decode cX10_cell 72 = .ok (.iaload, 1) := by decide +kernel
theorem dX10_cell_73 : decode cX10_cell 73 = .ok (.ifCond .lt 15, 3) := by decide +kernel
theorem dX10_cell_76 : decode cX10_cell 76 = .ok (.aload_n 0, 1) := by decide +kernel
theorem dX10_cell_77 : decode cX10_cell 77 = .ok (.getfield 10, 3) := by decide +kernel
theorem dX10_cell_80 : decode cX10_cell 80 = .ok (.getfield 92, 3) := by decide +kernel
theorem dX10_cell_83 : decode cX10_cell 83 = .ok (.iload_n 1, 1) := by decide +kernel
theorem dX10_cell_84 : decode cX10_cell 84 = .ok (.iaload, 1) := by decide +kernel
theorem dX10_cell_85 : decode cX10_cell 85 = .ok (.goto 5, 3) := by decide +kernel
theorem dX10_cell_88 : decode cX10_cell 88 = .ok (.bipush (-5), 2) := by decide +kernel
theorem dX10_cell_90 : decode cX10_cell 90 = .ok (.ireturn, 1) := by decide +kernel
theorem dX10_cell_91 : decode cX10_cell 91 = .ok (.aload_n 0, 1) := by decide +kernel
theorem dX10_cell_92 : decode cX10_cell 92 = .ok (.iload_n 1, 1) := by decide +kernel
theorem dX10_cell_93 : decode cX10_cell 93 = .ok (.invokevirtual 223, 3) := by decide +kernel
theorem dX10_cell_96 : decode cX10_cell 96 = .ok (.ireturn, 1) := by decide +kernel
theorem dX10_cell_97 : decode cX10_cell 97 = .ok (.aload_n 0, 1) := by decide +kernel
theorem dX10_cell_98 : decode cX10_cell 98 = .ok (.iload_n 1, 1) := by decide +kernel
theorem dX10_cell_99 : decode cX10_cell 99 = .ok (.invokevirtual 226, 3) := by decide +kernel
theorem dX10_cell_102 : decode cX10_cell 102 = .ok (.ireturn, 1) := by decide +kernel
theorem dX10_cell_103 : decode cX10_cell 103 = .ok (.aload_n 0, 1) := by decide +kernel
theorem dX10_cell_104 : decode cX10_cell 104 = .ok (.iload_n 1, 1) := by decide +kernel
theorem dX10_cell_105 : decode cX10_cell 105 = .ok (.invokevirtual 229, 3) := by decide +kernel
theorem dX10_cell_108 : decode cX10_cell 108 = .ok (.ireturn, 1) := by decide +kernel
theorem dX10_cell_109 : decode cX10_cell 109 = .ok (.iconst (-1), 1) := by decide +kernel
theorem dX10_cell_110 : decode cX10_cell 110 = .ok (.ireturn, 1) := by decide +kernel
theorem dX10_distance_0 : decode cX10_distance 0 = .ok (.iload_n 1, 1) := by decide +kernel
theorem dX10_distance_1 : decode cX10_distance 1 = .ok (.invokestatic 124, 3) := by decide +kernel
theorem dX10_distance_4 : decode cX10_distance 4 = .ok (.ifCond .eq 10, 3) := by decide +kernel
theorem dX10_distance_7 : decode cX10_distance 7 = .ok (.iload_n 2, 1) := by decide +kernel
theorem dX10_distance_8 : decode cX10_distance 8 = .ok (.invokestatic 124, 3) := by decide +kernel
theorem dX10_distance_11 : decode cX10_distance 11 = .ok (.ifCond .ne 5, 3) := by decide +kernel
theorem dX10_distance_14 : decode cX10_distance 14 = .ok (.iconst (-1), 1) := by decide +kernel
theorem dX10_distance_15 : decode cX10_distance 15 = .ok (.ireturn, 1) := by decide +kernel
theorem dX10_distance_16 : decode cX10_distance 16 = .ok (.aload_n 0, 1) := by decide +kernel
theorem dX10_distance_17 : decode cX10_distance 17 = .ok (.getfield 59, 3) := by decide +kernel
theorem dX10_distance_20 : decode cX10_distance 20 = .ok (.iload_n 1, 1) := by decide +kernel
theorem dX10_distance_21 : decode cX10_distance 21 = .ok (.invokevirtual 232, 3) := by decide +kernel
theorem dX10_distance_24 : decode cX10_distance 24 = .ok (.iload_n 2, 1) := by decide +kernel
theorem dX10_distance_25 : decode cX10_distance 25 = .ok (.iaload, 1) := by decide +kernel
theorem dX10_distance_26 : decode cX10_distance 26 = .ok (.ireturn, 1) := by decide +kernel
theorem dX10_slot_0 : decode cX10_slot 0 = .ok (.iload_n 1, 1) := by decide +kernel
theorem dX10_slot_1 : decode cX10_slot 1 = .ok (.invokestatic 142, 3) := by decide +kernel
theorem dX10_slot_4 : decode cX10_slot 4 = .ok (.ifCond .eq 18, 3) := by decide +kernel
theorem dX10_slot_7 : decode cX10_slot 7 = .ok (.aload_n 0, 1) := by decide +kernel
theorem dX10_slot_8 : decode cX10_slot 8 = .ok (.getfield 10, 3) := by decide +kernel
theorem dX10_slot_11 : decode cX10_slot 11 = .ok (.getfield 152, 3) := by decide +kernel
theorem dX10_slot_14 : decode cX10_slot 14 = .ok (.iload_n 1, 1) := by decide +kernel
theorem dX10_slot_15 : decode cX10_slot 15 = .ok (.aaload, 1) := by decide +kernel
theorem dX10_slot_16 : decode cX10_slot 16 = .ok (.getfield 166, 3) := by decide +kernel
theorem dX10_slot_19 : decode cX10_slot 19 = .ok (.ifCond .ne 6, 3) := by decide +kernel
theorem dX10_slot_22 : decode cX10_slot 22 = .ok (.bipush (-100), 2) := by decide +kernel
theorem dX10_slot_24 : decode cX10_slot 24 = .ok (.ireturn, 1) := by decide +kernel
theorem dX10_slot_25 : decode cX10_slot 25 = .ok (.aload_n 0, 1) := by decide +kernel
theorem dX10_slot_26 : decode cX10_slot 26 = .ok (.getfield 10, 3) := by decide +kernel
theorem dX10_slot_29 : decode cX10_slot 29 = .ok (.getfield 152, 3) := by decide +kernel
theorem dX10_slot_32 : decode cX10_slot 32 = .ok (.iload_n 1, 1) := by decide +kernel
theorem dX10_slot_33 : decode cX10_slot 33 = .ok (.aaload, 1) := by decide +kernel
theorem dX10_slot_34 : decode cX10_slot 34 = .ok (.astore_n 3, 1) := by decide +kernel
theorem dX10_slot_35 : decode cX10_slot 35 = .ok (.iload_n 2, 1) := by decide +kernel
theorem dX10_slot_36 : decode cX10_slot 36 = .ok (.ifCond .ne 8, 3) := by decide +kernel
theorem dX10_slot_39 : decode cX10_slot 39 = .ok (.aload_n 3, 1) := by decide +kernel
theorem dX10_slot_40 : decode cX10_slot 40 = .ok (.getfield 166, 3) := by decide +kernel
theorem dX10_slot_43 : decode cX10_slot 43 = .ok (.ireturn, 1) := by decide +kernel
theorem dX10_slot_44 : decode cX10_slot 44 = .ok (.iload_n 2, 1) := by decide +kernel
theorem dX10_slot_45 : decode cX10_slot 45 = .ok (.iconst 1, 1) := by decide +kernel
theorem dX10_slot_46 : decode cX10_slot 46 = .ok (.if_icmp .ne 8, 3) := by decide +kernel
theorem dX10_slot_49 : decode cX10_slot 49 = .ok (.aload_n 3, 1) := by decide +kernel
theorem dX10_slot_50 : decode cX10_slot 50 = .ok (.getfield 236, 3) := by decide +kernel
theorem dX10_slot_53 : decode cX10_slot 53 = .ok (.ireturn, 1) := by decide +kernel
theorem dX10_slot_54 : decode cX10_slot 54 = .ok (.iload_n 2, 1) := by decide +kernel
theorem dX10_slot_55 : decode cX10_slot 55 = .ok (.bipush 10, 2) := by decide +kernel
theorem dX10_slot_57 : decode cX10_slot 57 = .ok (.if_icmp .lt 23, 3) := by decide +kernel
theorem dX10_slot_60 : decode cX10_slot 60 = .ok (.iload_n 2, 1) := by decide +kernel
theorem dX10_slot_61 : decode cX10_slot 61 = .ok (.bipush 10, 2) := by decide +kernel
theorem dX10_slot_63 : decode cX10_slot 63 = .ok (.aload_n 3, 1) := by decide +kernel
theorem dX10_slot_64 : decode cX10_slot 64 = .ok (.getfield 166, 3) := by decide +kernel
theorem dX10_slot_67 : decode cX10_slot 67 = .ok (.iadd, 1) := by decide +kernel
theorem dX10_slot_68 : decode cX10_slot 68 = .ok (.if_icmp .ge 12, 3) := by decide +kernel
theorem dX10_slot_71 : decode cX10_slot 71 = .ok (.aload_n 3, 1) := by decide +kernel
theorem dX10_slot_72 : decode cX10_slot 72 = .ok (.iload_n 2, 1) := by decide +kernel
theorem dX10_slot_73 : decode cX10_slot 73 = .ok (.bipush 10, 2) := by decide +kernel
theorem dX10_slot_75 : decode cX10_slot 75 = .ok (.isub, 1) := by decide +kernel
theorem dX10_slot_76 : decode cX10_slot 76 = .ok (.invokevirtual 239, 3) := by decide +kernel
theorem dX10_slot_79 : decode cX10_slot 79 = .ok (.ireturn, 1) := by decide +kernel
theorem dX10_slot_80 : decode cX10_slot 80 = .ok (.iload_n 2, 1) := by decide +kernel
theorem dX10_slot_81 : decode cX10_slot 81 = .ok (.bipush 30, 2) := by decide +kernel
theorem dX10_slot_83 : decode cX10_slot 83 = .ok (.if_icmp .lt 23, 3) := by decide +kernel
theorem dX10_slot_86 : decode cX10_slot 86 = .ok (.iload_n 2, 1) := by decide +kernel
theorem dX10_slot_87 : decode cX10_slot 87 = .ok (.bipush 30, 2) := by decide +kernel
theorem dX10_slot_89 : decode cX10_slot 89 = .ok (.aload_n 3, 1) := by decide +kernel
theorem dX10_slot_90 : decode cX10_slot 90 = .ok (.getfield 166, 3) := by decide +kernel
theorem dX10_slot_93 : decode cX10_slot 93 = .ok (.iadd, 1) := by decide +kernel
theorem dX10_slot_94 : decode cX10_slot 94 = .ok (.if_icmp .ge 12, 3) := by decide +kernel
theorem dX10_slot_97 : decode cX10_slot 97 = .ok (.aload_n 3, 1) := by decide +kernel
theorem dX10_slot_98 : decode cX10_slot 98 = .ok (.iload_n 2, 1) := by decide +kernel
theorem dX10_slot_99 : decode cX10_slot 99 = .ok (.bipush 30, 2) := by decide +kernel
theorem dX10_slot_101 : decode cX10_slot 101 = .ok (.isub, 1) := by decide +kernel
theorem dX10_slot_102 : decode cX10_slot 102 = .ok (.invokevirtual 242, 3) := by decide +kernel
theorem dX10_slot_105 : decode cX10_slot 105 = .ok (.ireturn, 1) := by decide +kernel
theorem dX10_slot_106 : decode cX10_slot 106 = .ok (.bipush (-100), 2) := by decide +kernel
theorem dX10_slot_108 : decode cX10_slot 108 = .ok (.ireturn, 1) := by decide +kernel
theorem dX10_recognized_0 : decode cX10_recognized 0 = .ok (.iload_n 1, 1) := by decide +kernel
theorem dX10_recognized_1 : decode cX10_recognized 1 = .ok (.invokestatic 142, 3) := by decide +kernel
theorem dX10_recognized_4 : decode cX10_recognized 4 = .ok (.ifCond .ne 5, 3) := by decide +kernel
theorem dX10_recognized_7 : decode cX10_recognized 7 = .ok (.iconst (-1), 1) := by decide +kernel
theorem dX10_recognized_8 : decode cX10_recognized 8 = .ok (.ireturn, 1) := by decide +kernel
theorem dX10_recognized_9 : decode cX10_recognized 9 = .ok (.aload_n 0, 1) := by decide +kernel
theorem dX10_recognized_10 : decode cX10_recognized 10 = .ok (.getfield 10, 3) := by decide +kernel
theorem dX10_recognized_13 : decode cX10_recognized 13 = .ok (.getfield 152, 3) := by decide +kernel
theorem dX10_recognized_16 : decode cX10_recognized 16 = .ok (.iload_n 1, 1) := by decide +kernel
theorem dX10_recognized_17 : decode cX10_recognized 17 = .ok (.aaload, 1) := by decide +kernel
theorem dX10_recognized_18 : decode cX10_recognized 18 = .ok (.getfield 166, 3) := by decide +kernel
theorem dX10_recognized_21 : decode cX10_recognized 21 = .ok (.ifCond .ne 6, 3) := by decide +kernel
theorem dX10_recognized_24 : decode cX10_recognized 24 = .ok (.bipush (-3), 2) := by decide +kernel
theorem dX10_recognized_26 : decode cX10_recognized 26 = .ok (.ireturn, 1) := by decide +kernel
theorem dX10_recognized_27 : decode cX10_recognized 27 = .ok (.aload_n 0, 1) := by decide +kernel
theorem dX10_recognized_28 : decode cX10_recognized 28 = .ok (.getfield 10, 3) := by decide +kernel
theorem dX10_recognized_31 : decode cX10_recognized 31 = .ok (.getfield 152, 3) := by decide +kernel
theorem dX10_recognized_34 : decode cX10_recognized 34 = .ok (.iload_n 1, 1) := by decide +kernel
theorem dX10_recognized_35 : decode cX10_recognized 35 = .ok (.aaload, 1) := by decide +kernel
theorem dX10_recognized_36 : decode cX10_recognized 36 = .ok (.aload_n 0, 1) := by decide +kernel
theorem dX10_recognized_37 : decode cX10_recognized 37 = .ok (.getfield 10, 3) := by decide +kernel
theorem dX10_recognized_40 : decode cX10_recognized 40 = .ok (.invokevirtual 245, 3) := by decide +kernel
theorem dX10_recognized_43 : decode cX10_recognized 43 = .ok (.ireturn, 1) := by decide +kernel
theorem dX10_healed_0 : decode cX10_healed 0 = .ok (.iload_n 1, 1) := by decide +kernel
theorem dX10_healed_1 : decode cX10_healed 1 = .ok (.ifCond .lt 9, 3) := by decide +kernel
theorem dX10_healed_4 : decode cX10_healed 4 = .ok (.iload_n 1, 1) := by decide +kernel
theorem dX10_healed_5 : decode cX10_healed 5 = .ok (.bipush 40, 2) := by decide +kernel
theorem dX10_healed_7 : decode cX10_healed 7 = .ok (.if_icmp .le 6, 3) := by decide +kernel
theorem dX10_healed_10 : decode cX10_healed 10 = .ok (.bipush (-2), 2) := by decide +kernel
theorem dX10_healed_12 : decode cX10_healed 12 = .ok (.ireturn, 1) := by decide +kernel
theorem dX10_healed_13 : decode cX10_healed 13 = .ok (.aload_n 0, 1) := by decide +kernel
theorem dX10_healed_14 : decode cX10_healed 14 = .ok (.getfield 10, 3) := by decide +kernel
theorem dX10_healed_17 : decode cX10_healed 17 = .ok (.invokevirtual 114, 3) := by decide +kernel
theorem dX10_healed_20 : decode cX10_healed 20 = .ok (.ifCond .ne 6, 3) := by decide +kernel
theorem dX10_healed_23 : decode cX10_healed 23 = .ok (.bipush (-3), 2) := by decide +kernel
theorem dX10_healed_25 : decode cX10_healed 25 = .ok (.ireturn, 1) := by decide +kernel
theorem dX10_healed_26 : decode cX10_healed 26 = .ok (.aload_n 0, 1) := by decide +kernel
theorem dX10_healed_27 : decode cX10_healed 27 = .ok (.bipush (-5), 2) := by decide +kernel
theorem dX10_healed_29 : decode cX10_healed 29 = .ok (.iload_n 1, 1) := by decide +kernel
theorem dX10_healed_30 : decode cX10_healed 30 = .ok (.invokevirtual 248, 3) := by decide +kernel
theorem dX10_healed_33 : decode cX10_healed 33 = .ok (.ireturn, 1) := by decide +kernel
theorem dX10_healedWithout_0 : decode cX10_healedWithout 0 = .ok (.aload_n 0, 1) := by decide +kernel
theorem dX10_healedWithout_1 : decode cX10_healedWithout 1 = .ok (.getfield 10, 3) := by decide +kernel
theorem dX10_healedWithout_4 : decode cX10_healedWithout 4 = .ok (.iload_n 1, 1) := by decide +kernel
theorem dX10_healedWithout_5 : decode cX10_healedWithout 5 = .ok (.invokevirtual 106, 3) := by decide +kernel
theorem dX10_healedWithout_8 : decode cX10_healedWithout 8 = .ok (.ifCond .ne 5, 3) := by decide +kernel
theorem dX10_healedWithout_11 : decode cX10_healedWithout 11 = .ok (.iconst (-1), 1) := by decide +kernel
theorem dX10_healedWithout_12 : decode cX10_healedWithout 12 = .ok (.ireturn, 1) := by decide +kernel
theorem dX10_healedWithout_13 : decode cX10_healedWithout 13 = .ok (.iload_n 2, 1) := by decide +kernel
theorem dX10_healedWithout_14 : decode cX10_healedWithout 14 = .ok (.ifCond .lt 9, 3) := by decide +kernel
theorem dX10_healedWithout_17 : decode cX10_healedWithout 17 = .ok (.iload_n 2, 1) := by decide +kernel
theorem dX10_healedWithout_18 : decode cX10_healedWithout 18 = .ok (.bipush 40, 2) := by decide +kernel
theorem dX10_healedWithout_20 : decode cX10_healedWithout 20 = .ok (.if_icmp .le 6, 3) := by decide +kernel
theorem dX10_healedWithout_23 : decode cX10_healedWithout 23 = .ok (.bipush (-2), 2) := by decide +kernel
theorem dX10_healedWithout_25 : decode cX10_healedWithout 25 = .ok (.ireturn, 1) := by decide +kernel
theorem dX10_healedWithout_26 : decode cX10_healedWithout 26 = .ok (.aload_n 0, 1) := by decide +kernel
theorem dX10_healedWithout_27 : decode cX10_healedWithout 27 = .ok (.getfield 10, 3) := by decide +kernel
theorem dX10_healedWithout_30 : decode cX10_healedWithout 30 = .ok (.invokevirtual 114, 3) := by decide +kernel
theorem dX10_healedWithout_33 : decode cX10_healedWithout 33 = .ok (.iconst 1, 1) := by decide +kernel
theorem dX10_healedWithout_34 : decode cX10_healedWithout 34 = .ok (.if_icmp .ne 6, 3) := by decide +kernel
theorem dX10_healedWithout_37 : decode cX10_healedWithout 37 = .ok (.bipush (-3), 2) := by decide +kernel
theorem dX10_healedWithout_39 : decode cX10_healedWithout 39 = .ok (.ireturn, 1) := by decide +kernel
theorem dX10_healedWithout_40 : decode cX10_healedWithout 40 = .ok (.aload_n 0, 1) := by decide +kernel
theorem dX10_healedWithout_41 : decode cX10_healedWithout 41 = .ok (.iload_n 1, 1) := by decide +kernel
theorem dX10_healedWithout_42 : decode cX10_healedWithout 42 = .ok (.iload_n 2, 1) := by decide +kernel
theorem dX10_healedWithout_43 : decode cX10_healedWithout 43 = .ok (.invokevirtual 248, 3) := by decide +kernel
theorem dX10_healedWithout_46 : decode cX10_healedWithout 46 = .ok (.ireturn, 1) := by decide +kernel
theorem dX10_again_0 : decode cX10_again 0 = .ok (.aload_n 0, 1) := by decide +kernel
theorem dX10_again_1 : decode cX10_again 1 = .ok (.getfield 68, 3) := by decide +kernel
theorem dX10_again_4 : decode cX10_again 4 = .ok (.invokevirtual 251, 3) := by decide +kernel
theorem dX10_again_7 : decode cX10_again 7 = .ok (.ireturn, 1) := by decide +kernel
theorem dX10_account_0 : decode cX10_account 0 = .ok (.iload_n 1, 1) := by decide +kernel
theorem dX10_account_1 : decode cX10_account 1 = .ok (.ifCond .lt 21, 3) := by decide +kernel
theorem dX10_account_4 : decode cX10_account 4 = .ok (.iload_n 1, 1) := by decide +kernel
theorem dX10_account_5 : decode cX10_account 5 = .ok (.bipush 8, 2) := by decide +kernel
theorem dX10_account_7 : decode cX10_account 7 = .ok (.if_icmp .ge 15, 3) := by decide +kernel
theorem dX10_account_10 : decode cX10_account 10 = .ok (.aload_n 0, 1) := by decide +kernel
theorem dX10_account_11 : decode cX10_account 11 = .ok (.getfield 10, 3) := by decide +kernel
theorem dX10_account_14 : decode cX10_account 14 = .ok (.getfield 96, 3) := by decide +kernel
theorem dX10_account_17 : decode cX10_account 17 = .ok (.iload_n 1, 1) := by decide +kernel
theorem dX10_account_18 : decode cX10_account 18 = .ok (.iaload, 1) := by decide +kernel
theorem dX10_account_19 : decode cX10_account 19 = .ok (.goto 4, 3) := by decide +kernel
theorem dX10_account_22 : decode cX10_account 22 = .ok (.iconst (-1), 1) := by decide +kernel
theorem dX10_account_23 : decode cX10_account 23 = .ok (.ireturn, 1) := by decide +kernel
theorem dX10_back_0 : decode cX10_back 0 = .ok (.aload_n 0, 1) := by decide +kernel
theorem dX10_back_1 : decode cX10_back 1 = .ok (.getfield 29, 3) := by decide +kernel
theorem dX10_back_4 : decode cX10_back 4 = .ok (.getfield 254, 3) := by decide +kernel
theorem dX10_back_7 : decode cX10_back 7 = .ok (.ifCond .ne 6, 3) := by decide +kernel
theorem dX10_back_10 : decode cX10_back 10 = .ok (.bipush (-3), 2) := by decide +kernel
theorem dX10_back_12 : decode cX10_back 12 = .ok (.ireturn, 1) := by decide +kernel
theorem dX10_back_13 : decode cX10_back 13 = .ok (.aload_n 0, 1) := by decide +kernel
theorem dX10_back_14 : decode cX10_back 14 = .ok (.aload_n 0, 1) := by decide +kernel
theorem dX10_back_15 : decode cX10_back 15 = .ok (.getfield 29, 3) := by decide +kernel
theorem dX10_back_18 : decode cX10_back 18 = .ok (.invokevirtual 255, 3) := by decide +kernel
theorem dX10_back_21 : decode cX10_back 21 = .ok (.invokevirtual 196, 3) := by decide +kernel
theorem dX10_back_24 : decode cX10_back 24 = .ok (.aload_n 0, 1) := by decide +kernel
theorem dX10_back_25 : decode cX10_back 25 = .ok (.getfield 29, 3) := by decide +kernel
theorem dX10_back_28 : decode cX10_back 28 = .ok (.getfield 254, 3) := by decide +kernel
theorem dX10_back_31 : decode cX10_back 31 = .ok (.ireturn, 1) := by decide +kernel
theorem dX10_image_0 : decode cX10_image 0 = .ok (.aload_n 0, 1) := by decide +kernel
theorem dX10_image_1 : decode cX10_image 1 = .ok (.getfield 19, 3) := by decide +kernel
theorem dX10_image_4 : decode cX10_image 4 = .ok (.aload_n 0, 1) := by decide +kernel
theorem dX10_image_5 : decode cX10_image 5 = .ok (.getfield 10, 3) := by decide +kernel
theorem dX10_image_8 : decode cX10_image 8 = .ok (.invokevirtual 172, 3) := by decide +kernel
theorem dX10_image_11 : decode cX10_image 11 = .ok (.aload_n 0, 1) := by decide +kernel
theorem dX10_image_12 : decode cX10_image 12 = .ok (.iconst 1, 1) := by decide +kernel
theorem dX10_image_13 : decode cX10_image 13 = .ok (.putfield 22, 3) := by decide +kernel
theorem dX10_image_16 : decode cX10_image 16 = .ok (.aload_n 0, 1) := by decide +kernel
theorem dX10_image_17 : decode cX10_image 17 = .ok (.getfield 10, 3) := by decide +kernel
theorem dX10_image_20 : decode cX10_image 20 = .ok (.invokevirtual 114, 3) := by decide +kernel
theorem dX10_image_23 : decode cX10_image 23 = .ok (.ireturn, 1) := by decide +kernel
theorem dX10_undo_0 : decode cX10_undo 0 = .ok (.aload_n 0, 1) := by decide +kernel
theorem dX10_undo_1 : decode cX10_undo 1 = .ok (.getfield 22, 3) := by decide +kernel
theorem dX10_undo_4 : decode cX10_undo 4 = .ok (.ifCond .ne 6, 3) := by decide +kernel
theorem dX10_undo_7 : decode cX10_undo 7 = .ok (.bipush (-3), 2) := by decide +kernel
theorem dX10_undo_9 : decode cX10_undo 9 = .ok (.ireturn, 1) := by decide +kernel
theorem dX10_undo_10 : decode cX10_undo 10 = .ok (.aload_n 0, 1) := by decide +kernel
theorem dX10_undo_11 : decode cX10_undo 11 = .ok (.aload_n 0, 1) := by decide +kernel
theorem dX10_undo_12 : decode cX10_undo 12 = .ok (.getfield 19, 3) := by decide +kernel
theorem dX10_undo_15 : decode cX10_undo 15 = .ok (.invokevirtual 196, 3) := by decide +kernel
theorem dX10_undo_18 : decode cX10_undo 18 = .ok (.aload_n 0, 1) := by decide +kernel
theorem dX10_undo_19 : decode cX10_undo 19 = .ok (.getfield 29, 3) := by decide +kernel
theorem dX10_undo_22 : decode cX10_undo 22 = .ok (.invokevirtual 259, 3) := by decide +kernel
theorem dX10_undo_25 : decode cX10_undo 25 = .ok (.aload_n 0, 1) := by decide +kernel
theorem dX10_undo_26 : decode cX10_undo 26 = .ok (.getfield 10, 3) := by decide +kernel
theorem dX10_undo_29 : decode cX10_undo 29 = .ok (.invokevirtual 114, 3) := by decide +kernel
theorem dX10_undo_32 : decode cX10_undo 32 = .ok (.ireturn, 1) := by decide +kernel
theorem dX10_count_0 : decode cX10_count 0 = .ok (.iload_n 1, 1) := by decide +kernel
theorem dX10_count_1 : decode cX10_count 1 = .ok (.tableswitch 51 0 2 #[27, 35, 43], 27) := by decide +kernel
theorem dX10_count_28 : decode cX10_count 28 = .ok (.aload_n 0, 1) := by decide +kernel
theorem dX10_count_29 : decode cX10_count 29 = .ok (.getfield 36, 3) := by decide +kernel
theorem dX10_count_32 : decode cX10_count 32 = .ok (.getfield 136, 3) := by decide +kernel
theorem dX10_count_35 : decode cX10_count 35 = .ok (.ireturn, 1) := by decide +kernel
theorem dX10_count_36 : decode cX10_count 36 = .ok (.aload_n 0, 1) := by decide +kernel
theorem dX10_count_37 : decode cX10_count 37 = .ok (.getfield 29, 3) := by decide +kernel
theorem dX10_count_40 : decode cX10_count 40 = .ok (.getfield 254, 3) := by decide +kernel
theorem dX10_count_43 : decode cX10_count 43 = .ok (.ireturn, 1) := by decide +kernel
theorem dX10_count_44 : decode cX10_count 44 = .ok (.aload_n 0, 1) := by decide +kernel
theorem dX10_count_45 : decode cX10_count 45 = .ok (.getfield 10, 3) := by decide +kernel
theorem dX10_count_48 : decode cX10_count 48 = .ok (.invokevirtual 262, 3) := by decide +kernel
theorem dX10_count_51 : decode cX10_count 51 = .ok (.ireturn, 1) := by decide +kernel
theorem dX10_count_52 : decode cX10_count 52 = .ok (.iconst (-1), 1) := by decide +kernel
theorem dX10_count_53 : decode cX10_count 53 = .ok (.ireturn, 1) := by decide +kernel
theorem dX10_isCell_0 : decode cX10_isCell 0 = .ok (.iload_n 0, 1) := by decide +kernel
theorem dX10_isCell_1 : decode cX10_isCell 1 = .ok (.ifCond .lt 13, 3) := by decide +kernel
theorem dX10_isCell_4 : decode cX10_isCell 4 = .ok (.iload_n 0, 1) := by decide +kernel
theorem dX10_isCell_5 : decode cX10_isCell 5 = .ok (.bipush 120, 2) := by decide +kernel
theorem dX10_isCell_7 : decode cX10_isCell 7 = .ok (.if_icmp .ge 7, 3) := by decide +kernel
theorem dX10_isCell_10 : decode cX10_isCell 10 = .ok (.iconst 1, 1) := by decide +kernel
theorem dX10_isCell_11 : decode cX10_isCell 11 = .ok (.goto 4, 3) := by decide +kernel
theorem dX10_isCell_14 : decode cX10_isCell 14 = .ok (.iconst 0, 1) := by decide +kernel
theorem dX10_isCell_15 : decode cX10_isCell 15 = .ok (.ireturn, 1) := by decide +kernel
theorem dX10_isShape_0 : decode cX10_isShape 0 = .ok (.iload_n 0, 1) := by decide +kernel
theorem dX10_isShape_1 : decode cX10_isShape 1 = .ok (.ifCond .lt 12, 3) := by decide +kernel
theorem dX10_isShape_4 : decode cX10_isShape 4 = .ok (.iload_n 0, 1) := by decide +kernel
theorem dX10_isShape_5 : decode cX10_isShape 5 = .ok (.iconst 3, 1) := by decide +kernel
theorem dX10_isShape_6 : decode cX10_isShape 6 = .ok (.if_icmp .ge 7, 3) := by decide +kernel
theorem dX10_isShape_9 : decode cX10_isShape 9 = .ok (.iconst 1, 1) := by decide +kernel
theorem dX10_isShape_10 : decode cX10_isShape 10 = .ok (.goto 4, 3) := by decide +kernel
theorem dX10_isShape_13 : decode cX10_isShape 13 = .ok (.iconst 0, 1) := by decide +kernel
theorem dX10_isShape_14 : decode cX10_isShape 14 = .ok (.ireturn, 1) := by decide +kernel
theorem dX10_isByte_0 : decode cX10_isByte 0 = .ok (.iload_n 0, 1) := by decide +kernel
theorem dX10_isByte_1 : decode cX10_isByte 1 = .ok (.ifCond .lt 13, 3) := by decide +kernel
theorem dX10_isByte_4 : decode cX10_isByte 4 = .ok (.iload_n 0, 1) := by decide +kernel
theorem dX10_isByte_5 : decode cX10_isByte 5 = .ok (.bipush 127, 2) := by decide +kernel
theorem dX10_isByte_7 : decode cX10_isByte 7 = .ok (.if_icmp .gt 7, 3) := by decide +kernel
theorem dX10_isByte_10 : decode cX10_isByte 10 = .ok (.iconst 1, 1) := by decide +kernel
theorem dX10_isByte_11 : decode cX10_isByte 11 = .ok (.goto 4, 3) := by decide +kernel
theorem dX10_isByte_14 : decode cX10_isByte 14 = .ok (.iconst 0, 1) := by decide +kernel
theorem dX10_isByte_15 : decode cX10_isByte 15 = .ok (.ireturn, 1) := by decide +kernel
theorem dX10_cellAt_0 : decode cX10_cellAt 0 = .ok (.iload_n 0, 1) := by decide +kernel
theorem dX10_cellAt_1 : decode cX10_cellAt 1 = .ok (.ifCond .lt 23, 3) := by decide +kernel
theorem dX10_cellAt_4 : decode cX10_cellAt 4 = .ok (.iload_n 0, 1) := by decide +kernel
theorem dX10_cellAt_5 : decode cX10_cellAt 5 = .ok (.bipush 12, 2) := by decide +kernel
theorem dX10_cellAt_7 : decode cX10_cellAt 7 = .ok (.if_icmp .ge 17, 3) := by decide +kernel
theorem dX10_cellAt_10 : decode cX10_cellAt 10 = .ok (.iload_n 1, 1) := by decide +kernel
theorem dX10_cellAt_11 : decode cX10_cellAt 11 = .ok (.ifCond .lt 13, 3) := by decide +kernel
theorem dX10_cellAt_14 : decode cX10_cellAt 14 = .ok (.iload_n 1, 1) := by decide +kernel
theorem dX10_cellAt_15 : decode cX10_cellAt 15 = .ok (.bipush 10, 2) := by decide +kernel
theorem dX10_cellAt_17 : decode cX10_cellAt 17 = .ok (.if_icmp .ge 7, 3) := by decide +kernel
theorem dX10_cellAt_20 : decode cX10_cellAt 20 = .ok (.iconst 1, 1) := by decide +kernel
theorem dX10_cellAt_21 : decode cX10_cellAt 21 = .ok (.goto 4, 3) := by decide +kernel
theorem dX10_cellAt_24 : decode cX10_cellAt 24 = .ok (.iconst 0, 1) := by decide +kernel
theorem dX10_cellAt_25 : decode cX10_cellAt 25 = .ok (.istore_n 2, 1) := by decide +kernel
theorem dX10_cellAt_26 : decode cX10_cellAt 26 = .ok (.iload_n 2, 1) := by decide +kernel
theorem dX10_cellAt_27 : decode cX10_cellAt 27 = .ok (.ifCond .eq 12, 3) := by decide +kernel
theorem dX10_cellAt_30 : decode cX10_cellAt 30 = .ok (.bipush 12, 2) := by decide +kernel
theorem dX10_cellAt_32 : decode cX10_cellAt 32 = .ok (.iload_n 1, 1) := by decide +kernel
theorem dX10_cellAt_33 : decode cX10_cellAt 33 = .ok (.imul, 1) := by decide +kernel
theorem dX10_cellAt_34 : decode cX10_cellAt 34 = .ok (.iload_n 0, 1) := by decide +kernel
theorem dX10_cellAt_35 : decode cX10_cellAt 35 = .ok (.iadd, 1) := by decide +kernel
theorem dX10_cellAt_36 : decode cX10_cellAt 36 = .ok (.goto 5, 3) := by decide +kernel
theorem dX10_cellAt_39 : decode cX10_cellAt 39 = .ok (.bipush (-5), 2) := by decide +kernel
theorem dX10_cellAt_41 : decode cX10_cellAt 41 = .ok (.ireturn, 1) := by decide +kernel
theorem dX10_neighbor_0 : decode cX10_neighbor 0 = .ok (.iload_n 1, 1) := by decide +kernel
theorem dX10_neighbor_1 : decode cX10_neighbor 1 = .ok (.tableswitch 84 0 2 #[27, 47, 68], 27) := by decide +kernel
theorem dX10_neighbor_28 : decode cX10_neighbor 28 = .ok (.iload_n 0, 1) := by decide +kernel
theorem dX10_neighbor_29 : decode cX10_neighbor 29 = .ok (.bipush 12, 2) := by decide +kernel
theorem dX10_neighbor_31 : decode cX10_neighbor 31 = .ok (.irem, 1) := by decide +kernel
theorem dX10_neighbor_32 : decode cX10_neighbor 32 = .ok (.iconst 1, 1) := by decide +kernel
theorem dX10_neighbor_33 : decode cX10_neighbor 33 = .ok (.iadd, 1) := by decide +kernel
theorem dX10_neighbor_34 : decode cX10_neighbor 34 = .ok (.bipush 12, 2) := by decide +kernel
theorem dX10_neighbor_36 : decode cX10_neighbor 36 = .ok (.if_icmp .ge 9, 3) := by decide +kernel
theorem dX10_neighbor_39 : decode cX10_neighbor 39 = .ok (.iload_n 0, 1) := by decide +kernel
theorem dX10_neighbor_40 : decode cX10_neighbor 40 = .ok (.iconst 1, 1) := by decide +kernel
theorem dX10_neighbor_41 : decode cX10_neighbor 41 = .ok (.iadd, 1) := by decide +kernel
theorem dX10_neighbor_42 : decode cX10_neighbor 42 = .ok (.goto 5, 3) := by decide +kernel
theorem dX10_neighbor_45 : decode cX10_neighbor 45 = .ok (.bipush (-5), 2) := by decide +kernel
theorem dX10_neighbor_47 : decode cX10_neighbor 47 = .ok (.ireturn, 1) := by decide +kernel
theorem dX10_neighbor_48 : decode cX10_neighbor 48 = .ok (.iload_n 0, 1) := by decide +kernel
theorem dX10_neighbor_49 : decode cX10_neighbor 49 = .ok (.bipush 12, 2) := by decide +kernel
theorem dX10_neighbor_51 : decode cX10_neighbor 51 = .ok (.idiv, 1) := by decide +kernel
theorem dX10_neighbor_52 : decode cX10_neighbor 52 = .ok (.iconst 1, 1) := by decide +kernel
theorem dX10_neighbor_53 : decode cX10_neighbor 53 = .ok (.iadd, 1) := by decide +kernel
theorem dX10_neighbor_54 : decode cX10_neighbor 54 = .ok (.bipush 10, 2) := by decide +kernel
theorem dX10_neighbor_56 : decode cX10_neighbor 56 = .ok (.if_icmp .ge 10, 3) := by decide +kernel
theorem dX10_neighbor_59 : decode cX10_neighbor 59 = .ok (.iload_n 0, 1) := by decide +kernel
theorem dX10_neighbor_60 : decode cX10_neighbor 60 = .ok (.bipush 12, 2) := by decide +kernel
theorem dX10_neighbor_62 : decode cX10_neighbor 62 = .ok (.iadd, 1) := by decide +kernel
theorem dX10_neighbor_63 : decode cX10_neighbor 63 = .ok (.goto 5, 3) := by decide +kernel
theorem dX10_neighbor_66 : decode cX10_neighbor 66 = .ok (.bipush (-5), 2) := by decide +kernel
theorem dX10_neighbor_68 : decode cX10_neighbor 68 = .ok (.ireturn, 1) := by decide +kernel
theorem dX10_neighbor_69 : decode cX10_neighbor 69 = .ok (.iload_n 0, 1) := by decide +kernel
theorem dX10_neighbor_70 : decode cX10_neighbor 70 = .ok (.bipush 12, 2) := by decide +kernel
theorem dX10_neighbor_72 : decode cX10_neighbor 72 = .ok (.irem, 1) := by decide +kernel
theorem dX10_neighbor_73 : decode cX10_neighbor 73 = .ok (.ifCond .le 9, 3) := by decide +kernel
theorem dX10_neighbor_76 : decode cX10_neighbor 76 = .ok (.iload_n 0, 1) := by decide +kernel
theorem dX10_neighbor_77 : decode cX10_neighbor 77 = .ok (.iconst 1, 1) := by decide +kernel
theorem dX10_neighbor_78 : decode cX10_neighbor 78 = .ok (.isub, 1) := by decide +kernel
theorem dX10_neighbor_79 : decode cX10_neighbor 79 = .ok (.goto 5, 3) := by decide +kernel
theorem dX10_neighbor_82 : decode cX10_neighbor 82 = .ok (.bipush (-5), 2) := by decide +kernel
theorem dX10_neighbor_84 : decode cX10_neighbor 84 = .ok (.ireturn, 1) := by decide +kernel
theorem dX10_neighbor_85 : decode cX10_neighbor 85 = .ok (.iload_n 0, 1) := by decide +kernel
theorem dX10_neighbor_86 : decode cX10_neighbor 86 = .ok (.bipush 12, 2) := by decide +kernel
theorem dX10_neighbor_88 : decode cX10_neighbor 88 = .ok (.idiv, 1) := by decide +kernel
theorem dX10_neighbor_89 : decode cX10_neighbor 89 = .ok (.ifCond .le 10, 3) := by decide +kernel
theorem dX10_neighbor_92 : decode cX10_neighbor 92 = .ok (.iload_n 0, 1) := by decide +kernel
theorem dX10_neighbor_93 : decode cX10_neighbor 93 = .ok (.bipush 12, 2) := by decide +kernel
theorem dX10_neighbor_95 : decode cX10_neighbor 95 = .ok (.isub, 1) := by decide +kernel
theorem dX10_neighbor_96 : decode cX10_neighbor 96 = .ok (.goto 5, 3) := by decide +kernel
theorem dX10_neighbor_99 : decode cX10_neighbor 99 = .ok (.bipush (-5), 2) := by decide +kernel
theorem dX10_neighbor_101 : decode cX10_neighbor 101 = .ok (.ireturn, 1) := by decide +kernel
theorem dX10_restore_0 : decode cX10_restore 0 = .ok (.aload_n 0, 1) := by decide +kernel
theorem dX10_restore_1 : decode cX10_restore 1 = .ok (.getfield 10, 3) := by decide +kernel
theorem dX10_restore_4 : decode cX10_restore 4 = .ok (.aload_n 1, 1) := by decide +kernel
theorem dX10_restore_5 : decode cX10_restore 5 = .ok (.invokevirtual 172, 3) := by decide +kernel
theorem dX10_restore_8 : decode cX10_restore 8 = .ok (.aload_n 0, 1) := by decide +kernel
theorem dX10_restore_9 : decode cX10_restore 9 = .ok (.getfield 59, 3) := by decide +kernel
theorem dX10_restore_12 : decode cX10_restore 12 = .ok (.invokevirtual 265, 3) := by decide +kernel
theorem dX10_restore_15 : decode cX10_restore 15 = .ok (.return_, 1) := by decide +kernel
theorem dX10_turnWall_0 : decode cX10_turnWall 0 = .ok (.aload_n 0, 1) := by decide +kernel
theorem dX10_turnWall_1 : decode cX10_turnWall 1 = .ok (.getfield 10, 3) := by decide +kernel
theorem dX10_turnWall_4 : decode cX10_turnWall 4 = .ok (.iload_n 1, 1) := by decide +kernel
theorem dX10_turnWall_5 : decode cX10_turnWall 5 = .ok (.invokevirtual 266, 3) := by decide +kernel
theorem dX10_turnWall_8 : decode cX10_turnWall 8 = .ok (.aload_n 0, 1) := by decide +kernel
theorem dX10_turnWall_9 : decode cX10_turnWall 9 = .ok (.getfield 59, 3) := by decide +kernel
theorem dX10_turnWall_12 : decode cX10_turnWall 12 = .ok (.invokevirtual 265, 3) := by decide +kernel
theorem dX10_turnWall_15 : decode cX10_turnWall 15 = .ok (.return_, 1) := by decide +kernel
theorem dX10_obey_0 : decode cX10_obey 0 = .ok (.iload_n 1, 1) := by decide +kernel
theorem dX10_obey_1 : decode cX10_obey 1 = .ok (.lookupswitch 93 #[(97, 51), (108, 81), (111, 61), (116, 71), (120, 87)], 51) := by decide +kernel
theorem dX10_obey_52 : decode cX10_obey 52 = .ok (.aload_n 0, 1) := by decide +kernel
theorem dX10_obey_53 : decode cX10_obey 53 = .ok (.iload_n 2, 1) := by decide +kernel
theorem dX10_obey_54 : decode cX10_obey 54 = .ok (.iload_n 3, 1) := by decide +kernel
theorem dX10_obey_55 : decode cX10_obey 55 = .ok (.invokestatic 88, 3) := by decide +kernel
theorem dX10_obey_58 : decode cX10_obey 58 = .ok (.invokevirtual 267, 3) := by decide +kernel
theorem dX10_obey_61 : decode cX10_obey 61 = .ok (.ireturn, 1) := by decide +kernel
theorem dX10_obey_62 : decode cX10_obey 62 = .ok (.aload_n 0, 1) := by decide +kernel
theorem dX10_obey_63 : decode cX10_obey 63 = .ok (.iload_n 2, 1) := by decide +kernel
theorem dX10_obey_64 : decode cX10_obey 64 = .ok (.iload_n 3, 1) := by decide +kernel
theorem dX10_obey_65 : decode cX10_obey 65 = .ok (.invokestatic 88, 3) := by decide +kernel
theorem dX10_obey_68 : decode cX10_obey 68 = .ok (.invokevirtual 270, 3) := by decide +kernel
theorem dX10_obey_71 : decode cX10_obey 71 = .ok (.ireturn, 1) := by decide +kernel
theorem dX10_obey_72 : decode cX10_obey 72 = .ok (.aload_n 0, 1) := by decide +kernel
theorem dX10_obey_73 : decode cX10_obey 73 = .ok (.iload_n 2, 1) := by decide +kernel
theorem dX10_obey_74 : decode cX10_obey 74 = .ok (.iload_n 3, 1) := by decide +kernel
theorem dX10_obey_75 : decode cX10_obey 75 = .ok (.invokestatic 88, 3) := by decide +kernel
theorem dX10_obey_78 : decode cX10_obey 78 = .ok (.invokevirtual 273, 3) := by decide +kernel
theorem dX10_obey_81 : decode cX10_obey 81 = .ok (.ireturn, 1) := by decide +kernel
theorem dX10_obey_82 : decode cX10_obey 82 = .ok (.aload_n 0, 1) := by decide +kernel
theorem dX10_obey_83 : decode cX10_obey 83 = .ok (.iload_n 2, 1) := by decide +kernel
theorem dX10_obey_84 : decode cX10_obey 84 = .ok (.invokevirtual 276, 3) := by decide +kernel
theorem dX10_obey_87 : decode cX10_obey 87 = .ok (.ireturn, 1) := by decide +kernel
theorem dX10_obey_88 : decode cX10_obey 88 = .ok (.aload_n 0, 1) := by decide +kernel
theorem dX10_obey_89 : decode cX10_obey 89 = .ok (.iload_n 2, 1) := by decide +kernel
theorem dX10_obey_90 : decode cX10_obey 90 = .ok (.invokevirtual 279, 3) := by decide +kernel
theorem dX10_obey_93 : decode cX10_obey 93 = .ok (.ireturn, 1) := by decide +kernel
theorem dX10_obey_94 : decode cX10_obey 94 = .ok (.aload_n 0, 1) := by decide +kernel
theorem dX10_obey_95 : decode cX10_obey 95 = .ok (.getfield 10, 3) := by decide +kernel
theorem dX10_obey_98 : decode cX10_obey 98 = .ok (.invokevirtual 114, 3) := by decide +kernel
theorem dX10_obey_101 : decode cX10_obey 101 = .ok (.ifCond .ne 5, 3) := by decide +kernel
theorem dX10_obey_104 : decode cX10_obey 104 = .ok (.iconst 5, 1) := by decide +kernel
theorem dX10_obey_105 : decode cX10_obey 105 = .ok (.ireturn, 1) := by decide +kernel
theorem dX10_obey_106 : decode cX10_obey 106 = .ok (.iload_n 2, 1) := by decide +kernel
theorem dX10_obey_107 : decode cX10_obey 107 = .ok (.iconst 1, 1) := by decide +kernel
theorem dX10_obey_108 : decode cX10_obey 108 = .ok (.if_icmp .lt 9, 3) := by decide +kernel
theorem dX10_obey_111 : decode cX10_obey 111 = .ok (.iload_n 2, 1) := by decide +kernel
theorem dX10_obey_112 : decode cX10_obey 112 = .ok (.bipush 40, 2) := by decide +kernel
theorem dX10_obey_114 : decode cX10_obey 114 = .ok (.if_icmp .le 6, 3) := by decide +kernel
theorem dX10_obey_117 : decode cX10_obey 117 = .ok (.bipush 6, 2) := by decide +kernel
theorem dX10_obey_119 : decode cX10_obey 119 = .ok (.ireturn, 1) := by decide +kernel
theorem dX10_obey_120 : decode cX10_obey 120 = .ok (.iconst 0, 1) := by decide +kernel
theorem dX10_obey_121 : decode cX10_obey 121 = .ok (.istore 4, 2) := by decide +kernel
theorem dX10_obey_123 : decode cX10_obey 123 = .ok (.iload 4, 2) := by decide +kernel
theorem dX10_obey_125 : decode cX10_obey 125 = .ok (.iload_n 2, 1) := by decide +kernel
theorem dX10_obey_126 : decode cX10_obey 126 = .ok (.if_icmp .ge 16, 3) := by decide +kernel
theorem dX10_obey_129 : decode cX10_obey 129 = .ok (.aload_n 0, 1) := by decide +kernel
theorem dX10_obey_130 : decode cX10_obey 130 = .ok (.getfield 77, 3) := by decide +kernel
theorem dX10_obey_133 : decode cX10_obey 133 = .ok (.invokevirtual 174, 3) := by decide +kernel
theorem dX10_obey_136 : decode cX10_obey 136 = .ok (.iinc 4 1, 3) := by decide +kernel
theorem dX10_obey_139 : decode cX10_obey 139 = .ok (.goto (-16), 3) := by decide +kernel
theorem dX10_obey_142 : decode cX10_obey 142 = .ok (.iconst 0, 1) := by decide +kernel
theorem dX10_obey_143 : decode cX10_obey 143 = .ok (.ireturn, 1) := by decide +kernel
theorem dX10_obeyAdding_0 : decode cX10_obeyAdding 0 = .ok (.iload_n 1, 1) := by decide +kernel
theorem dX10_obeyAdding_1 : decode cX10_obeyAdding 1 = .ok (.ifCond .ge 5, 3) := by decide +kernel
theorem dX10_obeyAdding_4 : decode cX10_obeyAdding 4 = .ok (.iconst 1, 1) := by decide +kernel
theorem dX10_obeyAdding_5 : decode cX10_obeyAdding 5 = .ok (.ireturn, 1) := by decide +kernel
theorem dX10_obeyAdding_6 : decode cX10_obeyAdding 6 = .ok (.aload_n 0, 1) := by decide +kernel
theorem dX10_obeyAdding_7 : decode cX10_obeyAdding 7 = .ok (.getfield 10, 3) := by decide +kernel
theorem dX10_obeyAdding_10 : decode cX10_obeyAdding 10 = .ok (.getfield 92, 3) := by decide +kernel
theorem dX10_obeyAdding_13 : decode cX10_obeyAdding 13 = .ok (.iload_n 1, 1) := by decide +kernel
theorem dX10_obeyAdding_14 : decode cX10_obeyAdding 14 = .ok (.iaload, 1) := by decide +kernel
theorem dX10_obeyAdding_15 : decode cX10_obeyAdding 15 = .ok (.bipush (-2), 2) := by decide +kernel
theorem dX10_obeyAdding_17 : decode cX10_obeyAdding 17 = .ok (.if_icmp .ne 5, 3) := by decide +kernel
theorem dX10_obeyAdding_20 : decode cX10_obeyAdding 20 = .ok (.iconst 2, 1) := by decide +kernel
theorem dX10_obeyAdding_21 : decode cX10_obeyAdding 21 = .ok (.ireturn, 1) := by decide +kernel
theorem dX10_obeyAdding_22 : decode cX10_obeyAdding 22 = .ok (.aload_n 0, 1) := by decide +kernel
theorem dX10_obeyAdding_23 : decode cX10_obeyAdding 23 = .ok (.getfield 10, 3) := by decide +kernel
theorem dX10_obeyAdding_26 : decode cX10_obeyAdding 26 = .ok (.getfield 92, 3) := by decide +kernel
theorem dX10_obeyAdding_29 : decode cX10_obeyAdding 29 = .ok (.iload_n 1, 1) := by decide +kernel
theorem dX10_obeyAdding_30 : decode cX10_obeyAdding 30 = .ok (.iaload, 1) := by decide +kernel
theorem dX10_obeyAdding_31 : decode cX10_obeyAdding 31 = .ok (.ifCond .lt 5, 3) := by decide +kernel
theorem dX10_obeyAdding_34 : decode cX10_obeyAdding 34 = .ok (.iconst 3, 1) := by decide +kernel
theorem dX10_obeyAdding_35 : decode cX10_obeyAdding 35 = .ok (.ireturn, 1) := by decide +kernel
theorem dX10_obeyAdding_36 : decode cX10_obeyAdding 36 = .ok (.aload_n 0, 1) := by decide +kernel
theorem dX10_obeyAdding_37 : decode cX10_obeyAdding 37 = .ok (.getfield 10, 3) := by decide +kernel
theorem dX10_obeyAdding_40 : decode cX10_obeyAdding 40 = .ok (.getfield 96, 3) := by decide +kernel
theorem dX10_obeyAdding_43 : decode cX10_obeyAdding 43 = .ok (.bipush 7, 2) := by decide +kernel
theorem dX10_obeyAdding_45 : decode cX10_obeyAdding 45 = .ok (.iaload, 1) := by decide +kernel
theorem dX10_obeyAdding_46 : decode cX10_obeyAdding 46 = .ok (.bipush 10, 2) := by decide +kernel
theorem dX10_obeyAdding_48 : decode cX10_obeyAdding 48 = .ok (.if_icmp .lt 5, 3) := by decide +kernel
theorem dX10_obeyAdding_51 : decode cX10_obeyAdding 51 = .ok (.iconst 4, 1) := by decide +kernel
theorem dX10_obeyAdding_52 : decode cX10_obeyAdding 52 = .ok (.ireturn, 1) := by decide +kernel
theorem dX10_obeyAdding_53 : decode cX10_obeyAdding 53 = .ok (.aload_n 0, 1) := by decide +kernel
theorem dX10_obeyAdding_54 : decode cX10_obeyAdding 54 = .ok (.getfield 10, 3) := by decide +kernel
theorem dX10_obeyAdding_57 : decode cX10_obeyAdding 57 = .ok (.iload_n 1, 1) := by decide +kernel
theorem dX10_obeyAdding_58 : decode cX10_obeyAdding 58 = .ok (.invokevirtual 102, 3) := by decide +kernel
theorem dX10_obeyAdding_61 : decode cX10_obeyAdding 61 = .ok (.pop, 1) := by decide +kernel
theorem dX10_obeyAdding_62 : decode cX10_obeyAdding 62 = .ok (.iconst 0, 1) := by decide +kernel
theorem dX10_obeyAdding_63 : decode cX10_obeyAdding 63 = .ok (.ireturn, 1) := by decide +kernel
theorem dX10_obeyWall_0 : decode cX10_obeyWall 0 = .ok (.iload_n 1, 1) := by decide +kernel
theorem dX10_obeyWall_1 : decode cX10_obeyWall 1 = .ok (.ifCond .ge 5, 3) := by decide +kernel
theorem dX10_obeyWall_4 : decode cX10_obeyWall 4 = .ok (.iconst 1, 1) := by decide +kernel
theorem dX10_obeyWall_5 : decode cX10_obeyWall 5 = .ok (.ireturn, 1) := by decide +kernel
theorem dX10_obeyWall_6 : decode cX10_obeyWall 6 = .ok (.aload_n 0, 1) := by decide +kernel
theorem dX10_obeyWall_7 : decode cX10_obeyWall 7 = .ok (.getfield 10, 3) := by decide +kernel
theorem dX10_obeyWall_10 : decode cX10_obeyWall 10 = .ok (.getfield 92, 3) := by decide +kernel
theorem dX10_obeyWall_13 : decode cX10_obeyWall 13 = .ok (.iload_n 1, 1) := by decide +kernel
theorem dX10_obeyWall_14 : decode cX10_obeyWall 14 = .ok (.iaload, 1) := by decide +kernel
theorem dX10_obeyWall_15 : decode cX10_obeyWall 15 = .ok (.ifCond .lt 5, 3) := by decide +kernel
theorem dX10_obeyWall_18 : decode cX10_obeyWall 18 = .ok (.iconst 3, 1) := by decide +kernel
theorem dX10_obeyWall_19 : decode cX10_obeyWall 19 = .ok (.ireturn, 1) := by decide +kernel
theorem dX10_obeyWall_20 : decode cX10_obeyWall 20 = .ok (.aload_n 0, 1) := by decide +kernel
theorem dX10_obeyWall_21 : decode cX10_obeyWall 21 = .ok (.iload_n 1, 1) := by decide +kernel
theorem dX10_obeyWall_22 : decode cX10_obeyWall 22 = .ok (.invokevirtual 130, 3) := by decide +kernel
theorem dX10_obeyWall_25 : decode cX10_obeyWall 25 = .ok (.iconst 0, 1) := by decide +kernel
theorem dX10_obeyWall_26 : decode cX10_obeyWall 26 = .ok (.ireturn, 1) := by decide +kernel
theorem dX10_obeyTarget_0 : decode cX10_obeyTarget 0 = .ok (.iload_n 1, 1) := by decide +kernel
theorem dX10_obeyTarget_1 : decode cX10_obeyTarget 1 = .ok (.ifCond .ge 5, 3) := by decide +kernel
theorem dX10_obeyTarget_4 : decode cX10_obeyTarget 4 = .ok (.iconst 1, 1) := by decide +kernel
theorem dX10_obeyTarget_5 : decode cX10_obeyTarget 5 = .ok (.ireturn, 1) := by decide +kernel
theorem dX10_obeyTarget_6 : decode cX10_obeyTarget 6 = .ok (.aload_n 0, 1) := by decide +kernel
theorem dX10_obeyTarget_7 : decode cX10_obeyTarget 7 = .ok (.getfield 10, 3) := by decide +kernel
theorem dX10_obeyTarget_10 : decode cX10_obeyTarget 10 = .ok (.iload_n 1, 1) := by decide +kernel
theorem dX10_obeyTarget_11 : decode cX10_obeyTarget 11 = .ok (.putfield 127, 3) := by decide +kernel
theorem dX10_obeyTarget_14 : decode cX10_obeyTarget 14 = .ok (.iconst 0, 1) := by decide +kernel
theorem dX10_obeyTarget_15 : decode cX10_obeyTarget 15 = .ok (.ireturn, 1) := by decide +kernel
theorem dX10_obeyLeading_0 : decode cX10_obeyLeading 0 = .ok (.aload_n 0, 1) := by decide +kernel
theorem dX10_obeyLeading_1 : decode cX10_obeyLeading 1 = .ok (.getfield 10, 3) := by decide +kernel
theorem dX10_obeyLeading_4 : decode cX10_obeyLeading 4 = .ok (.iload_n 1, 1) := by decide +kernel
theorem dX10_obeyLeading_5 : decode cX10_obeyLeading 5 = .ok (.invokevirtual 106, 3) := by decide +kernel
theorem dX10_obeyLeading_8 : decode cX10_obeyLeading 8 = .ok (.ifCond .ne 5, 3) := by decide +kernel
theorem dX10_obeyLeading_11 : decode cX10_obeyLeading 11 = .ok (.iconst 5, 1) := by decide +kernel
theorem dX10_obeyLeading_12 : decode cX10_obeyLeading 12 = .ok (.ireturn, 1) := by decide +kernel
theorem dX10_obeyLeading_13 : decode cX10_obeyLeading 13 = .ok (.aload_n 0, 1) := by decide +kernel
theorem dX10_obeyLeading_14 : decode cX10_obeyLeading 14 = .ok (.getfield 10, 3) := by decide +kernel
theorem dX10_obeyLeading_17 : decode cX10_obeyLeading 17 = .ok (.iload_n 1, 1) := by decide +kernel
theorem dX10_obeyLeading_18 : decode cX10_obeyLeading 18 = .ok (.putfield 121, 3) := by decide +kernel
theorem dX10_obeyLeading_21 : decode cX10_obeyLeading 21 = .ok (.iconst 0, 1) := by decide +kernel
theorem dX10_obeyLeading_22 : decode cX10_obeyLeading 22 = .ok (.ireturn, 1) := by decide +kernel
theorem dX10_obeyLosing_0 : decode cX10_obeyLosing 0 = .ok (.aload_n 0, 1) := by decide +kernel
theorem dX10_obeyLosing_1 : decode cX10_obeyLosing 1 = .ok (.getfield 10, 3) := by decide +kernel
theorem dX10_obeyLosing_4 : decode cX10_obeyLosing 4 = .ok (.iload_n 1, 1) := by decide +kernel
theorem dX10_obeyLosing_5 : decode cX10_obeyLosing 5 = .ok (.invokevirtual 106, 3) := by decide +kernel
theorem dX10_obeyLosing_8 : decode cX10_obeyLosing 8 = .ok (.ifCond .ne 5, 3) := by decide +kernel
theorem dX10_obeyLosing_11 : decode cX10_obeyLosing 11 = .ok (.iconst 5, 1) := by decide +kernel
theorem dX10_obeyLosing_12 : decode cX10_obeyLosing 12 = .ok (.ireturn, 1) := by decide +kernel
theorem dX10_obeyLosing_13 : decode cX10_obeyLosing 13 = .ok (.aload_n 0, 1) := by decide +kernel
theorem dX10_obeyLosing_14 : decode cX10_obeyLosing 14 = .ok (.getfield 10, 3) := by decide +kernel
theorem dX10_obeyLosing_17 : decode cX10_obeyLosing 17 = .ok (.iload_n 1, 1) := by decide +kernel
theorem dX10_obeyLosing_18 : decode cX10_obeyLosing 18 = .ok (.invokevirtual 110, 3) := by decide +kernel
theorem dX10_obeyLosing_21 : decode cX10_obeyLosing 21 = .ok (.iconst 0, 1) := by decide +kernel
theorem dX10_obeyLosing_22 : decode cX10_obeyLosing 22 = .ok (.ireturn, 1) := by decide +kernel
theorem dX10_numberGiven_0 : decode cX10_numberGiven 0 = .ok (.aload_n 0, 1) := by decide +kernel
theorem dX10_numberGiven_1 : decode cX10_numberGiven 1 = .ok (.getfield 68, 3) := by decide +kernel
theorem dX10_numberGiven_4 : decode cX10_numberGiven 4 = .ok (.invokevirtual 282, 3) := by decide +kernel
theorem dX10_numberGiven_7 : decode cX10_numberGiven 7 = .ok (.aload_n 0, 1) := by decide +kernel
theorem dX10_numberGiven_8 : decode cX10_numberGiven 8 = .ok (.getfield 68, 3) := by decide +kernel
theorem dX10_numberGiven_11 : decode cX10_numberGiven 11 = .ok (.getfield 285, 3) := by decide +kernel
theorem dX10_numberGiven_14 : decode cX10_numberGiven 14 = .ok (.iload_n 1, 1) := by decide +kernel
theorem dX10_numberGiven_15 : decode cX10_numberGiven 15 = .ok (.iaload, 1) := by decide +kernel
theorem dX10_numberGiven_16 : decode cX10_numberGiven 16 = .ok (.istore_n 3, 1) := by decide +kernel
theorem dX10_numberGiven_17 : decode cX10_numberGiven 17 = .ok (.iload_n 3, 1) := by decide +kernel
theorem dX10_numberGiven_18 : decode cX10_numberGiven 18 = .ok (.ifCond .lt 8, 3) := by decide +kernel
theorem dX10_numberGiven_21 : decode cX10_numberGiven 21 = .ok (.iload_n 2, 1) := by decide +kernel
theorem dX10_numberGiven_22 : decode cX10_numberGiven 22 = .ok (.iconst 2, 1) := by decide +kernel
theorem dX10_numberGiven_23 : decode cX10_numberGiven 23 = .ok (.if_icmp .ne 5, 3) := by decide +kernel
theorem dX10_numberGiven_26 : decode cX10_numberGiven 26 = .ok (.iload_n 3, 1) := by decide +kernel
theorem dX10_numberGiven_27 : decode cX10_numberGiven 27 = .ok (.ireturn, 1) := by decide +kernel
theorem dX10_numberGiven_28 : decode cX10_numberGiven 28 = .ok (.iload_n 2, 1) := by decide +kernel
theorem dX10_numberGiven_29 : decode cX10_numberGiven 29 = .ok (.iconst 1, 1) := by decide +kernel
theorem dX10_numberGiven_30 : decode cX10_numberGiven 30 = .ok (.if_icmp .ne 15, 3) := by decide +kernel
theorem dX10_numberGiven_33 : decode cX10_numberGiven 33 = .ok (.aload_n 0, 1) := by decide +kernel
theorem dX10_numberGiven_34 : decode cX10_numberGiven 34 = .ok (.getfield 68, 3) := by decide +kernel
theorem dX10_numberGiven_37 : decode cX10_numberGiven 37 = .ok (.getfield 288, 3) := by decide +kernel
theorem dX10_numberGiven_40 : decode cX10_numberGiven 40 = .ok (.iload_n 1, 1) := by decide +kernel
theorem dX10_numberGiven_41 : decode cX10_numberGiven 41 = .ok (.iaload, 1) := by decide +kernel
theorem dX10_numberGiven_42 : decode cX10_numberGiven 42 = .ok (.goto 21, 3) := by decide +kernel
theorem dX10_numberGiven_45 : decode cX10_numberGiven 45 = .ok (.aload_n 0, 1) := by decide +kernel
theorem dX10_numberGiven_46 : decode cX10_numberGiven 46 = .ok (.getfield 59, 3) := by decide +kernel
theorem dX10_numberGiven_49 : decode cX10_numberGiven 49 = .ok (.iload_n 3, 1) := by decide +kernel
theorem dX10_numberGiven_50 : decode cX10_numberGiven 50 = .ok (.invokevirtual 232, 3) := by decide +kernel
theorem dX10_numberGiven_53 : decode cX10_numberGiven 53 = .ok (.aload_n 0, 1) := by decide +kernel
theorem dX10_numberGiven_54 : decode cX10_numberGiven 54 = .ok (.getfield 10, 3) := by decide +kernel
theorem dX10_numberGiven_57 : decode cX10_numberGiven 57 = .ok (.getfield 199, 3) := by decide +kernel
theorem dX10_numberGiven_60 : decode cX10_numberGiven 60 = .ok (.iload_n 1, 1) := by decide +kernel
theorem dX10_numberGiven_61 : decode cX10_numberGiven 61 = .ok (.iaload, 1) := by decide +kernel
theorem dX10_numberGiven_62 : decode cX10_numberGiven 62 = .ok (.iaload, 1) := by decide +kernel
theorem dX10_numberGiven_63 : decode cX10_numberGiven 63 = .ok (.ireturn, 1) := by decide +kernel
theorem dX10_numberOfGiving_0 : decode cX10_numberOfGiving 0 = .ok (.aload_n 0, 1) := by decide +kernel
theorem dX10_numberOfGiving_1 : decode cX10_numberOfGiving 1 = .ok (.getfield 68, 3) := by decide +kernel
theorem dX10_numberOfGiving_4 : decode cX10_numberOfGiving 4 = .ok (.invokevirtual 282, 3) := by decide +kernel
theorem dX10_numberOfGiving_7 : decode cX10_numberOfGiving 7 = .ok (.iload_n 1, 1) := by decide +kernel
theorem dX10_numberOfGiving_8 : decode cX10_numberOfGiving 8 = .ok (.tableswitch 60 4 6 #[28, 36, 44], 28) := by decide +kernel
theorem dX10_numberOfGiving_36 : decode cX10_numberOfGiving 36 = .ok (.aload_n 0, 1) := by decide +kernel
theorem dX10_numberOfGiving_37 : decode cX10_numberOfGiving 37 = .ok (.getfield 68, 3) := by decide +kernel
theorem dX10_numberOfGiving_40 : decode cX10_numberOfGiving 40 = .ok (.getfield 291, 3) := by decide +kernel
theorem dX10_numberOfGiving_43 : decode cX10_numberOfGiving 43 = .ok (.ireturn, 1) := by decide +kernel
theorem dX10_numberOfGiving_44 : decode cX10_numberOfGiving 44 = .ok (.aload_n 0, 1) := by decide +kernel
theorem dX10_numberOfGiving_45 : decode cX10_numberOfGiving 45 = .ok (.getfield 68, 3) := by decide +kernel
theorem dX10_numberOfGiving_48 : decode cX10_numberOfGiving 48 = .ok (.getfield 294, 3) := by decide +kernel
theorem dX10_numberOfGiving_51 : decode cX10_numberOfGiving 51 = .ok (.ireturn, 1) := by decide +kernel
theorem dX10_numberOfGiving_52 : decode cX10_numberOfGiving 52 = .ok (.aload_n 0, 1) := by decide +kernel
theorem dX10_numberOfGiving_53 : decode cX10_numberOfGiving 53 = .ok (.getfield 68, 3) := by decide +kernel
theorem dX10_numberOfGiving_56 : decode cX10_numberOfGiving 56 = .ok (.invokevirtual 297, 3) := by decide +kernel
theorem dX10_numberOfGiving_59 : decode cX10_numberOfGiving 59 = .ok (.ifCond .eq 7, 3) := by decide +kernel
theorem dX10_numberOfGiving_62 : decode cX10_numberOfGiving 62 = .ok (.iconst 1, 1) := by decide +kernel
theorem dX10_numberOfGiving_63 : decode cX10_numberOfGiving 63 = .ok (.goto 4, 3) := by decide +kernel
theorem dX10_numberOfGiving_66 : decode cX10_numberOfGiving 66 = .ok (.iconst 0, 1) := by decide +kernel
theorem dX10_numberOfGiving_67 : decode cX10_numberOfGiving 67 = .ok (.ireturn, 1) := by decide +kernel
theorem dX10_numberOfGiving_68 : decode cX10_numberOfGiving 68 = .ok (.aload_n 0, 1) := by decide +kernel
theorem dX10_numberOfGiving_69 : decode cX10_numberOfGiving 69 = .ok (.getfield 68, 3) := by decide +kernel
theorem dX10_numberOfGiving_72 : decode cX10_numberOfGiving 72 = .ok (.getfield 301, 3) := by decide +kernel
theorem dX10_numberOfGiving_75 : decode cX10_numberOfGiving 75 = .ok (.ireturn, 1) := by decide +kernel
theorem dX10_slotWithPlace_0 : decode cX10_slotWithPlace 0 = .ok (.aload_n 0, 1) := by decide +kernel
theorem dX10_slotWithPlace_1 : decode cX10_slotWithPlace 1 = .ok (.getfield 68, 3) := by decide +kernel
theorem dX10_slotWithPlace_4 : decode cX10_slotWithPlace 4 = .ok (.invokevirtual 282, 3) := by decide +kernel
theorem dX10_slotWithPlace_7 : decode cX10_slotWithPlace 7 = .ok (.aload_n 0, 1) := by decide +kernel
theorem dX10_slotWithPlace_8 : decode cX10_slotWithPlace 8 = .ok (.getfield 10, 3) := by decide +kernel
theorem dX10_slotWithPlace_11 : decode cX10_slotWithPlace 11 = .ok (.invokevirtual 304, 3) := by decide +kernel
theorem dX10_slotWithPlace_14 : decode cX10_slotWithPlace 14 = .ok (.getfield 166, 3) := by decide +kernel
theorem dX10_slotWithPlace_17 : decode cX10_slotWithPlace 17 = .ok (.istore_n 2, 1) := by decide +kernel
theorem dX10_slotWithPlace_18 : decode cX10_slotWithPlace 18 = .ok (.iconst 0, 1) := by decide +kernel
theorem dX10_slotWithPlace_19 : decode cX10_slotWithPlace 19 = .ok (.istore_n 3, 1) := by decide +kernel
theorem dX10_slotWithPlace_20 : decode cX10_slotWithPlace 20 = .ok (.iload_n 3, 1) := by decide +kernel
theorem dX10_slotWithPlace_21 : decode cX10_slotWithPlace 21 = .ok (.iload_n 2, 1) := by decide +kernel
theorem dX10_slotWithPlace_22 : decode cX10_slotWithPlace 22 = .ok (.if_icmp .ge 24, 3) := by decide +kernel
theorem dX10_slotWithPlace_25 : decode cX10_slotWithPlace 25 = .ok (.aload_n 0, 1) := by decide +kernel
theorem dX10_slotWithPlace_26 : decode cX10_slotWithPlace 26 = .ok (.getfield 68, 3) := by decide +kernel
theorem dX10_slotWithPlace_29 : decode cX10_slotWithPlace 29 = .ok (.getfield 308, 3) := by decide +kernel
theorem dX10_slotWithPlace_32 : decode cX10_slotWithPlace 32 = .ok (.iload_n 3, 1) := by decide +kernel
theorem dX10_slotWithPlace_33 : decode cX10_slotWithPlace 33 = .ok (.iaload, 1) := by decide +kernel
theorem dX10_slotWithPlace_34 : decode cX10_slotWithPlace 34 = .ok (.iload_n 1, 1) := by decide +kernel
theorem dX10_slotWithPlace_35 : decode cX10_slotWithPlace 35 = .ok (.if_icmp .ne 5, 3) := by decide +kernel
theorem dX10_slotWithPlace_38 : decode cX10_slotWithPlace 38 = .ok (.iload_n 3, 1) := by decide +kernel
theorem dX10_slotWithPlace_39 : decode cX10_slotWithPlace 39 = .ok (.ireturn, 1) := by decide +kernel
theorem dX10_slotWithPlace_40 : decode cX10_slotWithPlace 40 = .ok (.iinc 3 1, 3) := by decide +kernel
theorem dX10_slotWithPlace_43 : decode cX10_slotWithPlace 43 = .ok (.goto (-23), 3) := by decide +kernel
theorem dX10_slotWithPlace_46 : decode cX10_slotWithPlace 46 = .ok (.bipush (-5), 2) := by decide +kernel
theorem dX10_slotWithPlace_48 : decode cX10_slotWithPlace 48 = .ok (.ireturn, 1) := by decide +kernel
theorem dX10_distanceFromLeader_0 : decode cX10_distanceFromLeader 0 = .ok (.aload_n 0, 1) := by decide +kernel
theorem dX10_distanceFromLeader_1 : decode cX10_distanceFromLeader 1 = .ok (.getfield 10, 3) := by decide +kernel
theorem dX10_distanceFromLeader_4 : decode cX10_distanceFromLeader 4 = .ok (.invokevirtual 118, 3) := by decide +kernel
theorem dX10_distanceFromLeader_7 : decode cX10_distanceFromLeader 7 = .ok (.istore_n 2, 1) := by decide +kernel
theorem dX10_distanceFromLeader_8 : decode cX10_distanceFromLeader 8 = .ok (.iload_n 2, 1) := by decide +kernel
theorem dX10_distanceFromLeader_9 : decode cX10_distanceFromLeader 9 = .ok (.ifCond .ge 8, 3) := by decide +kernel
theorem dX10_distanceFromLeader_12 : decode cX10_distanceFromLeader 12 = .ok (.bipush (-5), 2) := by decide +kernel
theorem dX10_distanceFromLeader_14 : decode cX10_distanceFromLeader 14 = .ok (.goto 21, 3) := by decide +kernel
theorem dX10_distanceFromLeader_17 : decode cX10_distanceFromLeader 17 = .ok (.aload_n 0, 1) := by decide +kernel
theorem dX10_distanceFromLeader_18 : decode cX10_distanceFromLeader 18 = .ok (.getfield 59, 3) := by decide +kernel
theorem dX10_distanceFromLeader_21 : decode cX10_distanceFromLeader 21 = .ok (.aload_n 0, 1) := by decide +kernel
theorem dX10_distanceFromLeader_22 : decode cX10_distanceFromLeader 22 = .ok (.getfield 10, 3) := by decide +kernel
theorem dX10_distanceFromLeader_25 : decode cX10_distanceFromLeader 25 = .ok (.getfield 199, 3) := by decide +kernel
theorem dX10_distanceFromLeader_28 : decode cX10_distanceFromLeader 28 = .ok (.iload_n 2, 1) := by decide +kernel
theorem dX10_distanceFromLeader_29 : decode cX10_distanceFromLeader 29 = .ok (.iaload, 1) := by decide +kernel
theorem dX10_distanceFromLeader_30 : decode cX10_distanceFromLeader 30 = .ok (.invokevirtual 232, 3) := by decide +kernel
theorem dX10_distanceFromLeader_33 : decode cX10_distanceFromLeader 33 = .ok (.iload_n 1, 1) := by decide +kernel
theorem dX10_distanceFromLeader_34 : decode cX10_distanceFromLeader 34 = .ok (.iaload, 1) := by decide +kernel
theorem dX10_distanceFromLeader_35 : decode cX10_distanceFromLeader 35 = .ok (.ireturn, 1) := by decide +kernel
theorem dX10_neighborsWithoutWall_0 : decode cX10_neighborsWithoutWall 0 = .ok (.iconst 0, 1) := by decide +kernel
theorem dX10_neighborsWithoutWall_1 : decode cX10_neighborsWithoutWall 1 = .ok (.istore_n 2, 1) := by decide +kernel
theorem dX10_neighborsWithoutWall_2 : decode cX10_neighborsWithoutWall 2 = .ok (.iconst 0, 1) := by decide +kernel
theorem dX10_neighborsWithoutWall_3 : decode cX10_neighborsWithoutWall 3 = .ok (.istore_n 3, 1) := by decide +kernel
theorem dX10_neighborsWithoutWall_4 : decode cX10_neighborsWithoutWall 4 = .ok (.iload_n 3, 1) := by decide +kernel
theorem dX10_neighborsWithoutWall_5 : decode cX10_neighborsWithoutWall 5 = .ok (.iconst 4, 1) := by decide +kernel
theorem dX10_neighborsWithoutWall_6 : decode cX10_neighborsWithoutWall 6 = .ok (.if_icmp .ge 39, 3) := by decide +kernel
theorem dX10_neighborsWithoutWall_9 : decode cX10_neighborsWithoutWall 9 = .ok (.iload_n 1, 1) := by decide +kernel
theorem dX10_neighborsWithoutWall_10 : decode cX10_neighborsWithoutWall 10 = .ok (.iload_n 3, 1) := by decide +kernel
theorem dX10_neighborsWithoutWall_11 : decode cX10_neighborsWithoutWall 11 = .ok (.invokestatic 311, 3) := by decide +kernel
theorem dX10_neighborsWithoutWall_14 : decode cX10_neighborsWithoutWall 14 = .ok (.istore 4, 2) := by decide +kernel
theorem dX10_neighborsWithoutWall_16 : decode cX10_neighborsWithoutWall 16 = .ok (.iload 4, 2) := by decide +kernel
theorem dX10_neighborsWithoutWall_18 : decode cX10_neighborsWithoutWall 18 = .ok (.ifCond .lt 21, 3) := by decide +kernel
theorem dX10_neighborsWithoutWall_21 : decode cX10_neighborsWithoutWall 21 = .ok (.aload_n 0, 1) := by decide +kernel
theorem dX10_neighborsWithoutWall_22 : decode cX10_neighborsWithoutWall 22 = .ok (.getfield 10, 3) := by decide +kernel
theorem dX10_neighborsWithoutWall_25 : decode cX10_neighborsWithoutWall 25 = .ok (.getfield 92, 3) := by decide +kernel
theorem dX10_neighborsWithoutWall_28 : decode cX10_neighborsWithoutWall 28 = .ok (.iload 4, 2) := by decide +kernel
theorem dX10_neighborsWithoutWall_30 : decode cX10_neighborsWithoutWall 30 = .ok (.iaload, 1) := by decide +kernel
theorem dX10_neighborsWithoutWall_31 : decode cX10_neighborsWithoutWall 31 = .ok (.bipush (-2), 2) := by decide +kernel
theorem dX10_neighborsWithoutWall_33 : decode cX10_neighborsWithoutWall 33 = .ok (.if_icmp .eq 6, 3) := by decide +kernel
theorem dX10_neighborsWithoutWall_36 : decode cX10_neighborsWithoutWall 36 = .ok (.iinc 2 1, 3) := by decide +kernel
theorem dX10_neighborsWithoutWall_39 : decode cX10_neighborsWithoutWall 39 = .ok (.iinc 3 1, 3) := by decide +kernel
theorem dX10_neighborsWithoutWall_42 : decode cX10_neighborsWithoutWall 42 = .ok (.goto (-38), 3) := by decide +kernel
theorem dX10_neighborsWithoutWall_45 : decode cX10_neighborsWithoutWall 45 = .ok (.iload_n 2, 1) := by decide +kernel
theorem dX10_neighborsWithoutWall_46 : decode cX10_neighborsWithoutWall 46 = .ok (.ireturn, 1) := by decide +kernel
theorem dX10_triedWithout_0 : decode cX10_triedWithout 0 = .ok (.aload_n 0, 1) := by decide +kernel
theorem dX10_triedWithout_1 : decode cX10_triedWithout 1 = .ok (.getfield 16, 3) := by decide +kernel
theorem dX10_triedWithout_4 : decode cX10_triedWithout 4 = .ok (.aload_n 0, 1) := by decide +kernel
theorem dX10_triedWithout_5 : decode cX10_triedWithout 5 = .ok (.getfield 10, 3) := by decide +kernel
theorem dX10_triedWithout_8 : decode cX10_triedWithout 8 = .ok (.invokevirtual 172, 3) := by decide +kernel
theorem dX10_triedWithout_11 : decode cX10_triedWithout 11 = .ok (.aload_n 0, 1) := by decide +kernel
theorem dX10_triedWithout_12 : decode cX10_triedWithout 12 = .ok (.getfield 10, 3) := by decide +kernel
theorem dX10_triedWithout_15 : decode cX10_triedWithout 15 = .ok (.bipush (-5), 2) := by decide +kernel
theorem dX10_triedWithout_17 : decode cX10_triedWithout 17 = .ok (.putfield 127, 3) := by decide +kernel
theorem dX10_triedWithout_20 : decode cX10_triedWithout 20 = .ok (.iload_n 1, 1) := by decide +kernel
theorem dX10_triedWithout_21 : decode cX10_triedWithout 21 = .ok (.ifCond .lt 11, 3) := by decide +kernel
theorem dX10_triedWithout_24 : decode cX10_triedWithout 24 = .ok (.aload_n 0, 1) := by decide +kernel
theorem dX10_triedWithout_25 : decode cX10_triedWithout 25 = .ok (.getfield 10, 3) := by decide +kernel
theorem dX10_triedWithout_28 : decode cX10_triedWithout 28 = .ok (.iload_n 1, 1) := by decide +kernel
theorem dX10_triedWithout_29 : decode cX10_triedWithout 29 = .ok (.invokevirtual 110, 3) := by decide +kernel
theorem dX10_triedWithout_32 : decode cX10_triedWithout 32 = .ok (.bipush (-5), 2) := by decide +kernel
theorem dX10_triedWithout_34 : decode cX10_triedWithout 34 = .ok (.istore_n 3, 1) := by decide +kernel
theorem dX10_triedWithout_35 : decode cX10_triedWithout 35 = .ok (.iconst 0, 1) := by decide +kernel
theorem dX10_triedWithout_36 : decode cX10_triedWithout 36 = .ok (.istore 4, 2) := by decide +kernel
theorem dX10_triedWithout_38 : decode cX10_triedWithout 38 = .ok (.iload 4, 2) := by decide +kernel
theorem dX10_triedWithout_40 : decode cX10_triedWithout 40 = .ok (.iload_n 2, 1) := by decide +kernel
theorem dX10_triedWithout_41 : decode cX10_triedWithout 41 = .ok (.if_icmp .gt 49, 3) := by decide +kernel
theorem dX10_triedWithout_44 : decode cX10_triedWithout 44 = .ok (.iload_n 3, 1) := by decide +kernel
theorem dX10_triedWithout_45 : decode cX10_triedWithout 45 = .ok (.ifCond .ge 45, 3) := by decide +kernel
theorem dX10_triedWithout_48 : decode cX10_triedWithout 48 = .ok (.aload_n 0, 1) := by decide +kernel
theorem dX10_triedWithout_49 : decode cX10_triedWithout 49 = .ok (.getfield 68, 3) := by decide +kernel
theorem dX10_triedWithout_52 : decode cX10_triedWithout 52 = .ok (.invokevirtual 282, 3) := by decide +kernel
theorem dX10_triedWithout_55 : decode cX10_triedWithout 55 = .ok (.aload_n 0, 1) := by decide +kernel
theorem dX10_triedWithout_56 : decode cX10_triedWithout 56 = .ok (.getfield 68, 3) := by decide +kernel
theorem dX10_triedWithout_59 : decode cX10_triedWithout 59 = .ok (.invokevirtual 297, 3) := by decide +kernel
theorem dX10_triedWithout_62 : decode cX10_triedWithout 62 = .ok (.ifCond .eq 9, 3) := by decide +kernel
theorem dX10_triedWithout_65 : decode cX10_triedWithout 65 = .ok (.iload 4, 2) := by decide +kernel
theorem dX10_triedWithout_67 : decode cX10_triedWithout 67 = .ok (.istore_n 3, 1) := by decide +kernel
theorem dX10_triedWithout_68 : decode cX10_triedWithout 68 = .ok (.goto 16, 3) := by decide +kernel
theorem dX10_triedWithout_71 : decode cX10_triedWithout 71 = .ok (.iload 4, 2) := by decide +kernel
theorem dX10_triedWithout_73 : decode cX10_triedWithout 73 = .ok (.iload_n 2, 1) := by decide +kernel
theorem dX10_triedWithout_74 : decode cX10_triedWithout 74 = .ok (.if_icmp .ge 10, 3) := by decide +kernel
theorem dX10_triedWithout_77 : decode cX10_triedWithout 77 = .ok (.aload_n 0, 1) := by decide +kernel
theorem dX10_triedWithout_78 : decode cX10_triedWithout 78 = .ok (.getfield 77, 3) := by decide +kernel
theorem dX10_triedWithout_81 : decode cX10_triedWithout 81 = .ok (.invokevirtual 174, 3) := by decide +kernel
theorem dX10_triedWithout_84 : decode cX10_triedWithout 84 = .ok (.iinc 4 1, 3) := by decide +kernel
theorem dX10_triedWithout_87 : decode cX10_triedWithout 87 = .ok (.goto (-49), 3) := by decide +kernel
theorem dX10_triedWithout_90 : decode cX10_triedWithout 90 = .ok (.aload_n 0, 1) := by decide +kernel
theorem dX10_triedWithout_91 : decode cX10_triedWithout 91 = .ok (.getfield 10, 3) := by decide +kernel
theorem dX10_triedWithout_94 : decode cX10_triedWithout 94 = .ok (.aload_n 0, 1) := by decide +kernel
theorem dX10_triedWithout_95 : decode cX10_triedWithout 95 = .ok (.getfield 16, 3) := by decide +kernel
theorem dX10_triedWithout_98 : decode cX10_triedWithout 98 = .ok (.invokevirtual 172, 3) := by decide +kernel
theorem dX10_triedWithout_101 : decode cX10_triedWithout 101 = .ok (.iload_n 3, 1) := by decide +kernel
theorem dX10_triedWithout_102 : decode cX10_triedWithout 102 = .ok (.ireturn, 1) := by decide +kernel
theorem dX11_init_0 : decode cX11_init 0 = .ok (.aload_n 0, 1) := by decide +kernel
theorem dX11_init_1 : decode cX11_init 1 = .ok (.invokespecial 3, 3) := by decide +kernel
theorem dX11_init_4 : decode cX11_init 4 = .ok (.aload_n 0, 1) := by decide +kernel
theorem dX11_init_5 : decode cX11_init 5 = .ok (.sipush 2838, 3) := by decide +kernel
theorem dX11_init_8 : decode cX11_init 8 = .ok (.newarray .int, 2) := by decide +kernel
theorem dX11_init_10 : decode cX11_init 10 = .ok (.putfield 9, 3) := by decide +kernel
theorem dX11_init_13 : decode cX11_init 13 = .ok (.aload_n 0, 1) := by decide +kernel
theorem dX11_init_14 : decode cX11_init 14 = .ok (.sipush 1440, 3) := by decide +kernel
theorem dX11_init_17 : decode cX11_init 17 = .ok (.newarray .int, 2) := by decide +kernel
theorem dX11_init_19 : decode cX11_init 19 = .ok (.putfield 13, 3) := by decide +kernel
theorem dX11_init_22 : decode cX11_init 22 = .ok (.aload_n 0, 1) := by decide +kernel
theorem dX11_init_23 : decode cX11_init 23 = .ok (.bipush 120, 2) := by decide +kernel
theorem dX11_init_25 : decode cX11_init 25 = .ok (.newarray .int, 2) := by decide +kernel
theorem dX11_init_27 : decode cX11_init 27 = .ok (.putfield 16, 3) := by decide +kernel
theorem dX11_init_30 : decode cX11_init 30 = .ok (.aload_n 0, 1) := by decide +kernel
theorem dX11_init_31 : decode cX11_init 31 = .ok (.bipush 10, 2) := by decide +kernel
theorem dX11_init_33 : decode cX11_init 33 = .ok (.newarray .int, 2) := by decide +kernel
theorem dX11_init_35 : decode cX11_init 35 = .ok (.putfield 19, 3) := by decide +kernel
theorem dX11_init_38 : decode cX11_init 38 = .ok (.aload_n 0, 1) := by decide +kernel
theorem dX11_init_39 : decode cX11_init 39 = .ok (.sipush 11264, 3) := by decide +kernel
theorem dX11_init_42 : decode cX11_init 42 = .ok (.newarray .int, 2) := by decide +kernel
theorem dX11_init_44 : decode cX11_init 44 = .ok (.putfield 22, 3) := by decide +kernel
theorem dX11_init_47 : decode cX11_init 47 = .ok (.aload_n 0, 1) := by decide +kernel
theorem dX11_init_48 : decode cX11_init 48 = .ok (.bipush 10, 2) := by decide +kernel
theorem dX11_init_50 : decode cX11_init 50 = .ok (.newarray .int, 2) := by decide +kernel
theorem dX11_init_52 : decode cX11_init 52 = .ok (.putfield 25, 3) := by decide +kernel
theorem dX11_init_55 : decode cX11_init 55 = .ok (.aload_n 0, 1) := by decide +kernel
theorem dX11_init_56 : decode cX11_init 56 = .ok (.bipush 100, 2) := by decide +kernel
theorem dX11_init_58 : decode cX11_init 58 = .ok (.newarray .int, 2) := by decide +kernel
theorem dX11_init_60 : decode cX11_init 60 = .ok (.putfield 28, 3) := by decide +kernel
theorem dX11_init_63 : decode cX11_init 63 = .ok (.aload_n 0, 1) := by decide +kernel
theorem dX11_init_64 : decode cX11_init 64 = .ok (.bipush 10, 2) := by decide +kernel
theorem dX11_init_66 : decode cX11_init 66 = .ok (.newarray .int, 2) := by decide +kernel
theorem dX11_init_68 : decode cX11_init 68 = .ok (.putfield 31, 3) := by decide +kernel
theorem dX11_init_71 : decode cX11_init 71 = .ok (.aload_n 0, 1) := by decide +kernel
theorem dX11_init_72 : decode cX11_init 72 = .ok (.bipush 10, 2) := by decide +kernel
theorem dX11_init_74 : decode cX11_init 74 = .ok (.newarray .int, 2) := by decide +kernel
theorem dX11_init_76 : decode cX11_init 76 = .ok (.putfield 34, 3) := by decide +kernel
theorem dX11_init_79 : decode cX11_init 79 = .ok (.aload_n 0, 1) := by decide +kernel
theorem dX11_init_80 : decode cX11_init 80 = .ok (.bipush 10, 2) := by decide +kernel
theorem dX11_init_82 : decode cX11_init 82 = .ok (.newarray .int, 2) := by decide +kernel
theorem dX11_init_84 : decode cX11_init 84 = .ok (.putfield 37, 3) := by decide +kernel
theorem dX11_init_87 : decode cX11_init 87 = .ok (.aload_n 0, 1) := by decide +kernel
theorem dX11_init_88 : decode cX11_init 88 = .ok (.bipush 60, 2) := by decide +kernel
theorem dX11_init_90 : decode cX11_init 90 = .ok (.newarray .int, 2) := by decide +kernel
theorem dX11_init_92 : decode cX11_init 92 = .ok (.putfield 40, 3) := by decide +kernel
theorem dX11_init_95 : decode cX11_init 95 = .ok (.aload_n 0, 1) := by decide +kernel
theorem dX11_init_96 : decode cX11_init 96 = .ok (.bipush 22, 2) := by decide +kernel
theorem dX11_init_98 : decode cX11_init 98 = .ok (.newarray .int, 2) := by decide +kernel
theorem dX11_init_100 : decode cX11_init 100 = .ok (.putfield 43, 3) := by decide +kernel
theorem dX11_init_103 : decode cX11_init 103 = .ok (.aload_n 0, 1) := by decide +kernel
theorem dX11_init_104 : decode cX11_init 104 = .ok (.sipush 180, 3) := by decide +kernel
theorem dX11_init_107 : decode cX11_init 107 = .ok (.newarray .int, 2) := by decide +kernel
theorem dX11_init_109 : decode cX11_init 109 = .ok (.putfield 46, 3) := by decide +kernel
theorem dX11_init_112 : decode cX11_init 112 = .ok (.aload_n 0, 1) := by decide +kernel
theorem dX11_init_113 : decode cX11_init 113 = .ok (.getfield 9, 3) := by decide +kernel
theorem dX11_init_116 : decode cX11_init 116 = .ok (.iconst 1, 1) := by decide +kernel
theorem dX11_init_117 : decode cX11_init 117 = .ok (.iconst (-1), 1) := by decide +kernel
theorem dX11_init_118 : decode cX11_init 118 = .ok (.iastore, 1) := by decide +kernel
theorem dX11_init_119 : decode cX11_init 119 = .ok (.aload_n 0, 1) := by decide +kernel
theorem dX11_init_120 : decode cX11_init 120 = .ok (.getfield 9, 3) := by decide +kernel
theorem dX11_init_123 : decode cX11_init 123 = .ok (.iconst 2, 1) := by decide +kernel
theorem dX11_init_124 : decode cX11_init 124 = .ok (.iconst (-1), 1) := by decide +kernel
theorem dX11_init_125 : decode cX11_init 125 = .ok (.iastore, 1) := by decide +kernel
theorem dX11_init_126 : decode cX11_init 126 = .ok (.return_, 1) := by decide +kernel
theorem dX11_in_0 : decode cX11_in 0 = .ok (.iload_n 0, 1) := by decide +kernel
theorem dX11_in_1 : decode cX11_in 1 = .ok (.iload_n 1, 1) := by decide +kernel
theorem dX11_in_2 : decode cX11_in 2 = .ok (.if_icmp .lt 12, 3) := by decide +kernel
theorem dX11_in_5 : decode cX11_in 5 = .ok (.iload_n 0, 1) := by decide +kernel
theorem dX11_in_6 : decode cX11_in 6 = .ok (.iload_n 2, 1) := by decide +kernel
theorem dX11_in_7 : decode cX11_in 7 = .ok (.if_icmp .gt 7, 3) := by decide +kernel
theorem dX11_in_10 : decode cX11_in 10 = .ok (.iconst 1, 1) := by decide +kernel
theorem dX11_in_11 : decode cX11_in 11 = .ok (.goto 4, 3) := by decide +kernel
theorem dX11_in_14 : decode cX11_in 14 = .ok (.iconst 0, 1) := by decide +kernel
theorem dX11_in_15 : decode cX11_in 15 = .ok (.ireturn, 1) := by decide +kernel
theorem dX11_copies_0 : decode cX11_copies 0 = .ok (.iconst 0, 1) := by decide +kernel
theorem dX11_copies_1 : decode cX11_copies 1 = .ok (.istore_n 3, 1) := by decide +kernel
theorem dX11_copies_2 : decode cX11_copies 2 = .ok (.iload_n 3, 1) := by decide +kernel
theorem dX11_copies_3 : decode cX11_copies 3 = .ok (.sipush 258, 3) := by decide +kernel
theorem dX11_copies_6 : decode cX11_copies 6 = .ok (.if_icmp .ge 33, 3) := by decide +kernel
theorem dX11_copies_9 : decode cX11_copies 9 = .ok (.aload_n 0, 1) := by decide +kernel
theorem dX11_copies_10 : decode cX11_copies 10 = .ok (.getfield 9, 3) := by decide +kernel
theorem dX11_copies_13 : decode cX11_copies 13 = .ok (.sipush 258, 3) := by decide +kernel
theorem dX11_copies_16 : decode cX11_copies 16 = .ok (.iload_n 2, 1) := by decide +kernel
theorem dX11_copies_17 : decode cX11_copies 17 = .ok (.imul, 1) := by decide +kernel
theorem dX11_copies_18 : decode cX11_copies 18 = .ok (.iload_n 3, 1) := by decide +kernel
theorem dX11_copies_19 : decode cX11_copies 19 = .ok (.iadd, 1) := by decide +kernel
theorem dX11_copies_20 : decode cX11_copies 20 = .ok (.aload_n 0, 1) := by decide +kernel
theorem dX11_copies_21 : decode cX11_copies 21 = .ok (.getfield 9, 3) := by decide +kernel
theorem dX11_copies_24 : decode cX11_copies 24 = .ok (.sipush 258, 3) := by decide +kernel
theorem dX11_copies_27 : decode cX11_copies 27 = .ok (.iload_n 1, 1) := by decide +kernel
theorem dX11_copies_28 : decode cX11_copies 28 = .ok (.imul, 1) := by decide +kernel
theorem dX11_copies_29 : decode cX11_copies 29 = .ok (.iload_n 3, 1) := by decide +kernel
theorem dX11_copies_30 : decode cX11_copies 30 = .ok (.iadd, 1) := by decide +kernel
theorem dX11_copies_31 : decode cX11_copies 31 = .ok (.iaload, 1) := by decide +kernel
theorem dX11_copies_32 : decode cX11_copies 32 = .ok (.iastore, 1) := by decide +kernel
theorem dX11_copies_33 : decode cX11_copies 33 = .ok (.iinc 3 1, 3) := by decide +kernel
theorem dX11_copies_36 : decode cX11_copies 36 = .ok (.goto (-34), 3) := by decide +kernel
theorem dX11_copies_39 : decode cX11_copies 39 = .ok (.return_, 1) := by decide +kernel
theorem dX11_keeps_0 : decode cX11_keeps 0 = .ok (.aload_n 0, 1) := by decide +kernel
theorem dX11_keeps_1 : decode cX11_keeps 1 = .ok (.getfield 49, 3) := by decide +kernel
theorem dX11_keeps_4 : decode cX11_keeps 4 = .ok (.bipush 8, 2) := by decide +kernel
theorem dX11_keeps_6 : decode cX11_keeps 6 = .ok (.if_icmp .ne 35, 3) := by decide +kernel
theorem dX11_keeps_9 : decode cX11_keeps 9 = .ok (.iconst 1, 1) := by decide +kernel
theorem dX11_keeps_10 : decode cX11_keeps 10 = .ok (.istore_n 1, 1) := by decide +kernel
theorem dX11_keeps_11 : decode cX11_keeps 11 = .ok (.iload_n 1, 1) := by decide +kernel
theorem dX11_keeps_12 : decode cX11_keeps 12 = .ok (.bipush 8, 2) := by decide +kernel
theorem dX11_keeps_14 : decode cX11_keeps 14 = .ok (.if_icmp .ge 17, 3) := by decide +kernel
theorem dX11_keeps_17 : decode cX11_keeps 17 = .ok (.aload_n 0, 1) := by decide +kernel
theorem dX11_keeps_18 : decode cX11_keeps 18 = .ok (.iload_n 1, 1) := by decide +kernel
theorem dX11_keeps_19 : decode cX11_keeps 19 = .ok (.iconst 1, 1) := by decide +kernel
theorem dX11_keeps_20 : decode cX11_keeps 20 = .ok (.iadd, 1) := by decide +kernel
theorem dX11_keeps_21 : decode cX11_keeps 21 = .ok (.iload_n 1, 1) := by decide +kernel
theorem dX11_keeps_22 : decode cX11_keeps 22 = .ok (.invokevirtual 53, 3) := by decide +kernel
theorem dX11_keeps_25 : decode cX11_keeps 25 = .ok (.iinc 1 1, 3) := by decide +kernel
theorem dX11_keeps_28 : decode cX11_keeps 28 = .ok (.goto (-17), 3) := by decide +kernel
theorem dX11_keeps_31 : decode cX11_keeps 31 = .ok (.aload_n 0, 1) := by decide +kernel
theorem dX11_keeps_32 : decode cX11_keeps 32 = .ok (.dup, 1) := by decide +kernel
theorem dX11_keeps_33 : decode cX11_keeps 33 = .ok (.getfield 49, 3) := by decide +kernel
theorem dX11_keeps_36 : decode cX11_keeps 36 = .ok (.iconst 1, 1) := by decide +kernel
theorem dX11_keeps_37 : decode cX11_keeps 37 = .ok (.isub, 1) := by decide +kernel
theorem dX11_keeps_38 : decode cX11_keeps 38 = .ok (.putfield 49, 3) := by decide +kernel
theorem dX11_keeps_41 : decode cX11_keeps 41 = .ok (.aload_n 0, 1) := by decide +kernel
theorem dX11_keeps_42 : decode cX11_keeps 42 = .ok (.dup, 1) := by decide +kernel
theorem dX11_keeps_43 : decode cX11_keeps 43 = .ok (.getfield 49, 3) := by decide +kernel
theorem dX11_keeps_46 : decode cX11_keeps 46 = .ok (.iconst 1, 1) := by decide +kernel
theorem dX11_keeps_47 : decode cX11_keeps 47 = .ok (.iadd, 1) := by decide +kernel
theorem dX11_keeps_48 : decode cX11_keeps 48 = .ok (.putfield 49, 3) := by decide +kernel
theorem dX11_keeps_51 : decode cX11_keeps 51 = .ok (.aload_n 0, 1) := by decide +kernel
theorem dX11_keeps_52 : decode cX11_keeps 52 = .ok (.iconst 0, 1) := by decide +kernel
theorem dX11_keeps_53 : decode cX11_keeps 53 = .ok (.aload_n 0, 1) := by decide +kernel
theorem dX11_keeps_54 : decode cX11_keeps 54 = .ok (.getfield 49, 3) := by decide +kernel
theorem dX11_keeps_57 : decode cX11_keeps 57 = .ok (.invokevirtual 53, 3) := by decide +kernel
theorem dX11_keeps_60 : decode cX11_keeps 60 = .ok (.return_, 1) := by decide +kernel
theorem dX11_of_0 : decode cX11_of 0 = .ok (.aload_n 0, 1) := by decide +kernel
theorem dX11_of_1 : decode cX11_of 1 = .ok (.getfield 9, 3) := by decide +kernel
theorem dX11_of_4 : decode cX11_of 4 = .ok (.bipush 12, 2) := by decide +kernel
theorem dX11_of_6 : decode cX11_of 6 = .ok (.bipush 6, 2) := by decide +kernel
theorem dX11_of_8 : decode cX11_of 8 = .ok (.iload_n 1, 1) := by decide +kernel
theorem dX11_of_9 : decode cX11_of 9 = .ok (.imul, 1) := by decide +kernel
theorem dX11_of_10 : decode cX11_of 10 = .ok (.iadd, 1) := by decide +kernel
theorem dX11_of_11 : decode cX11_of 11 = .ok (.iload_n 2, 1) := by decide +kernel
theorem dX11_of_12 : decode cX11_of 12 = .ok (.iadd, 1) := by decide +kernel
theorem dX11_of_13 : decode cX11_of 13 = .ok (.iaload, 1) := by decide +kernel
theorem dX11_of_14 : decode cX11_of 14 = .ok (.ireturn, 1) := by decide +kernel
theorem dX11_lays_0 : decode cX11_lays 0 = .ok (.aload_n 0, 1) := by decide +kernel
theorem dX11_lays_1 : decode cX11_lays 1 = .ok (.getfield 9, 3) := by decide +kernel
theorem dX11_lays_4 : decode cX11_lays 4 = .ok (.bipush 12, 2) := by decide +kernel
theorem dX11_lays_6 : decode cX11_lays 6 = .ok (.bipush 6, 2) := by decide +kernel
theorem dX11_lays_8 : decode cX11_lays 8 = .ok (.iload_n 1, 1) := by decide +kernel
theorem dX11_lays_9 : decode cX11_lays 9 = .ok (.imul, 1) := by decide +kernel
theorem dX11_lays_10 : decode cX11_lays 10 = .ok (.iadd, 1) := by decide +kernel
theorem dX11_lays_11 : decode cX11_lays 11 = .ok (.iload_n 2, 1) := by decide +kernel
theorem dX11_lays_12 : decode cX11_lays 12 = .ok (.iadd, 1) := by decide +kernel
theorem dX11_lays_13 : decode cX11_lays 13 = .ok (.iload_n 3, 1) := by decide +kernel
theorem dX11_lays_14 : decode cX11_lays 14 = .ok (.iastore, 1) := by decide +kernel
theorem dX11_lays_15 : decode cX11_lays 15 = .ok (.return_, 1) := by decide +kernel
theorem dX11_isMember_0 : decode cX11_isMember 0 = .ok (.iload_n 1, 1) := by decide +kernel
theorem dX11_isMember_1 : decode cX11_isMember 1 = .ok (.iconst 0, 1) := by decide +kernel
theorem dX11_isMember_2 : decode cX11_isMember 2 = .ok (.aload_n 0, 1) := by decide +kernel
theorem dX11_isMember_3 : decode cX11_isMember 3 = .ok (.getfield 9, 3) := by decide +kernel
theorem dX11_isMember_6 : decode cX11_isMember 6 = .ok (.iconst 0, 1) := by decide +kernel
theorem dX11_isMember_7 : decode cX11_isMember 7 = .ok (.iaload, 1) := by decide +kernel
theorem dX11_isMember_8 : decode cX11_isMember 8 = .ok (.iconst 1, 1) := by decide +kernel
theorem dX11_isMember_9 : decode cX11_isMember 9 = .ok (.isub, 1) := by decide +kernel
theorem dX11_isMember_10 : decode cX11_isMember 10 = .ok (.invokestatic 57, 3) := by decide +kernel
theorem dX11_isMember_13 : decode cX11_isMember 13 = .ok (.ifCond .eq 16, 3) := by decide +kernel
theorem dX11_isMember_16 : decode cX11_isMember 16 = .ok (.aload_n 0, 1) := by decide +kernel
theorem dX11_isMember_17 : decode cX11_isMember 17 = .ok (.iload_n 1, 1) := by decide +kernel
theorem dX11_isMember_18 : decode cX11_isMember 18 = .ok (.iconst 0, 1) := by decide +kernel
theorem dX11_isMember_19 : decode cX11_isMember 19 = .ok (.invokevirtual 61, 3) := by decide +kernel
theorem dX11_isMember_22 : decode cX11_isMember 22 = .ok (.ifCond .lt 7, 3) := by decide +kernel
theorem dX11_isMember_25 : decode cX11_isMember 25 = .ok (.iconst 1, 1) := by decide +kernel
theorem dX11_isMember_26 : decode cX11_isMember 26 = .ok (.goto 4, 3) := by decide +kernel
theorem dX11_isMember_29 : decode cX11_isMember 29 = .ok (.iconst 0, 1) := by decide +kernel
theorem dX11_isMember_30 : decode cX11_isMember 30 = .ok (.ireturn, 1) := by decide +kernel
theorem dX11_isCell_0 : decode cX11_isCell 0 = .ok (.iload_n 0, 1) := by decide +kernel
theorem dX11_isCell_1 : decode cX11_isCell 1 = .ok (.iconst 0, 1) := by decide +kernel
theorem dX11_isCell_2 : decode cX11_isCell 2 = .ok (.bipush 119, 2) := by decide +kernel
theorem dX11_isCell_4 : decode cX11_isCell 4 = .ok (.invokestatic 57, 3) := by decide +kernel
theorem dX11_isCell_7 : decode cX11_isCell 7 = .ok (.ireturn, 1) := by decide +kernel
theorem dX11_isBlocked_0 : decode cX11_isBlocked 0 = .ok (.aload_n 0, 1) := by decide +kernel
theorem dX11_isBlocked_1 : decode cX11_isBlocked 1 = .ok (.getfield 9, 3) := by decide +kernel
theorem dX11_isBlocked_4 : decode cX11_isBlocked 4 = .ok (.bipush 72, 2) := by decide +kernel
theorem dX11_isBlocked_6 : decode cX11_isBlocked 6 = .ok (.iload_n 1, 1) := by decide +kernel
theorem dX11_isBlocked_7 : decode cX11_isBlocked 7 = .ok (.iadd, 1) := by decide +kernel
theorem dX11_isBlocked_8 : decode cX11_isBlocked 8 = .ok (.iaload, 1) := by decide +kernel
theorem dX11_isBlocked_9 : decode cX11_isBlocked 9 = .ok (.iconst 1, 1) := by decide +kernel
theorem dX11_isBlocked_10 : decode cX11_isBlocked 10 = .ok (.if_icmp .ne 7, 3) := by decide +kernel
theorem dX11_isBlocked_13 : decode cX11_isBlocked 13 = .ok (.iconst 1, 1) := by decide +kernel
theorem dX11_isBlocked_14 : decode cX11_isBlocked 14 = .ok (.goto 4, 3) := by decide +kernel
theorem dX11_isBlocked_17 : decode cX11_isBlocked 17 = .ok (.iconst 0, 1) := by decide +kernel
theorem dX11_isBlocked_18 : decode cX11_isBlocked 18 = .ok (.ireturn, 1) := by decide +kernel
theorem dX11_members_0 : decode cX11_members 0 = .ok (.iconst 0, 1) := by decide +kernel
theorem dX11_members_1 : decode cX11_members 1 = .ok (.istore_n 1, 1) := by decide +kernel
theorem dX11_members_2 : decode cX11_members 2 = .ok (.iconst 0, 1) := by decide +kernel
theorem dX11_members_3 : decode cX11_members 3 = .ok (.istore_n 2, 1) := by decide +kernel
theorem dX11_members_4 : decode cX11_members 4 = .ok (.iload_n 2, 1) := by decide +kernel
theorem dX11_members_5 : decode cX11_members 5 = .ok (.bipush 10, 2) := by decide +kernel
theorem dX11_members_7 : decode cX11_members 7 = .ok (.if_icmp .ge 25, 3) := by decide +kernel
theorem dX11_members_10 : decode cX11_members 10 = .ok (.iload_n 1, 1) := by decide +kernel
theorem dX11_members_11 : decode cX11_members 11 = .ok (.aload_n 0, 1) := by decide +kernel
theorem dX11_members_12 : decode cX11_members 12 = .ok (.iload_n 2, 1) := by decide +kernel
theorem dX11_members_13 : decode cX11_members 13 = .ok (.invokevirtual 65, 3) := by decide +kernel
theorem dX11_members_16 : decode cX11_members 16 = .ok (.ifCond .eq 7, 3) := by decide +kernel
theorem dX11_members_19 : decode cX11_members 19 = .ok (.iconst 1, 1) := by decide +kernel
theorem dX11_members_20 : decode cX11_members 20 = .ok (.goto 4, 3) := by decide +kernel
theorem dX11_members_23 : decode cX11_members 23 = .ok (.iconst 0, 1) := by decide +kernel
theorem dX11_members_24 : decode cX11_members 24 = .ok (.iadd, 1) := by decide +kernel
theorem dX11_members_25 : decode cX11_members 25 = .ok (.istore_n 1, 1) := by decide +kernel
theorem dX11_members_26 : decode cX11_members 26 = .ok (.iinc 2 1, 3) := by decide +kernel
theorem dX11_members_29 : decode cX11_members 29 = .ok (.goto (-25), 3) := by decide +kernel
theorem dX11_members_32 : decode cX11_members 32 = .ok (.iload_n 1, 1) := by decide +kernel
theorem dX11_members_33 : decode cX11_members 33 = .ok (.ireturn, 1) := by decide +kernel
theorem dX11_on_0 : decode cX11_on 0 = .ok (.iconst 0, 1) := by decide +kernel
theorem dX11_on_1 : decode cX11_on 1 = .ok (.istore_n 2, 1) := by decide +kernel
theorem dX11_on_2 : decode cX11_on 2 = .ok (.iload_n 2, 1) := by decide +kernel
theorem dX11_on_3 : decode cX11_on 3 = .ok (.bipush 10, 2) := by decide +kernel
theorem dX11_on_5 : decode cX11_on 5 = .ok (.if_icmp .ge 29, 3) := by decide +kernel
theorem dX11_on_8 : decode cX11_on 8 = .ok (.aload_n 0, 1) := by decide +kernel
theorem dX11_on_9 : decode cX11_on 9 = .ok (.iload_n 2, 1) := by decide +kernel
theorem dX11_on_10 : decode cX11_on 10 = .ok (.invokevirtual 65, 3) := by decide +kernel
theorem dX11_on_13 : decode cX11_on 13 = .ok (.ifCond .eq 15, 3) := by decide +kernel
theorem dX11_on_16 : decode cX11_on 16 = .ok (.aload_n 0, 1) := by decide +kernel
theorem dX11_on_17 : decode cX11_on 17 = .ok (.iload_n 2, 1) := by decide +kernel
theorem dX11_on_18 : decode cX11_on 18 = .ok (.iconst 0, 1) := by decide +kernel
theorem dX11_on_19 : decode cX11_on 19 = .ok (.invokevirtual 61, 3) := by decide +kernel
theorem dX11_on_22 : decode cX11_on 22 = .ok (.iload_n 1, 1) := by decide +kernel
theorem dX11_on_23 : decode cX11_on 23 = .ok (.if_icmp .ne 5, 3) := by decide +kernel
theorem dX11_on_26 : decode cX11_on 26 = .ok (.iload_n 2, 1) := by decide +kernel
theorem dX11_on_27 : decode cX11_on 27 = .ok (.ireturn, 1) := by decide +kernel
theorem dX11_on_28 : decode cX11_on 28 = .ok (.iinc 2 1, 3) := by decide +kernel
theorem dX11_on_31 : decode cX11_on 31 = .ok (.goto (-29), 3) := by decide +kernel
theorem dX11_on_34 : decode cX11_on 34 = .ok (.iconst (-1), 1) := by decide +kernel
theorem dX11_on_35 : decode cX11_on 35 = .ok (.ireturn, 1) := by decide +kernel
theorem dX11_leader_0 : decode cX11_leader 0 = .ok (.aload_n 0, 1) := by decide +kernel
theorem dX11_leader_1 : decode cX11_leader 1 = .ok (.getfield 9, 3) := by decide +kernel
theorem dX11_leader_4 : decode cX11_leader 4 = .ok (.iconst 1, 1) := by decide +kernel
theorem dX11_leader_5 : decode cX11_leader 5 = .ok (.iaload, 1) := by decide +kernel
theorem dX11_leader_6 : decode cX11_leader 6 = .ok (.ifCond .lt 23, 3) := by decide +kernel
theorem dX11_leader_9 : decode cX11_leader 9 = .ok (.aload_n 0, 1) := by decide +kernel
theorem dX11_leader_10 : decode cX11_leader 10 = .ok (.aload_n 0, 1) := by decide +kernel
theorem dX11_leader_11 : decode cX11_leader 11 = .ok (.getfield 9, 3) := by decide +kernel
theorem dX11_leader_14 : decode cX11_leader 14 = .ok (.iconst 1, 1) := by decide +kernel
theorem dX11_leader_15 : decode cX11_leader 15 = .ok (.iaload, 1) := by decide +kernel
theorem dX11_leader_16 : decode cX11_leader 16 = .ok (.invokevirtual 65, 3) := by decide +kernel
theorem dX11_leader_19 : decode cX11_leader 19 = .ok (.ifCond .eq 10, 3) := by decide +kernel
theorem dX11_leader_22 : decode cX11_leader 22 = .ok (.aload_n 0, 1) := by decide +kernel
theorem dX11_leader_23 : decode cX11_leader 23 = .ok (.getfield 9, 3) := by decide +kernel
theorem dX11_leader_26 : decode cX11_leader 26 = .ok (.iconst 1, 1) := by decide +kernel
theorem dX11_leader_27 : decode cX11_leader 27 = .ok (.iaload, 1) := by decide +kernel
theorem dX11_leader_28 : decode cX11_leader 28 = .ok (.ireturn, 1) := by decide +kernel
theorem dX11_leader_29 : decode cX11_leader 29 = .ok (.iconst 0, 1) := by decide +kernel
theorem dX11_leader_30 : decode cX11_leader 30 = .ok (.istore_n 1, 1) := by decide +kernel
theorem dX11_leader_31 : decode cX11_leader 31 = .ok (.iload_n 1, 1) := by decide +kernel
theorem dX11_leader_32 : decode cX11_leader 32 = .ok (.bipush 10, 2) := by decide +kernel
theorem dX11_leader_34 : decode cX11_leader 34 = .ok (.if_icmp .ge 19, 3) := by decide +kernel
theorem dX11_leader_37 : decode cX11_leader 37 = .ok (.aload_n 0, 1) := by decide +kernel
theorem dX11_leader_38 : decode cX11_leader 38 = .ok (.iload_n 1, 1) := by decide +kernel
theorem dX11_leader_39 : decode cX11_leader 39 = .ok (.invokevirtual 65, 3) := by decide +kernel
theorem dX11_leader_42 : decode cX11_leader 42 = .ok (.ifCond .eq 5, 3) := by decide +kernel
theorem dX11_leader_45 : decode cX11_leader 45 = .ok (.iload_n 1, 1) := by decide +kernel
theorem dX11_leader_46 : decode cX11_leader 46 = .ok (.ireturn, 1) := by decide +kernel
theorem dX11_leader_47 : decode cX11_leader 47 = .ok (.iinc 1 1, 3) := by decide +kernel
theorem dX11_leader_50 : decode cX11_leader 50 = .ok (.goto (-19), 3) := by decide +kernel
theorem dX11_leader_53 : decode cX11_leader 53 = .ok (.iconst (-1), 1) := by decide +kernel
theorem dX11_leader_54 : decode cX11_leader 54 = .ok (.ireturn, 1) := by decide +kernel
theorem dX11_counts_0 : decode cX11_counts 0 = .ok (.aload_n 0, 1) := by decide +kernel
theorem dX11_counts_1 : decode cX11_counts 1 = .ok (.getfield 9, 3) := by decide +kernel
theorem dX11_counts_4 : decode cX11_counts 4 = .ok (.iconst 4, 1) := by decide +kernel
theorem dX11_counts_5 : decode cX11_counts 5 = .ok (.iload_n 1, 1) := by decide +kernel
theorem dX11_counts_6 : decode cX11_counts 6 = .ok (.iadd, 1) := by decide +kernel
theorem dX11_counts_7 : decode cX11_counts 7 = .ok (.dup2, 1) := by decide +kernel
theorem dX11_counts_8 : decode cX11_counts 8 = .ok (.iaload, 1) := by decide +kernel
theorem dX11_counts_9 : decode cX11_counts 9 = .ok (.iload_n 2, 1) := by decide +kernel
theorem dX11_counts_10 : decode cX11_counts 10 = .ok (.iadd, 1) := by decide +kernel
theorem dX11_counts_11 : decode cX11_counts 11 = .ok (.iastore, 1) := by decide +kernel
theorem dX11_counts_12 : decode cX11_counts 12 = .ok (.return_, 1) := by decide +kernel
theorem dX11_beside_0 : decode cX11_beside 0 = .ok (.iload_n 0, 1) := by decide +kernel
theorem dX11_beside_1 : decode cX11_beside 1 = .ok (.bipush 12, 2) := by decide +kernel
theorem dX11_beside_3 : decode cX11_beside 3 = .ok (.irem, 1) := by decide +kernel
theorem dX11_beside_4 : decode cX11_beside 4 = .ok (.iload_n 1, 1) := by decide +kernel
theorem dX11_beside_5 : decode cX11_beside 5 = .ok (.ifCond .ne 7, 3) := by decide +kernel
theorem dX11_beside_8 : decode cX11_beside 8 = .ok (.iconst 1, 1) := by decide +kernel
theorem dX11_beside_9 : decode cX11_beside 9 = .ok (.goto 13, 3) := by decide +kernel
theorem dX11_beside_12 : decode cX11_beside 12 = .ok (.iload_n 1, 1) := by decide +kernel
theorem dX11_beside_13 : decode cX11_beside 13 = .ok (.iconst 2, 1) := by decide +kernel
theorem dX11_beside_14 : decode cX11_beside 14 = .ok (.if_icmp .ne 7, 3) := by decide +kernel
theorem dX11_beside_17 : decode cX11_beside 17 = .ok (.iconst (-1), 1) := by decide +kernel
theorem dX11_beside_18 : decode cX11_beside 18 = .ok (.goto 4, 3) := by decide +kernel
theorem dX11_beside_21 : decode cX11_beside 21 = .ok (.iconst 0, 1) := by decide +kernel
theorem dX11_beside_22 : decode cX11_beside 22 = .ok (.iadd, 1) := by decide +kernel
theorem dX11_beside_23 : decode cX11_beside 23 = .ok (.istore_n 2, 1) := by decide +kernel
theorem dX11_beside_24 : decode cX11_beside 24 = .ok (.iload_n 0, 1) := by decide +kernel
theorem dX11_beside_25 : decode cX11_beside 25 = .ok (.bipush 12, 2) := by decide +kernel
theorem dX11_beside_27 : decode cX11_beside 27 = .ok (.idiv, 1) := by decide +kernel
theorem dX11_beside_28 : decode cX11_beside 28 = .ok (.iload_n 1, 1) := by decide +kernel
theorem dX11_beside_29 : decode cX11_beside 29 = .ok (.iconst 1, 1) := by decide +kernel
theorem dX11_beside_30 : decode cX11_beside 30 = .ok (.if_icmp .ne 7, 3) := by decide +kernel
theorem dX11_beside_33 : decode cX11_beside 33 = .ok (.iconst 1, 1) := by decide +kernel
theorem dX11_beside_34 : decode cX11_beside 34 = .ok (.goto 13, 3) := by decide +kernel
theorem dX11_beside_37 : decode cX11_beside 37 = .ok (.iload_n 1, 1) := by decide +kernel
theorem dX11_beside_38 : decode cX11_beside 38 = .ok (.iconst 3, 1) := by decide +kernel
theorem dX11_beside_39 : decode cX11_beside 39 = .ok (.if_icmp .ne 7, 3) := by decide +kernel
theorem dX11_beside_42 : decode cX11_beside 42 = .ok (.iconst (-1), 1) := by decide +kernel
theorem dX11_beside_43 : decode cX11_beside 43 = .ok (.goto 4, 3) := by decide +kernel
theorem dX11_beside_46 : decode cX11_beside 46 = .ok (.iconst 0, 1) := by decide +kernel
theorem dX11_beside_47 : decode cX11_beside 47 = .ok (.iadd, 1) := by decide +kernel
theorem dX11_beside_48 : decode cX11_beside 48 = .ok (.istore_n 3, 1) := by decide +kernel
theorem dX11_beside_49 : decode cX11_beside 49 = .ok (.iload_n 2, 1) := by decide +kernel
theorem dX11_beside_50 : decode cX11_beside 50 = .ok (.iconst 0, 1) := by decide +kernel
theorem dX11_beside_51 : decode cX11_beside 51 = .ok (.bipush 11, 2) := by decide +kernel
theorem dX11_beside_53 : decode cX11_beside 53 = .ok (.invokestatic 57, 3) := by decide +kernel
theorem dX11_beside_56 : decode cX11_beside 56 = .ok (.ifCond .eq 22, 3) := by decide +kernel
theorem dX11_beside_59 : decode cX11_beside 59 = .ok (.iload_n 3, 1) := by decide +kernel
theorem dX11_beside_60 : decode cX11_beside 60 = .ok (.iconst 0, 1) := by decide +kernel
theorem dX11_beside_61 : decode cX11_beside 61 = .ok (.bipush 9, 2) := by decide +kernel
theorem dX11_beside_63 : decode cX11_beside 63 = .ok (.invokestatic 57, 3) := by decide +kernel
theorem dX11_beside_66 : decode cX11_beside 66 = .ok (.ifCond .eq 12, 3) := by decide +kernel
theorem dX11_beside_69 : decode cX11_beside 69 = .ok (.bipush 12, 2) := by decide +kernel
theorem dX11_beside_71 : decode cX11_beside 71 = .ok (.iload_n 3, 1) := by decide +kernel
theorem dX11_beside_72 : decode cX11_beside 72 = .ok (.imul, 1) := by decide +kernel
theorem dX11_beside_73 : decode cX11_beside 73 = .ok (.iload_n 2, 1) := by decide +kernel
theorem dX11_beside_74 : decode cX11_beside 74 = .ok (.iadd, 1) := by decide +kernel
theorem dX11_beside_75 : decode cX11_beside 75 = .ok (.goto 4, 3) := by decide +kernel
theorem dX11_beside_78 : decode cX11_beside 78 = .ok (.iconst (-1), 1) := by decide +kernel
theorem dX11_beside_79 : decode cX11_beside 79 = .ok (.ireturn, 1) := by decide +kernel
theorem dX11_floods_0 : decode cX11_floods 0 = .ok (.bipush 120, 2) := by decide +kernel
theorem dX11_floods_2 : decode cX11_floods 2 = .ok (.iload_n 1, 1) := by decide +kernel
theorem dX11_floods_3 : decode cX11_floods 3 = .ok (.imul, 1) := by decide +kernel
theorem dX11_floods_4 : decode cX11_floods 4 = .ok (.istore_n 3, 1) := by decide +kernel
theorem dX11_floods_5 : decode cX11_floods 5 = .ok (.iconst 0, 1) := by decide +kernel
theorem dX11_floods_6 : decode cX11_floods 6 = .ok (.istore 4, 2) := by decide +kernel
theorem dX11_floods_8 : decode cX11_floods 8 = .ok (.iload 4, 2) := by decide +kernel
theorem dX11_floods_10 : decode cX11_floods 10 = .ok (.bipush 120, 2) := by decide +kernel
theorem dX11_floods_12 : decode cX11_floods 12 = .ok (.if_icmp .ge 19, 3) := by decide +kernel
theorem dX11_floods_15 : decode cX11_floods 15 = .ok (.aload_n 0, 1) := by decide +kernel
theorem dX11_floods_16 : decode cX11_floods 16 = .ok (.getfield 13, 3) := by decide +kernel
theorem dX11_floods_19 : decode cX11_floods 19 = .ok (.iload_n 3, 1) := by decide +kernel
theorem dX11_floods_20 : decode cX11_floods 20 = .ok (.iload 4, 2) := by decide +kernel
theorem dX11_floods_22 : decode cX11_floods 22 = .ok (.iadd, 1) := by decide +kernel
theorem dX11_floods_23 : decode cX11_floods 23 = .ok (.iconst (-1), 1) := by decide +kernel
theorem dX11_floods_24 : decode cX11_floods 24 = .ok (.iastore, 1) := by decide +kernel
theorem dX11_floods_25 : decode cX11_floods 25 = .ok (.iinc 4 1, 3) := by decide +kernel
theorem dX11_floods_28 : decode cX11_floods 28 = .ok (.goto (-20), 3) := by decide +kernel
theorem dX11_floods_31 : decode cX11_floods 31 = .ok (.aload_n 0, 1) := by decide +kernel
theorem dX11_floods_32 : decode cX11_floods 32 = .ok (.iload_n 2, 1) := by decide +kernel
theorem dX11_floods_33 : decode cX11_floods 33 = .ok (.invokevirtual 69, 3) := by decide +kernel
theorem dX11_floods_36 : decode cX11_floods 36 = .ok (.ifCond .eq 4, 3) := by decide +kernel
theorem dX11_floods_39 : decode cX11_floods 39 = .ok (.return_, 1) := by decide +kernel
theorem dX11_floods_40 : decode cX11_floods 40 = .ok (.aload_n 0, 1) := by decide +kernel
theorem dX11_floods_41 : decode cX11_floods 41 = .ok (.getfield 13, 3) := by decide +kernel
theorem dX11_floods_44 : decode cX11_floods 44 = .ok (.iload_n 3, 1) := by decide +kernel
theorem dX11_floods_45 : decode cX11_floods 45 = .ok (.iload_n 2, 1) := by decide +kernel
theorem dX11_floods_46 : decode cX11_floods 46 = .ok (.iadd, 1) := by decide +kernel
theorem dX11_floods_47 : decode cX11_floods 47 = .ok (.iconst 0, 1) := by decide +kernel
theorem dX11_floods_48 : decode cX11_floods 48 = .ok (.iastore, 1) := by decide +kernel
theorem dX11_floods_49 : decode cX11_floods 49 = .ok (.aload_n 0, 1) := by decide +kernel
theorem dX11_floods_50 : decode cX11_floods 50 = .ok (.getfield 16, 3) := by decide +kernel
theorem dX11_floods_53 : decode cX11_floods 53 = .ok (.iconst 0, 1) := by decide +kernel
theorem dX11_floods_54 : decode cX11_floods 54 = .ok (.iload_n 2, 1) := by decide +kernel
theorem dX11_floods_55 : decode cX11_floods 55 = .ok (.iastore, 1) := by decide +kernel
theorem dX11_floods_56 : decode cX11_floods 56 = .ok (.iconst 1, 1) := by decide +kernel
theorem dX11_floods_57 : decode cX11_floods 57 = .ok (.istore 4, 2) := by decide +kernel
theorem dX11_floods_59 : decode cX11_floods 59 = .ok (.iconst 0, 1) := by decide +kernel
theorem dX11_floods_60 : decode cX11_floods 60 = .ok (.istore 5, 2) := by decide +kernel
theorem dX11_floods_62 : decode cX11_floods 62 = .ok (.iload 5, 2) := by decide +kernel
theorem dX11_floods_64 : decode cX11_floods 64 = .ok (.iload 4, 2) := by decide +kernel
theorem dX11_floods_66 : decode cX11_floods 66 = .ok (.if_icmp .ge 103, 3) := by decide +kernel
theorem dX11_floods_69 : decode cX11_floods 69 = .ok (.aload_n 0, 1) := by decide +kernel
theorem dX11_floods_70 : decode cX11_floods 70 = .ok (.getfield 16, 3) := by decide +kernel
theorem dX11_floods_73 : decode cX11_floods 73 = .ok (.iload 5, 2) := by decide +kernel
theorem dX11_floods_75 : decode cX11_floods 75 = .ok (.iaload, 1) := by decide +kernel
theorem dX11_floods_76 : decode cX11_floods 76 = .ok (.istore 6, 2) := by decide +kernel
theorem dX11_floods_78 : decode cX11_floods 78 = .ok (.iconst 0, 1) := by decide +kernel
theorem dX11_floods_79 : decode cX11_floods 79 = .ok (.istore 7, 2) := by decide +kernel
theorem dX11_floods_81 : decode cX11_floods 81 = .ok (.iload 7, 2) := by decide +kernel
theorem dX11_floods_83 : decode cX11_floods 83 = .ok (.iconst 4, 1) := by decide +kernel
theorem dX11_floods_84 : decode cX11_floods 84 = .ok (.if_icmp .ge 79, 3) := by decide +kernel
theorem dX11_floods_87 : decode cX11_floods 87 = .ok (.iload 6, 2) := by decide +kernel
theorem dX11_floods_89 : decode cX11_floods 89 = .ok (.iload 7, 2) := by decide +kernel
theorem dX11_floods_91 : decode cX11_floods 91 = .ok (.invokestatic 72, 3) := by decide +kernel
theorem dX11_floods_94 : decode cX11_floods 94 = .ok (.istore 8, 2) := by decide +kernel
theorem dX11_floods_96 : decode cX11_floods 96 = .ok (.iload 8, 2) := by decide +kernel
theorem dX11_floods_98 : decode cX11_floods 98 = .ok (.ifCond .lt 59, 3) := by decide +kernel
theorem dX11_floods_101 : decode cX11_floods 101 = .ok (.aload_n 0, 1) := by decide +kernel
theorem dX11_floods_102 : decode cX11_floods 102 = .ok (.iload 8, 2) := by decide +kernel
theorem dX11_floods_104 : decode cX11_floods 104 = .ok (.invokevirtual 69, 3) := by decide +kernel
theorem dX11_floods_107 : decode cX11_floods 107 = .ok (.ifCond .ne 50, 3) := by decide +kernel
theorem dX11_floods_110 : decode cX11_floods 110 = .ok (.aload_n 0, 1) := by decide +kernel
theorem dX11_floods_111 : decode cX11_floods 111 = .ok (.getfield 13, 3) := by decide +kernel
theorem dX11_floods_114 : decode cX11_floods 114 = .ok (.iload_n 3, 1) := by decide +kernel
theorem dX11_floods_115 : decode cX11_floods 115 = .ok (.iload 8, 2) := by decide +kernel
theorem dX11_floods_117 : decode cX11_floods 117 = .ok (.iadd, 1) := by decide +kernel
theorem dX11_floods_118 : decode cX11_floods 118 = .ok (.iaload, 1) := by decide +kernel
theorem dX11_floods_119 : decode cX11_floods 119 = .ok (.ifCond .lt 6, 3) := by decide +kernel
theorem dX11_floods_122 : decode cX11_floods 122 = .ok (.goto 35, 3) := by decide +kernel
theorem dX11_floods_125 : decode cX11_floods 125 = .ok (.aload_n 0, 1) := by decide +kernel
theorem dX11_floods_126 : decode cX11_floods 126 = .ok (.getfield 13, 3) := by decide +kernel
theorem dX11_floods_129 : decode cX11_floods 129 = .ok (.iload_n 3, 1) := by decide +kernel
theorem dX11_floods_130 : decode cX11_floods 130 = .ok (.iload 8, 2) := by decide +kernel
theorem dX11_floods_132 : decode cX11_floods 132 = .ok (.iadd, 1) := by decide +kernel
theorem dX11_floods_133 : decode cX11_floods 133 = .ok (.aload_n 0, 1) := by decide +kernel
theorem dX11_floods_134 : decode cX11_floods 134 = .ok (.getfield 13, 3) := by decide +kernel
theorem dX11_floods_137 : decode cX11_floods 137 = .ok (.iload_n 3, 1) := by decide +kernel
theorem dX11_floods_138 : decode cX11_floods 138 = .ok (.iload 6, 2) := by decide +kernel
theorem dX11_floods_140 : decode cX11_floods 140 = .ok (.iadd, 1) := by decide +kernel
theorem dX11_floods_141 : decode cX11_floods 141 = .ok (.iaload, 1) := by decide +kernel
theorem dX11_floods_142 : decode cX11_floods 142 = .ok (.iconst 1, 1) := by decide +kernel
theorem dX11_floods_143 : decode cX11_floods 143 = .ok (.iadd, 1) := by decide +kernel
theorem dX11_floods_144 : decode cX11_floods 144 = .ok (.iastore, 1) := by decide +kernel
theorem dX11_floods_145 : decode cX11_floods 145 = .ok (.aload_n 0, 1) := by decide +kernel
theorem dX11_floods_146 : decode cX11_floods 146 = .ok (.getfield 16, 3) := by decide +kernel
theorem dX11_floods_149 : decode cX11_floods 149 = .ok (.iload 4, 2) := by decide +kernel
theorem dX11_floods_151 : decode cX11_floods 151 = .ok (.iload 8, 2) := by decide +kernel
theorem dX11_floods_153 : decode cX11_floods 153 = .ok (.iastore, 1) := by decide +kernel
theorem dX11_floods_154 : decode cX11_floods 154 = .ok (.iinc 4 1, 3) := by decide +kernel
theorem dX11_floods_157 : decode cX11_floods 157 = .ok (.iinc 7 1, 3) := by decide +kernel
theorem dX11_floods_160 : decode cX11_floods 160 = .ok (.goto (-79), 3) := by decide +kernel
theorem dX11_floods_163 : decode cX11_floods 163 = .ok (.iinc 5 1, 3) := by decide +kernel
theorem dX11_floods_166 : decode cX11_floods 166 = .ok (.goto (-104), 3) := by decide +kernel
theorem dX11_floods_169 : decode cX11_floods 169 = .ok (.return_, 1) := by decide +kernel
theorem dX11_distanceOf_0 : decode cX11_distanceOf 0 = .ok (.aload_n 0, 1) := by decide +kernel
theorem dX11_distanceOf_1 : decode cX11_distanceOf 1 = .ok (.bipush 10, 2) := by decide +kernel
theorem dX11_distanceOf_3 : decode cX11_distanceOf 3 = .ok (.iload_n 2, 1) := by decide +kernel
theorem dX11_distanceOf_4 : decode cX11_distanceOf 4 = .ok (.invokevirtual 75, 3) := by decide +kernel
theorem dX11_distanceOf_7 : decode cX11_distanceOf 7 = .ok (.aload_n 0, 1) := by decide +kernel
theorem dX11_distanceOf_8 : decode cX11_distanceOf 8 = .ok (.getfield 13, 3) := by decide +kernel
theorem dX11_distanceOf_11 : decode cX11_distanceOf 11 = .ok (.sipush 1200, 3) := by decide +kernel
theorem dX11_distanceOf_14 : decode cX11_distanceOf 14 = .ok (.iload_n 1, 1) := by decide +kernel
theorem dX11_distanceOf_15 : decode cX11_distanceOf 15 = .ok (.iadd, 1) := by decide +kernel
theorem dX11_distanceOf_16 : decode cX11_distanceOf 16 = .ok (.iaload, 1) := by decide +kernel
theorem dX11_distanceOf_17 : decode cX11_distanceOf 17 = .ok (.ireturn, 1) := by decide +kernel
theorem dX11_shapeAt_0 : decode cX11_shapeAt 0 = .ok (.sipush 192, 3) := by decide +kernel
theorem dX11_shapeAt_3 : decode cX11_shapeAt 3 = .ok (.bipush 22, 2) := by decide +kernel
theorem dX11_shapeAt_5 : decode cX11_shapeAt 5 = .ok (.iload_n 0, 1) := by decide +kernel
theorem dX11_shapeAt_6 : decode cX11_shapeAt 6 = .ok (.imul, 1) := by decide +kernel
theorem dX11_shapeAt_7 : decode cX11_shapeAt 7 = .ok (.iadd, 1) := by decide +kernel
theorem dX11_shapeAt_8 : decode cX11_shapeAt 8 = .ok (.ireturn, 1) := by decide +kernel
theorem dX11_slots_0 : decode cX11_slots 0 = .ok (.aload_n 0, 1) := by decide +kernel
theorem dX11_slots_1 : decode cX11_slots 1 = .ok (.getfield 9, 3) := by decide +kernel
theorem dX11_slots_4 : decode cX11_slots 4 = .ok (.iload_n 1, 1) := by decide +kernel
theorem dX11_slots_5 : decode cX11_slots 5 = .ok (.invokestatic 78, 3) := by decide +kernel
theorem dX11_slots_8 : decode cX11_slots 8 = .ok (.iaload, 1) := by decide +kernel
theorem dX11_slots_9 : decode cX11_slots 9 = .ok (.ireturn, 1) := by decide +kernel
theorem dX11_anchor_0 : decode cX11_anchor 0 = .ok (.aload_n 0, 1) := by decide +kernel
theorem dX11_anchor_1 : decode cX11_anchor 1 = .ok (.getfield 9, 3) := by decide +kernel
theorem dX11_anchor_4 : decode cX11_anchor 4 = .ok (.iload_n 1, 1) := by decide +kernel
theorem dX11_anchor_5 : decode cX11_anchor 5 = .ok (.invokestatic 78, 3) := by decide +kernel
theorem dX11_anchor_8 : decode cX11_anchor 8 = .ok (.iconst 1, 1) := by decide +kernel
theorem dX11_anchor_9 : decode cX11_anchor 9 = .ok (.iadd, 1) := by decide +kernel
theorem dX11_anchor_10 : decode cX11_anchor 10 = .ok (.iaload, 1) := by decide +kernel
theorem dX11_anchor_11 : decode cX11_anchor 11 = .ok (.ireturn, 1) := by decide +kernel
theorem dX11_column_0 : decode cX11_column 0 = .ok (.aload_n 0, 1) := by decide +kernel
theorem dX11_column_1 : decode cX11_column 1 = .ok (.getfield 9, 3) := by decide +kernel
theorem dX11_column_4 : decode cX11_column 4 = .ok (.iload_n 1, 1) := by decide +kernel
theorem dX11_column_5 : decode cX11_column 5 = .ok (.invokestatic 78, 3) := by decide +kernel
theorem dX11_column_8 : decode cX11_column 8 = .ok (.iconst 2, 1) := by decide +kernel
theorem dX11_column_9 : decode cX11_column 9 = .ok (.iadd, 1) := by decide +kernel
theorem dX11_column_10 : decode cX11_column 10 = .ok (.iconst 2, 1) := by decide +kernel
theorem dX11_column_11 : decode cX11_column 11 = .ok (.iload_n 2, 1) := by decide +kernel
theorem dX11_column_12 : decode cX11_column 12 = .ok (.imul, 1) := by decide +kernel
theorem dX11_column_13 : decode cX11_column 13 = .ok (.iadd, 1) := by decide +kernel
theorem dX11_column_14 : decode cX11_column 14 = .ok (.iaload, 1) := by decide +kernel
theorem dX11_column_15 : decode cX11_column 15 = .ok (.aload_n 0, 1) := by decide +kernel
theorem dX11_column_16 : decode cX11_column 16 = .ok (.getfield 9, 3) := by decide +kernel
theorem dX11_column_19 : decode cX11_column 19 = .ok (.iload_n 1, 1) := by decide +kernel
theorem dX11_column_20 : decode cX11_column 20 = .ok (.invokestatic 78, 3) := by decide +kernel
theorem dX11_column_23 : decode cX11_column 23 = .ok (.iconst 2, 1) := by decide +kernel
theorem dX11_column_24 : decode cX11_column 24 = .ok (.iadd, 1) := by decide +kernel
theorem dX11_column_25 : decode cX11_column 25 = .ok (.iconst 2, 1) := by decide +kernel
theorem dX11_column_26 : decode cX11_column 26 = .ok (.aload_n 0, 1) := by decide +kernel
theorem dX11_column_27 : decode cX11_column 27 = .ok (.iload_n 1, 1) := by decide +kernel
theorem dX11_column_28 : decode cX11_column 28 = .ok (.invokevirtual 82, 3) := by decide +kernel
theorem dX11_column_31 : decode cX11_column 31 = .ok (.imul, 1) := by decide +kernel
theorem dX11_column_32 : decode cX11_column 32 = .ok (.iadd, 1) := by decide +kernel
theorem dX11_column_33 : decode cX11_column 33 = .ok (.iaload, 1) := by decide +kernel
theorem dX11_column_34 : decode cX11_column 34 = .ok (.isub, 1) := by decide +kernel
theorem dX11_column_35 : decode cX11_column 35 = .ok (.ireturn, 1) := by decide +kernel
theorem dX11_rowOf_0 : decode cX11_rowOf 0 = .ok (.aload_n 0, 1) := by decide +kernel
theorem dX11_rowOf_1 : decode cX11_rowOf 1 = .ok (.getfield 9, 3) := by decide +kernel
theorem dX11_rowOf_4 : decode cX11_rowOf 4 = .ok (.iload_n 1, 1) := by decide +kernel
theorem dX11_rowOf_5 : decode cX11_rowOf 5 = .ok (.invokestatic 78, 3) := by decide +kernel
theorem dX11_rowOf_8 : decode cX11_rowOf 8 = .ok (.iconst 3, 1) := by decide +kernel
theorem dX11_rowOf_9 : decode cX11_rowOf 9 = .ok (.iadd, 1) := by decide +kernel
theorem dX11_rowOf_10 : decode cX11_rowOf 10 = .ok (.iconst 2, 1) := by decide +kernel
theorem dX11_rowOf_11 : decode cX11_rowOf 11 = .ok (.iload_n 2, 1) := by decide +kernel
theorem dX11_rowOf_12 : decode cX11_rowOf 12 = .ok (.imul, 1) := by decide +kernel
theorem dX11_rowOf_13 : decode cX11_rowOf 13 = .ok (.iadd, 1) := by decide +kernel
theorem dX11_rowOf_14 : decode cX11_rowOf 14 = .ok (.iaload, 1) := by decide +kernel
theorem dX11_rowOf_15 : decode cX11_rowOf 15 = .ok (.aload_n 0, 1) := by decide +kernel
theorem dX11_rowOf_16 : decode cX11_rowOf 16 = .ok (.getfield 9, 3) := by decide +kernel
theorem dX11_rowOf_19 : decode cX11_rowOf 19 = .ok (.iload_n 1, 1) := by decide +kernel
theorem dX11_rowOf_20 : decode cX11_rowOf 20 = .ok (.invokestatic 78, 3) := by decide +kernel
theorem dX11_rowOf_23 : decode cX11_rowOf 23 = .ok (.iconst 3, 1) := by decide +kernel
theorem dX11_rowOf_24 : decode cX11_rowOf 24 = .ok (.iadd, 1) := by decide +kernel
theorem dX11_rowOf_25 : decode cX11_rowOf 25 = .ok (.iconst 2, 1) := by decide +kernel
theorem dX11_rowOf_26 : decode cX11_rowOf 26 = .ok (.aload_n 0, 1) := by decide +kernel
theorem dX11_rowOf_27 : decode cX11_rowOf 27 = .ok (.iload_n 1, 1) := by decide +kernel
theorem dX11_rowOf_28 : decode cX11_rowOf 28 = .ok (.invokevirtual 82, 3) := by decide +kernel
theorem dX11_rowOf_31 : decode cX11_rowOf 31 = .ok (.imul, 1) := by decide +kernel
theorem dX11_rowOf_32 : decode cX11_rowOf 32 = .ok (.iadd, 1) := by decide +kernel
theorem dX11_rowOf_33 : decode cX11_rowOf 33 = .ok (.iaload, 1) := by decide +kernel
theorem dX11_rowOf_34 : decode cX11_rowOf 34 = .ok (.isub, 1) := by decide +kernel
theorem dX11_rowOf_35 : decode cX11_rowOf 35 = .ok (.ireturn, 1) := by decide +kernel
theorem dX11_placeOf_0 : decode cX11_placeOf 0 = .ok (.aload_n 0, 1) := by decide +kernel
theorem dX11_placeOf_1 : decode cX11_placeOf 1 = .ok (.invokevirtual 85, 3) := by decide +kernel
theorem dX11_placeOf_4 : decode cX11_placeOf 4 = .ok (.istore_n 2, 1) := by decide +kernel
theorem dX11_placeOf_5 : decode cX11_placeOf 5 = .ok (.iload_n 2, 1) := by decide +kernel
theorem dX11_placeOf_6 : decode cX11_placeOf 6 = .ok (.ifCond .ge 5, 3) := by decide +kernel
theorem dX11_placeOf_9 : decode cX11_placeOf 9 = .ok (.iconst (-1), 1) := by decide +kernel
theorem dX11_placeOf_10 : decode cX11_placeOf 10 = .ok (.ireturn, 1) := by decide +kernel
theorem dX11_placeOf_11 : decode cX11_placeOf 11 = .ok (.aload_n 0, 1) := by decide +kernel
theorem dX11_placeOf_12 : decode cX11_placeOf 12 = .ok (.iload_n 2, 1) := by decide +kernel
theorem dX11_placeOf_13 : decode cX11_placeOf 13 = .ok (.iconst 0, 1) := by decide +kernel
theorem dX11_placeOf_14 : decode cX11_placeOf 14 = .ok (.invokevirtual 61, 3) := by decide +kernel
theorem dX11_placeOf_17 : decode cX11_placeOf 17 = .ok (.bipush 12, 2) := by decide +kernel
theorem dX11_placeOf_19 : decode cX11_placeOf 19 = .ok (.irem, 1) := by decide +kernel
theorem dX11_placeOf_20 : decode cX11_placeOf 20 = .ok (.aload_n 0, 1) := by decide +kernel
theorem dX11_placeOf_21 : decode cX11_placeOf 21 = .ok (.aload_n 0, 1) := by decide +kernel
theorem dX11_placeOf_22 : decode cX11_placeOf 22 = .ok (.getfield 9, 3) := by decide +kernel
theorem dX11_placeOf_25 : decode cX11_placeOf 25 = .ok (.iconst 3, 1) := by decide +kernel
theorem dX11_placeOf_26 : decode cX11_placeOf 26 = .ok (.iaload, 1) := by decide +kernel
theorem dX11_placeOf_27 : decode cX11_placeOf 27 = .ok (.iload_n 1, 1) := by decide +kernel
theorem dX11_placeOf_28 : decode cX11_placeOf 28 = .ok (.invokevirtual 89, 3) := by decide +kernel
theorem dX11_placeOf_31 : decode cX11_placeOf 31 = .ok (.iadd, 1) := by decide +kernel
theorem dX11_placeOf_32 : decode cX11_placeOf 32 = .ok (.istore_n 3, 1) := by decide +kernel
theorem dX11_placeOf_33 : decode cX11_placeOf 33 = .ok (.aload_n 0, 1) := by decide +kernel
theorem dX11_placeOf_34 : decode cX11_placeOf 34 = .ok (.iload_n 2, 1) := by decide +kernel
theorem dX11_placeOf_35 : decode cX11_placeOf 35 = .ok (.iconst 0, 1) := by decide +kernel
theorem dX11_placeOf_36 : decode cX11_placeOf 36 = .ok (.invokevirtual 61, 3) := by decide +kernel
theorem dX11_placeOf_39 : decode cX11_placeOf 39 = .ok (.bipush 12, 2) := by decide +kernel
theorem dX11_placeOf_41 : decode cX11_placeOf 41 = .ok (.idiv, 1) := by decide +kernel
theorem dX11_placeOf_42 : decode cX11_placeOf 42 = .ok (.aload_n 0, 1) := by decide +kernel
theorem dX11_placeOf_43 : decode cX11_placeOf 43 = .ok (.aload_n 0, 1) := by decide +kernel
theorem dX11_placeOf_44 : decode cX11_placeOf 44 = .ok (.getfield 9, 3) := by decide +kernel
theorem dX11_placeOf_47 : decode cX11_placeOf 47 = .ok (.iconst 3, 1) := by decide +kernel
theorem dX11_placeOf_48 : decode cX11_placeOf 48 = .ok (.iaload, 1) := by decide +kernel
theorem dX11_placeOf_49 : decode cX11_placeOf 49 = .ok (.iload_n 1, 1) := by decide +kernel
theorem dX11_placeOf_50 : decode cX11_placeOf 50 = .ok (.invokevirtual 92, 3) := by decide +kernel
theorem dX11_placeOf_53 : decode cX11_placeOf 53 = .ok (.iadd, 1) := by decide +kernel
theorem dX11_placeOf_54 : decode cX11_placeOf 54 = .ok (.istore 4, 2) := by decide +kernel
theorem dX11_placeOf_56 : decode cX11_placeOf 56 = .ok (.iload_n 3, 1) := by decide +kernel
theorem dX11_placeOf_57 : decode cX11_placeOf 57 = .ok (.iconst 0, 1) := by decide +kernel
theorem dX11_placeOf_58 : decode cX11_placeOf 58 = .ok (.bipush 11, 2) := by decide +kernel
theorem dX11_placeOf_60 : decode cX11_placeOf 60 = .ok (.invokestatic 57, 3) := by decide +kernel
theorem dX11_placeOf_63 : decode cX11_placeOf 63 = .ok (.ifCond .eq 38, 3) := by decide +kernel
theorem dX11_placeOf_66 : decode cX11_placeOf 66 = .ok (.iload 4, 2) := by decide +kernel
theorem dX11_placeOf_68 : decode cX11_placeOf 68 = .ok (.iconst 0, 1) := by decide +kernel
theorem dX11_placeOf_69 : decode cX11_placeOf 69 = .ok (.bipush 9, 2) := by decide +kernel
theorem dX11_placeOf_71 : decode cX11_placeOf 71 = .ok (.invokestatic 57, 3) := by decide +kernel
theorem dX11_placeOf_74 : decode cX11_placeOf 74 = .ok (.ifCond .eq 27, 3) := by decide +kernel
theorem dX11_placeOf_77 : decode cX11_placeOf 77 = .ok (.aload_n 0, 1) := by decide +kernel
theorem dX11_placeOf_78 : decode cX11_placeOf 78 = .ok (.bipush 12, 2) := by decide +kernel
theorem dX11_placeOf_80 : decode cX11_placeOf 80 = .ok (.iload 4, 2) := by decide +kernel
theorem dX11_placeOf_82 : decode cX11_placeOf 82 = .ok (.imul, 1) := by decide +kernel
theorem dX11_placeOf_83 : decode cX11_placeOf 83 = .ok (.iload_n 3, 1) := by decide +kernel
theorem dX11_placeOf_84 : decode cX11_placeOf 84 = .ok (.iadd, 1) := by decide +kernel
theorem dX11_placeOf_85 : decode cX11_placeOf 85 = .ok (.invokevirtual 69, 3) := by decide +kernel
theorem dX11_placeOf_88 : decode cX11_placeOf 88 = .ok (.ifCond .ne 13, 3) := by decide +kernel
theorem dX11_placeOf_91 : decode cX11_placeOf 91 = .ok (.bipush 12, 2) := by decide +kernel
theorem dX11_placeOf_93 : decode cX11_placeOf 93 = .ok (.iload 4, 2) := by decide +kernel
theorem dX11_placeOf_95 : decode cX11_placeOf 95 = .ok (.imul, 1) := by decide +kernel
theorem dX11_placeOf_96 : decode cX11_placeOf 96 = .ok (.iload_n 3, 1) := by decide +kernel
theorem dX11_placeOf_97 : decode cX11_placeOf 97 = .ok (.iadd, 1) := by decide +kernel
theorem dX11_placeOf_98 : decode cX11_placeOf 98 = .ok (.goto 4, 3) := by decide +kernel
theorem dX11_placeOf_101 : decode cX11_placeOf 101 = .ok (.iconst (-1), 1) := by decide +kernel
theorem dX11_placeOf_102 : decode cX11_placeOf 102 = .ok (.ireturn, 1) := by decide +kernel
theorem dX11_reckons_0 : decode cX11_reckons 0 = .ok (.aload_n 0, 1) := by decide +kernel
theorem dX11_reckons_1 : decode cX11_reckons 1 = .ok (.invokevirtual 85, 3) := by decide +kernel
theorem dX11_reckons_4 : decode cX11_reckons 4 = .ok (.istore_n 2, 1) := by decide +kernel
theorem dX11_reckons_5 : decode cX11_reckons 5 = .ok (.iconst 0, 1) := by decide +kernel
theorem dX11_reckons_6 : decode cX11_reckons 6 = .ok (.istore_n 3, 1) := by decide +kernel
theorem dX11_reckons_7 : decode cX11_reckons 7 = .ok (.iload_n 3, 1) := by decide +kernel
theorem dX11_reckons_8 : decode cX11_reckons 8 = .ok (.bipush 10, 2) := by decide +kernel
theorem dX11_reckons_10 : decode cX11_reckons 10 = .ok (.if_icmp .ge 97, 3) := by decide +kernel
theorem dX11_reckons_13 : decode cX11_reckons 13 = .ok (.iconst 0, 1) := by decide +kernel
theorem dX11_reckons_14 : decode cX11_reckons 14 = .ok (.istore 4, 2) := by decide +kernel
theorem dX11_reckons_16 : decode cX11_reckons 16 = .ok (.iload 4, 2) := by decide +kernel
theorem dX11_reckons_18 : decode cX11_reckons 18 = .ok (.iload_n 1, 1) := by decide +kernel
theorem dX11_reckons_19 : decode cX11_reckons 19 = .ok (.if_icmp .ge 82, 3) := by decide +kernel
theorem dX11_reckons_22 : decode cX11_reckons 22 = .ok (.aload_n 0, 1) := by decide +kernel
theorem dX11_reckons_23 : decode cX11_reckons 23 = .ok (.iload_n 3, 1) := by decide +kernel
theorem dX11_reckons_24 : decode cX11_reckons 24 = .ok (.invokevirtual 65, 3) := by decide +kernel
theorem dX11_reckons_27 : decode cX11_reckons 27 = .ok (.ifCond .eq 38, 3) := by decide +kernel
theorem dX11_reckons_30 : decode cX11_reckons 30 = .ok (.iload_n 3, 1) := by decide +kernel
theorem dX11_reckons_31 : decode cX11_reckons 31 = .ok (.iload_n 2, 1) := by decide +kernel
theorem dX11_reckons_32 : decode cX11_reckons 32 = .ok (.if_icmp .eq 33, 3) := by decide +kernel
theorem dX11_reckons_35 : decode cX11_reckons 35 = .ok (.aload_n 0, 1) := by decide +kernel
theorem dX11_reckons_36 : decode cX11_reckons 36 = .ok (.getfield 19, 3) := by decide +kernel
theorem dX11_reckons_39 : decode cX11_reckons 39 = .ok (.iload 4, 2) := by decide +kernel
theorem dX11_reckons_41 : decode cX11_reckons 41 = .ok (.iaload, 1) := by decide +kernel
theorem dX11_reckons_42 : decode cX11_reckons 42 = .ok (.ifCond .lt 23, 3) := by decide +kernel
theorem dX11_reckons_45 : decode cX11_reckons 45 = .ok (.aload_n 0, 1) := by decide +kernel
theorem dX11_reckons_46 : decode cX11_reckons 46 = .ok (.getfield 13, 3) := by decide +kernel
theorem dX11_reckons_49 : decode cX11_reckons 49 = .ok (.bipush 120, 2) := by decide +kernel
theorem dX11_reckons_51 : decode cX11_reckons 51 = .ok (.iload 4, 2) := by decide +kernel
theorem dX11_reckons_53 : decode cX11_reckons 53 = .ok (.imul, 1) := by decide +kernel
theorem dX11_reckons_54 : decode cX11_reckons 54 = .ok (.aload_n 0, 1) := by decide +kernel
theorem dX11_reckons_55 : decode cX11_reckons 55 = .ok (.iload_n 3, 1) := by decide +kernel
theorem dX11_reckons_56 : decode cX11_reckons 56 = .ok (.iconst 0, 1) := by decide +kernel
theorem dX11_reckons_57 : decode cX11_reckons 57 = .ok (.invokevirtual 61, 3) := by decide +kernel
theorem dX11_reckons_60 : decode cX11_reckons 60 = .ok (.iadd, 1) := by decide +kernel
theorem dX11_reckons_61 : decode cX11_reckons 61 = .ok (.iaload, 1) := by decide +kernel
theorem dX11_reckons_62 : decode cX11_reckons 62 = .ok (.goto 4, 3) := by decide +kernel
theorem dX11_reckons_65 : decode cX11_reckons 65 = .ok (.iconst (-1), 1) := by decide +kernel
theorem dX11_reckons_66 : decode cX11_reckons 66 = .ok (.istore 5, 2) := by decide +kernel
theorem dX11_reckons_68 : decode cX11_reckons 68 = .ok (.aload_n 0, 1) := by decide +kernel
theorem dX11_reckons_69 : decode cX11_reckons 69 = .ok (.getfield 28, 3) := by decide +kernel
theorem dX11_reckons_72 : decode cX11_reckons 72 = .ok (.bipush 10, 2) := by decide +kernel
theorem dX11_reckons_74 : decode cX11_reckons 74 = .ok (.iload_n 3, 1) := by decide +kernel
theorem dX11_reckons_75 : decode cX11_reckons 75 = .ok (.imul, 1) := by decide +kernel
theorem dX11_reckons_76 : decode cX11_reckons 76 = .ok (.iload 4, 2) := by decide +kernel
theorem dX11_reckons_78 : decode cX11_reckons 78 = .ok (.iadd, 1) := by decide +kernel
theorem dX11_reckons_79 : decode cX11_reckons 79 = .ok (.iload 5, 2) := by decide +kernel
theorem dX11_reckons_81 : decode cX11_reckons 81 = .ok (.ifCond .ge 7, 3) := by decide +kernel
theorem dX11_reckons_84 : decode cX11_reckons 84 = .ok (.iconst 0, 1) := by decide +kernel
theorem dX11_reckons_85 : decode cX11_reckons 85 = .ok (.goto 9, 3) := by decide +kernel
theorem dX11_reckons_88 : decode cX11_reckons 88 = .ok (.sipush 10000, 3) := by decide +kernel
theorem dX11_reckons_91 : decode cX11_reckons 91 = .ok (.iload 5, 2) := by decide +kernel
theorem dX11_reckons_93 : decode cX11_reckons 93 = .ok (.isub, 1) := by decide +kernel
theorem dX11_reckons_94 : decode cX11_reckons 94 = .ok (.iastore, 1) := by decide +kernel
theorem dX11_reckons_95 : decode cX11_reckons 95 = .ok (.iinc 4 1, 3) := by decide +kernel
theorem dX11_reckons_98 : decode cX11_reckons 98 = .ok (.goto (-82), 3) := by decide +kernel
theorem dX11_reckons_101 : decode cX11_reckons 101 = .ok (.iinc 3 1, 3) := by decide +kernel
theorem dX11_reckons_104 : decode cX11_reckons 104 = .ok (.goto (-97), 3) := by decide +kernel
theorem dX11_reckons_107 : decode cX11_reckons 107 = .ok (.return_, 1) := by decide +kernel
theorem dX11_gives_0 : decode cX11_gives 0 = .ok (.aload_n 0, 1) := by decide +kernel
theorem dX11_gives_1 : decode cX11_gives 1 = .ok (.iconst 0, 1) := by decide +kernel
theorem dX11_gives_2 : decode cX11_gives 2 = .ok (.putfield 95, 3) := by decide +kernel
theorem dX11_gives_5 : decode cX11_gives 5 = .ok (.aload_n 0, 1) := by decide +kernel
theorem dX11_gives_6 : decode cX11_gives 6 = .ok (.iconst 0, 1) := by decide +kernel
theorem dX11_gives_7 : decode cX11_gives 7 = .ok (.putfield 98, 3) := by decide +kernel
theorem dX11_gives_10 : decode cX11_gives 10 = .ok (.iconst 0, 1) := by decide +kernel
theorem dX11_gives_11 : decode cX11_gives 11 = .ok (.istore_n 1, 1) := by decide +kernel
theorem dX11_gives_12 : decode cX11_gives 12 = .ok (.iload_n 1, 1) := by decide +kernel
theorem dX11_gives_13 : decode cX11_gives 13 = .ok (.bipush 10, 2) := by decide +kernel
theorem dX11_gives_15 : decode cX11_gives 15 = .ok (.if_icmp .ge 16, 3) := by decide +kernel
theorem dX11_gives_18 : decode cX11_gives 18 = .ok (.aload_n 0, 1) := by decide +kernel
theorem dX11_gives_19 : decode cX11_gives 19 = .ok (.getfield 25, 3) := by decide +kernel
theorem dX11_gives_22 : decode cX11_gives 22 = .ok (.iload_n 1, 1) := by decide +kernel
theorem dX11_gives_23 : decode cX11_gives 23 = .ok (.iconst (-1), 1) := by decide +kernel
theorem dX11_gives_24 : decode cX11_gives 24 = .ok (.iastore, 1) := by decide +kernel
theorem dX11_gives_25 : decode cX11_gives 25 = .ok (.iinc 1 1, 3) := by decide +kernel
theorem dX11_gives_28 : decode cX11_gives 28 = .ok (.goto (-16), 3) := by decide +kernel
theorem dX11_gives_31 : decode cX11_gives 31 = .ok (.aload_n 0, 1) := by decide +kernel
theorem dX11_gives_32 : decode cX11_gives 32 = .ok (.getfield 9, 3) := by decide +kernel
theorem dX11_gives_35 : decode cX11_gives 35 = .ok (.iconst 3, 1) := by decide +kernel
theorem dX11_gives_36 : decode cX11_gives 36 = .ok (.iaload, 1) := by decide +kernel
theorem dX11_gives_37 : decode cX11_gives 37 = .ok (.istore_n 1, 1) := by decide +kernel
theorem dX11_gives_38 : decode cX11_gives 38 = .ok (.aload_n 0, 1) := by decide +kernel
theorem dX11_gives_39 : decode cX11_gives 39 = .ok (.iload_n 1, 1) := by decide +kernel
theorem dX11_gives_40 : decode cX11_gives 40 = .ok (.invokevirtual 101, 3) := by decide +kernel
theorem dX11_gives_43 : decode cX11_gives 43 = .ok (.istore_n 2, 1) := by decide +kernel
theorem dX11_gives_44 : decode cX11_gives 44 = .ok (.iconst 0, 1) := by decide +kernel
theorem dX11_gives_45 : decode cX11_gives 45 = .ok (.istore_n 3, 1) := by decide +kernel
theorem dX11_gives_46 : decode cX11_gives 46 = .ok (.iconst 0, 1) := by decide +kernel
theorem dX11_gives_47 : decode cX11_gives 47 = .ok (.istore 4, 2) := by decide +kernel
theorem dX11_gives_49 : decode cX11_gives 49 = .ok (.iload 4, 2) := by decide +kernel
theorem dX11_gives_51 : decode cX11_gives 51 = .ok (.iload_n 2, 1) := by decide +kernel
theorem dX11_gives_52 : decode cX11_gives 52 = .ok (.if_icmp .ge 69, 3) := by decide +kernel
theorem dX11_gives_55 : decode cX11_gives 55 = .ok (.aload_n 0, 1) := by decide +kernel
theorem dX11_gives_56 : decode cX11_gives 56 = .ok (.getfield 19, 3) := by decide +kernel
theorem dX11_gives_59 : decode cX11_gives 59 = .ok (.iload 4, 2) := by decide +kernel
theorem dX11_gives_61 : decode cX11_gives 61 = .ok (.iload 4, 2) := by decide +kernel
theorem dX11_gives_63 : decode cX11_gives 63 = .ok (.aload_n 0, 1) := by decide +kernel
theorem dX11_gives_64 : decode cX11_gives 64 = .ok (.iload_n 1, 1) := by decide +kernel
theorem dX11_gives_65 : decode cX11_gives 65 = .ok (.invokevirtual 82, 3) := by decide +kernel
theorem dX11_gives_68 : decode cX11_gives 68 = .ok (.if_icmp .ne 7, 3) := by decide +kernel
theorem dX11_gives_71 : decode cX11_gives 71 = .ok (.iconst (-1), 1) := by decide +kernel
theorem dX11_gives_72 : decode cX11_gives 72 = .ok (.goto 9, 3) := by decide +kernel
theorem dX11_gives_75 : decode cX11_gives 75 = .ok (.aload_n 0, 1) := by decide +kernel
theorem dX11_gives_76 : decode cX11_gives 76 = .ok (.iload 4, 2) := by decide +kernel
theorem dX11_gives_78 : decode cX11_gives 78 = .ok (.invokevirtual 104, 3) := by decide +kernel
theorem dX11_gives_81 : decode cX11_gives 81 = .ok (.iastore, 1) := by decide +kernel
theorem dX11_gives_82 : decode cX11_gives 82 = .ok (.aload_n 0, 1) := by decide +kernel
theorem dX11_gives_83 : decode cX11_gives 83 = .ok (.getfield 19, 3) := by decide +kernel
theorem dX11_gives_86 : decode cX11_gives 86 = .ok (.iload 4, 2) := by decide +kernel
theorem dX11_gives_88 : decode cX11_gives 88 = .ok (.iaload, 1) := by decide +kernel
theorem dX11_gives_89 : decode cX11_gives 89 = .ok (.ifCond .ge 6, 3) := by decide +kernel
theorem dX11_gives_92 : decode cX11_gives 92 = .ok (.goto 23, 3) := by decide +kernel
theorem dX11_gives_95 : decode cX11_gives 95 = .ok (.iload_n 3, 1) := by decide +kernel
theorem dX11_gives_96 : decode cX11_gives 96 = .ok (.iconst 1, 1) := by decide +kernel
theorem dX11_gives_97 : decode cX11_gives 97 = .ok (.iload 4, 2) := by decide +kernel
theorem dX11_gives_99 : decode cX11_gives 99 = .ok (.ishl, 1) := by decide +kernel
theorem dX11_gives_100 : decode cX11_gives 100 = .ok (.ior, 1) := by decide +kernel
theorem dX11_gives_101 : decode cX11_gives 101 = .ok (.istore_n 3, 1) := by decide +kernel
theorem dX11_gives_102 : decode cX11_gives 102 = .ok (.aload_n 0, 1) := by decide +kernel
theorem dX11_gives_103 : decode cX11_gives 103 = .ok (.iload 4, 2) := by decide +kernel
theorem dX11_gives_105 : decode cX11_gives 105 = .ok (.aload_n 0, 1) := by decide +kernel
theorem dX11_gives_106 : decode cX11_gives 106 = .ok (.getfield 19, 3) := by decide +kernel
theorem dX11_gives_109 : decode cX11_gives 109 = .ok (.iload 4, 2) := by decide +kernel
theorem dX11_gives_111 : decode cX11_gives 111 = .ok (.iaload, 1) := by decide +kernel
theorem dX11_gives_112 : decode cX11_gives 112 = .ok (.invokevirtual 75, 3) := by decide +kernel
theorem dX11_gives_115 : decode cX11_gives 115 = .ok (.iinc 4 1, 3) := by decide +kernel
theorem dX11_gives_118 : decode cX11_gives 118 = .ok (.goto (-69), 3) := by decide +kernel
theorem dX11_gives_121 : decode cX11_gives 121 = .ok (.aload_n 0, 1) := by decide +kernel
theorem dX11_gives_122 : decode cX11_gives 122 = .ok (.iload_n 2, 1) := by decide +kernel
theorem dX11_gives_123 : decode cX11_gives 123 = .ok (.invokevirtual 107, 3) := by decide +kernel
theorem dX11_gives_126 : decode cX11_gives 126 = .ok (.iconst 0, 1) := by decide +kernel
theorem dX11_gives_127 : decode cX11_gives 127 = .ok (.istore 4, 2) := by decide +kernel
theorem dX11_gives_129 : decode cX11_gives 129 = .ok (.iload 4, 2) := by decide +kernel
theorem dX11_gives_131 : decode cX11_gives 131 = .ok (.iconst 1, 1) := by decide +kernel
theorem dX11_gives_132 : decode cX11_gives 132 = .ok (.iload_n 2, 1) := by decide +kernel
theorem dX11_gives_133 : decode cX11_gives 133 = .ok (.ishl, 1) := by decide +kernel
theorem dX11_gives_134 : decode cX11_gives 134 = .ok (.if_icmp .ge 21, 3) := by decide +kernel
theorem dX11_gives_137 : decode cX11_gives 137 = .ok (.aload_n 0, 1) := by decide +kernel
theorem dX11_gives_138 : decode cX11_gives 138 = .ok (.getfield 22, 3) := by decide +kernel
theorem dX11_gives_141 : decode cX11_gives 141 = .ok (.sipush 10240, 3) := by decide +kernel
theorem dX11_gives_144 : decode cX11_gives 144 = .ok (.iload 4, 2) := by decide +kernel
theorem dX11_gives_146 : decode cX11_gives 146 = .ok (.iadd, 1) := by decide +kernel
theorem dX11_gives_147 : decode cX11_gives 147 = .ok (.iconst 0, 1) := by decide +kernel
theorem dX11_gives_148 : decode cX11_gives 148 = .ok (.iastore, 1) := by decide +kernel
theorem dX11_gives_149 : decode cX11_gives 149 = .ok (.iinc 4 1, 3) := by decide +kernel
theorem dX11_gives_152 : decode cX11_gives 152 = .ok (.goto (-23), 3) := by decide +kernel
theorem dX11_gives_155 : decode cX11_gives 155 = .ok (.bipush 9, 2) := by decide +kernel
theorem dX11_gives_157 : decode cX11_gives 157 = .ok (.istore 4, 2) := by decide +kernel
theorem dX11_gives_159 : decode cX11_gives 159 = .ok (.iload 4, 2) := by decide +kernel
theorem dX11_gives_161 : decode cX11_gives 161 = .ok (.ifCond .lt 159, 3) := by decide +kernel
theorem dX11_gives_164 : decode cX11_gives 164 = .ok (.iconst 0, 1) := by decide +kernel
theorem dX11_gives_165 : decode cX11_gives 165 = .ok (.istore 5, 2) := by decide +kernel
theorem dX11_gives_167 : decode cX11_gives 167 = .ok (.iload 5, 2) := by decide +kernel
theorem dX11_gives_169 : decode cX11_gives 169 = .ok (.iconst 1, 1) := by decide +kernel
theorem dX11_gives_170 : decode cX11_gives 170 = .ok (.iload_n 2, 1) := by decide +kernel
theorem dX11_gives_171 : decode cX11_gives 171 = .ok (.ishl, 1) := by decide +kernel
theorem dX11_gives_172 : decode cX11_gives 172 = .ok (.if_icmp .ge 142, 3) := by decide +kernel
theorem dX11_gives_175 : decode cX11_gives 175 = .ok (.aload_n 0, 1) := by decide +kernel
theorem dX11_gives_176 : decode cX11_gives 176 = .ok (.getfield 22, 3) := by decide +kernel
theorem dX11_gives_179 : decode cX11_gives 179 = .ok (.sipush 1024, 3) := by decide +kernel
theorem dX11_gives_182 : decode cX11_gives 182 = .ok (.iload 4, 2) := by decide +kernel
theorem dX11_gives_184 : decode cX11_gives 184 = .ok (.iconst 1, 1) := by decide +kernel
theorem dX11_gives_185 : decode cX11_gives 185 = .ok (.iadd, 1) := by decide +kernel
theorem dX11_gives_186 : decode cX11_gives 186 = .ok (.imul, 1) := by decide +kernel
theorem dX11_gives_187 : decode cX11_gives 187 = .ok (.iload 5, 2) := by decide +kernel
theorem dX11_gives_189 : decode cX11_gives 189 = .ok (.iadd, 1) := by decide +kernel
theorem dX11_gives_190 : decode cX11_gives 190 = .ok (.iaload, 1) := by decide +kernel
theorem dX11_gives_191 : decode cX11_gives 191 = .ok (.istore 6, 2) := by decide +kernel
theorem dX11_gives_193 : decode cX11_gives 193 = .ok (.iconst 0, 1) := by decide +kernel
theorem dX11_gives_194 : decode cX11_gives 194 = .ok (.istore 7, 2) := by decide +kernel
theorem dX11_gives_196 : decode cX11_gives 196 = .ok (.iload 7, 2) := by decide +kernel
theorem dX11_gives_198 : decode cX11_gives 198 = .ok (.iload_n 2, 1) := by decide +kernel
theorem dX11_gives_199 : decode cX11_gives 199 = .ok (.if_icmp .ge 93, 3) := by decide +kernel
theorem dX11_gives_202 : decode cX11_gives 202 = .ok (.iload 5, 2) := by decide +kernel
theorem dX11_gives_204 : decode cX11_gives 204 = .ok (.iload 7, 2) := by decide +kernel
theorem dX11_gives_206 : decode cX11_gives 206 = .ok (.ishr, 1) := by decide +kernel
theorem dX11_gives_207 : decode cX11_gives 207 = .ok (.iconst 1, 1) := by decide +kernel
theorem dX11_gives_208 : decode cX11_gives 208 = .ok (.iand, 1) := by decide +kernel
theorem dX11_gives_209 : decode cX11_gives 209 = .ok (.ifCond .eq 77, 3) := by decide +kernel
theorem dX11_gives_212 : decode cX11_gives 212 = .ok (.aload_n 0, 1) := by decide +kernel
theorem dX11_gives_213 : decode cX11_gives 213 = .ok (.getfield 28, 3) := by decide +kernel
theorem dX11_gives_216 : decode cX11_gives 216 = .ok (.bipush 10, 2) := by decide +kernel
theorem dX11_gives_218 : decode cX11_gives 218 = .ok (.iload 4, 2) := by decide +kernel
theorem dX11_gives_220 : decode cX11_gives 220 = .ok (.imul, 1) := by decide +kernel
theorem dX11_gives_221 : decode cX11_gives 221 = .ok (.iload 7, 2) := by decide +kernel
theorem dX11_gives_223 : decode cX11_gives 223 = .ok (.iadd, 1) := by decide +kernel
theorem dX11_gives_224 : decode cX11_gives 224 = .ok (.iaload, 1) := by decide +kernel
theorem dX11_gives_225 : decode cX11_gives 225 = .ok (.ifCond .ne 6, 3) := by decide +kernel
theorem dX11_gives_228 : decode cX11_gives 228 = .ok (.goto 58, 3) := by decide +kernel
theorem dX11_gives_231 : decode cX11_gives 231 = .ok (.aload_n 0, 1) := by decide +kernel
theorem dX11_gives_232 : decode cX11_gives 232 = .ok (.getfield 28, 3) := by decide +kernel
theorem dX11_gives_235 : decode cX11_gives 235 = .ok (.bipush 10, 2) := by decide +kernel
theorem dX11_gives_237 : decode cX11_gives 237 = .ok (.iload 4, 2) := by decide +kernel
theorem dX11_gives_239 : decode cX11_gives 239 = .ok (.imul, 1) := by decide +kernel
theorem dX11_gives_240 : decode cX11_gives 240 = .ok (.iload 7, 2) := by decide +kernel
theorem dX11_gives_242 : decode cX11_gives 242 = .ok (.iadd, 1) := by decide +kernel
theorem dX11_gives_243 : decode cX11_gives 243 = .ok (.iaload, 1) := by decide +kernel
theorem dX11_gives_244 : decode cX11_gives 244 = .ok (.aload_n 0, 1) := by decide +kernel
theorem dX11_gives_245 : decode cX11_gives 245 = .ok (.getfield 22, 3) := by decide +kernel
theorem dX11_gives_248 : decode cX11_gives 248 = .ok (.sipush 1024, 3) := by decide +kernel
theorem dX11_gives_251 : decode cX11_gives 251 = .ok (.iload 4, 2) := by decide +kernel
theorem dX11_gives_253 : decode cX11_gives 253 = .ok (.iconst 1, 1) := by decide +kernel
theorem dX11_gives_254 : decode cX11_gives 254 = .ok (.iadd, 1) := by decide +kernel
theorem dX11_gives_255 : decode cX11_gives 255 = .ok (.imul, 1) := by decide +kernel
theorem dX11_gives_256 : decode cX11_gives 256 = .ok (.iload 5, 2) := by decide +kernel
theorem dX11_gives_258 : decode cX11_gives 258 = .ok (.iconst 1, 1) := by decide +kernel
theorem dX11_gives_259 : decode cX11_gives 259 = .ok (.iload 7, 2) := by decide +kernel
theorem dX11_gives_261 : decode cX11_gives 261 = .ok (.ishl, 1) := by decide +kernel
theorem dX11_gives_262 : decode cX11_gives 262 = .ok (.iconst (-1), 1) := by decide +kernel
theorem dX11_gives_263 : decode cX11_gives 263 = .ok (.ixor, 1) := by decide +kernel
theorem dX11_gives_264 : decode cX11_gives 264 = .ok (.iand, 1) := by decide +kernel
theorem dX11_gives_265 : decode cX11_gives 265 = .ok (.iadd, 1) := by decide +kernel
theorem dX11_gives_266 : decode cX11_gives 266 = .ok (.iaload, 1) := by decide +kernel
theorem dX11_gives_267 : decode cX11_gives 267 = .ok (.iadd, 1) := by decide +kernel
theorem dX11_gives_268 : decode cX11_gives 268 = .ok (.istore 8, 2) := by decide +kernel
theorem dX11_gives_270 : decode cX11_gives 270 = .ok (.iload 8, 2) := by decide +kernel
theorem dX11_gives_272 : decode cX11_gives 272 = .ok (.iload 6, 2) := by decide +kernel
theorem dX11_gives_274 : decode cX11_gives 274 = .ok (.if_icmp .le 8, 3) := by decide +kernel
theorem dX11_gives_277 : decode cX11_gives 277 = .ok (.iload 8, 2) := by decide +kernel
theorem dX11_gives_279 : decode cX11_gives 279 = .ok (.goto 5, 3) := by decide +kernel
theorem dX11_gives_282 : decode cX11_gives 282 = .ok (.iload 6, 2) := by decide +kernel
theorem dX11_gives_284 : decode cX11_gives 284 = .ok (.istore 6, 2) := by decide +kernel
theorem dX11_gives_286 : decode cX11_gives 286 = .ok (.iinc 7 1, 3) := by decide +kernel
theorem dX11_gives_289 : decode cX11_gives 289 = .ok (.goto (-93), 3) := by decide +kernel
theorem dX11_gives_292 : decode cX11_gives 292 = .ok (.aload_n 0, 1) := by decide +kernel
theorem dX11_gives_293 : decode cX11_gives 293 = .ok (.getfield 22, 3) := by decide +kernel
theorem dX11_gives_296 : decode cX11_gives 296 = .ok (.sipush 1024, 3) := by decide +kernel
theorem dX11_gives_299 : decode cX11_gives 299 = .ok (.iload 4, 2) := by decide +kernel
theorem dX11_gives_301 : decode cX11_gives 301 = .ok (.imul, 1) := by decide +kernel
theorem dX11_gives_302 : decode cX11_gives 302 = .ok (.iload 5, 2) := by decide +kernel
theorem dX11_gives_304 : decode cX11_gives 304 = .ok (.iadd, 1) := by decide +kernel
theorem dX11_gives_305 : decode cX11_gives 305 = .ok (.iload 6, 2) := by decide +kernel
theorem dX11_gives_307 : decode cX11_gives 307 = .ok (.iastore, 1) := by decide +kernel
theorem dX11_gives_308 : decode cX11_gives 308 = .ok (.iinc 5 1, 3) := by decide +kernel
theorem dX11_gives_311 : decode cX11_gives 311 = .ok (.goto (-144), 3) := by decide +kernel
theorem dX11_gives_314 : decode cX11_gives 314 = .ok (.iinc 4 (-1), 3) := by decide +kernel
theorem dX11_gives_317 : decode cX11_gives 317 = .ok (.goto (-158), 3) := by decide +kernel
theorem dX11_gives_320 : decode cX11_gives 320 = .ok (.iconst 0, 1) := by decide +kernel
theorem dX11_gives_321 : decode cX11_gives 321 = .ok (.istore 4, 2) := by decide +kernel
theorem dX11_gives_323 : decode cX11_gives 323 = .ok (.iload 4, 2) := by decide +kernel
theorem dX11_gives_325 : decode cX11_gives 325 = .ok (.bipush 10, 2) := by decide +kernel
theorem dX11_gives_327 : decode cX11_gives 327 = .ok (.if_icmp .ge 154, 3) := by decide +kernel
theorem dX11_gives_330 : decode cX11_gives 330 = .ok (.aload_n 0, 1) := by decide +kernel
theorem dX11_gives_331 : decode cX11_gives 331 = .ok (.getfield 22, 3) := by decide +kernel
theorem dX11_gives_334 : decode cX11_gives 334 = .ok (.sipush 1024, 3) := by decide +kernel
theorem dX11_gives_337 : decode cX11_gives 337 = .ok (.iload 4, 2) := by decide +kernel
theorem dX11_gives_339 : decode cX11_gives 339 = .ok (.imul, 1) := by decide +kernel
theorem dX11_gives_340 : decode cX11_gives 340 = .ok (.iload_n 3, 1) := by decide +kernel
theorem dX11_gives_341 : decode cX11_gives 341 = .ok (.iadd, 1) := by decide +kernel
theorem dX11_gives_342 : decode cX11_gives 342 = .ok (.iaload, 1) := by decide +kernel
theorem dX11_gives_343 : decode cX11_gives 343 = .ok (.istore 5, 2) := by decide +kernel
theorem dX11_gives_345 : decode cX11_gives 345 = .ok (.iconst 0, 1) := by decide +kernel
theorem dX11_gives_346 : decode cX11_gives 346 = .ok (.istore 6, 2) := by decide +kernel
theorem dX11_gives_348 : decode cX11_gives 348 = .ok (.iload 6, 2) := by decide +kernel
theorem dX11_gives_350 : decode cX11_gives 350 = .ok (.iload_n 2, 1) := by decide +kernel
theorem dX11_gives_351 : decode cX11_gives 351 = .ok (.if_icmp .ge 124, 3) := by decide +kernel
theorem dX11_gives_354 : decode cX11_gives 354 = .ok (.aload_n 0, 1) := by decide +kernel
theorem dX11_gives_355 : decode cX11_gives 355 = .ok (.getfield 25, 3) := by decide +kernel
theorem dX11_gives_358 : decode cX11_gives 358 = .ok (.iload 4, 2) := by decide +kernel
theorem dX11_gives_360 : decode cX11_gives 360 = .ok (.iaload, 1) := by decide +kernel
theorem dX11_gives_361 : decode cX11_gives 361 = .ok (.ifCond .ge 114, 3) := by decide +kernel
theorem dX11_gives_364 : decode cX11_gives 364 = .ok (.aload_n 0, 1) := by decide +kernel
theorem dX11_gives_365 : decode cX11_gives 365 = .ok (.getfield 28, 3) := by decide +kernel
theorem dX11_gives_368 : decode cX11_gives 368 = .ok (.bipush 10, 2) := by decide +kernel
theorem dX11_gives_370 : decode cX11_gives 370 = .ok (.iload 4, 2) := by decide +kernel
theorem dX11_gives_372 : decode cX11_gives 372 = .ok (.imul, 1) := by decide +kernel
theorem dX11_gives_373 : decode cX11_gives 373 = .ok (.iload 6, 2) := by decide +kernel
theorem dX11_gives_375 : decode cX11_gives 375 = .ok (.iadd, 1) := by decide +kernel
theorem dX11_gives_376 : decode cX11_gives 376 = .ok (.iaload, 1) := by decide +kernel
theorem dX11_gives_377 : decode cX11_gives 377 = .ok (.istore 7, 2) := by decide +kernel
theorem dX11_gives_379 : decode cX11_gives 379 = .ok (.iload_n 3, 1) := by decide +kernel
theorem dX11_gives_380 : decode cX11_gives 380 = .ok (.iload 6, 2) := by decide +kernel
theorem dX11_gives_382 : decode cX11_gives 382 = .ok (.ishr, 1) := by decide +kernel
theorem dX11_gives_383 : decode cX11_gives 383 = .ok (.iconst 1, 1) := by decide +kernel
theorem dX11_gives_384 : decode cX11_gives 384 = .ok (.iand, 1) := by decide +kernel
theorem dX11_gives_385 : decode cX11_gives 385 = .ok (.ifCond .eq 84, 3) := by decide +kernel
theorem dX11_gives_388 : decode cX11_gives 388 = .ok (.iload 7, 2) := by decide +kernel
theorem dX11_gives_390 : decode cX11_gives 390 = .ok (.ifCond .eq 79, 3) := by decide +kernel
theorem dX11_gives_393 : decode cX11_gives 393 = .ok (.iload 7, 2) := by decide +kernel
theorem dX11_gives_395 : decode cX11_gives 395 = .ok (.aload_n 0, 1) := by decide +kernel
theorem dX11_gives_396 : decode cX11_gives 396 = .ok (.getfield 22, 3) := by decide +kernel
theorem dX11_gives_399 : decode cX11_gives 399 = .ok (.sipush 1024, 3) := by decide +kernel
theorem dX11_gives_402 : decode cX11_gives 402 = .ok (.iload 4, 2) := by decide +kernel
theorem dX11_gives_404 : decode cX11_gives 404 = .ok (.iconst 1, 1) := by decide +kernel
theorem dX11_gives_405 : decode cX11_gives 405 = .ok (.iadd, 1) := by decide +kernel
theorem dX11_gives_406 : decode cX11_gives 406 = .ok (.imul, 1) := by decide +kernel
theorem dX11_gives_407 : decode cX11_gives 407 = .ok (.iload_n 3, 1) := by decide +kernel
theorem dX11_gives_408 : decode cX11_gives 408 = .ok (.iconst 1, 1) := by decide +kernel
theorem dX11_gives_409 : decode cX11_gives 409 = .ok (.iload 6, 2) := by decide +kernel
theorem dX11_gives_411 : decode cX11_gives 411 = .ok (.ishl, 1) := by decide +kernel
theorem dX11_gives_412 : decode cX11_gives 412 = .ok (.iconst (-1), 1) := by decide +kernel
theorem dX11_gives_413 : decode cX11_gives 413 = .ok (.ixor, 1) := by decide +kernel
theorem dX11_gives_414 : decode cX11_gives 414 = .ok (.iand, 1) := by decide +kernel
theorem dX11_gives_415 : decode cX11_gives 415 = .ok (.iadd, 1) := by decide +kernel
theorem dX11_gives_416 : decode cX11_gives 416 = .ok (.iaload, 1) := by decide +kernel
theorem dX11_gives_417 : decode cX11_gives 417 = .ok (.iadd, 1) := by decide +kernel
theorem dX11_gives_418 : decode cX11_gives 418 = .ok (.iload 5, 2) := by decide +kernel
theorem dX11_gives_420 : decode cX11_gives 420 = .ok (.if_icmp .eq 6, 3) := by decide +kernel
theorem dX11_gives_423 : decode cX11_gives 423 = .ok (.goto 46, 3) := by decide +kernel
theorem dX11_gives_426 : decode cX11_gives 426 = .ok (.aload_n 0, 1) := by decide +kernel
theorem dX11_gives_427 : decode cX11_gives 427 = .ok (.getfield 25, 3) := by decide +kernel
theorem dX11_gives_430 : decode cX11_gives 430 = .ok (.iload 4, 2) := by decide +kernel
theorem dX11_gives_432 : decode cX11_gives 432 = .ok (.iload 6, 2) := by decide +kernel
theorem dX11_gives_434 : decode cX11_gives 434 = .ok (.iastore, 1) := by decide +kernel
theorem dX11_gives_435 : decode cX11_gives 435 = .ok (.iload_n 3, 1) := by decide +kernel
theorem dX11_gives_436 : decode cX11_gives 436 = .ok (.iconst 1, 1) := by decide +kernel
theorem dX11_gives_437 : decode cX11_gives 437 = .ok (.iload 6, 2) := by decide +kernel
theorem dX11_gives_439 : decode cX11_gives 439 = .ok (.ishl, 1) := by decide +kernel
theorem dX11_gives_440 : decode cX11_gives 440 = .ok (.iconst (-1), 1) := by decide +kernel
theorem dX11_gives_441 : decode cX11_gives 441 = .ok (.ixor, 1) := by decide +kernel
theorem dX11_gives_442 : decode cX11_gives 442 = .ok (.iand, 1) := by decide +kernel
theorem dX11_gives_443 : decode cX11_gives 443 = .ok (.istore_n 3, 1) := by decide +kernel
theorem dX11_gives_444 : decode cX11_gives 444 = .ok (.aload_n 0, 1) := by decide +kernel
theorem dX11_gives_445 : decode cX11_gives 445 = .ok (.dup, 1) := by decide +kernel
theorem dX11_gives_446 : decode cX11_gives 446 = .ok (.getfield 95, 3) := by decide +kernel
theorem dX11_gives_449 : decode cX11_gives 449 = .ok (.iconst 1, 1) := by decide +kernel
theorem dX11_gives_450 : decode cX11_gives 450 = .ok (.iadd, 1) := by decide +kernel
theorem dX11_gives_451 : decode cX11_gives 451 = .ok (.putfield 95, 3) := by decide +kernel
theorem dX11_gives_454 : decode cX11_gives 454 = .ok (.aload_n 0, 1) := by decide +kernel
theorem dX11_gives_455 : decode cX11_gives 455 = .ok (.dup, 1) := by decide +kernel
theorem dX11_gives_456 : decode cX11_gives 456 = .ok (.getfield 98, 3) := by decide +kernel
theorem dX11_gives_459 : decode cX11_gives 459 = .ok (.sipush 10000, 3) := by decide +kernel
theorem dX11_gives_462 : decode cX11_gives 462 = .ok (.iload 7, 2) := by decide +kernel
theorem dX11_gives_464 : decode cX11_gives 464 = .ok (.isub, 1) := by decide +kernel
theorem dX11_gives_465 : decode cX11_gives 465 = .ok (.iadd, 1) := by decide +kernel
theorem dX11_gives_466 : decode cX11_gives 466 = .ok (.putfield 98, 3) := by decide +kernel
theorem dX11_gives_469 : decode cX11_gives 469 = .ok (.iinc 6 1, 3) := by decide +kernel
theorem dX11_gives_472 : decode cX11_gives 472 = .ok (.goto (-124), 3) := by decide +kernel
theorem dX11_gives_475 : decode cX11_gives 475 = .ok (.iinc 4 1, 3) := by decide +kernel
theorem dX11_gives_478 : decode cX11_gives 478 = .ok (.goto (-155), 3) := by decide +kernel
theorem dX11_gives_481 : decode cX11_gives 481 = .ok (.return_, 1) := by decide +kernel
theorem dX11_isFormed_0 : decode cX11_isFormed 0 = .ok (.aload_n 0, 1) := by decide +kernel
theorem dX11_isFormed_1 : decode cX11_isFormed 1 = .ok (.invokevirtual 111, 3) := by decide +kernel
theorem dX11_isFormed_4 : decode cX11_isFormed 4 = .ok (.aload_n 0, 1) := by decide +kernel
theorem dX11_isFormed_5 : decode cX11_isFormed 5 = .ok (.getfield 9, 3) := by decide +kernel
theorem dX11_isFormed_8 : decode cX11_isFormed 8 = .ok (.iconst 3, 1) := by decide +kernel
theorem dX11_isFormed_9 : decode cX11_isFormed 9 = .ok (.iaload, 1) := by decide +kernel
theorem dX11_isFormed_10 : decode cX11_isFormed 10 = .ok (.istore_n 1, 1) := by decide +kernel
theorem dX11_isFormed_11 : decode cX11_isFormed 11 = .ok (.aload_n 0, 1) := by decide +kernel
theorem dX11_isFormed_12 : decode cX11_isFormed 12 = .ok (.invokevirtual 85, 3) := by decide +kernel
theorem dX11_isFormed_15 : decode cX11_isFormed 15 = .ok (.ifCond .lt 19, 3) := by decide +kernel
theorem dX11_isFormed_18 : decode cX11_isFormed 18 = .ok (.aload_n 0, 1) := by decide +kernel
theorem dX11_isFormed_19 : decode cX11_isFormed 19 = .ok (.getfield 95, 3) := by decide +kernel
theorem dX11_isFormed_22 : decode cX11_isFormed 22 = .ok (.ifCond .ne 14, 3) := by decide +kernel
theorem dX11_isFormed_25 : decode cX11_isFormed 25 = .ok (.aload_n 0, 1) := by decide +kernel
theorem dX11_isFormed_26 : decode cX11_isFormed 26 = .ok (.iload_n 1, 1) := by decide +kernel
theorem dX11_isFormed_27 : decode cX11_isFormed 27 = .ok (.invokevirtual 101, 3) := by decide +kernel
theorem dX11_isFormed_30 : decode cX11_isFormed 30 = .ok (.iconst 1, 1) := by decide +kernel
theorem dX11_isFormed_31 : decode cX11_isFormed 31 = .ok (.if_icmp .eq 5, 3) := by decide +kernel
theorem dX11_isFormed_34 : decode cX11_isFormed 34 = .ok (.iconst 0, 1) := by decide +kernel
theorem dX11_isFormed_35 : decode cX11_isFormed 35 = .ok (.ireturn, 1) := by decide +kernel
theorem dX11_isFormed_36 : decode cX11_isFormed 36 = .ok (.iconst 0, 1) := by decide +kernel
theorem dX11_isFormed_37 : decode cX11_isFormed 37 = .ok (.istore_n 2, 1) := by decide +kernel
theorem dX11_isFormed_38 : decode cX11_isFormed 38 = .ok (.iload_n 2, 1) := by decide +kernel
theorem dX11_isFormed_39 : decode cX11_isFormed 39 = .ok (.bipush 10, 2) := by decide +kernel
theorem dX11_isFormed_41 : decode cX11_isFormed 41 = .ok (.if_icmp .ge 40, 3) := by decide +kernel
theorem dX11_isFormed_44 : decode cX11_isFormed 44 = .ok (.aload_n 0, 1) := by decide +kernel
theorem dX11_isFormed_45 : decode cX11_isFormed 45 = .ok (.getfield 25, 3) := by decide +kernel
theorem dX11_isFormed_48 : decode cX11_isFormed 48 = .ok (.iload_n 2, 1) := by decide +kernel
theorem dX11_isFormed_49 : decode cX11_isFormed 49 = .ok (.iaload, 1) := by decide +kernel
theorem dX11_isFormed_50 : decode cX11_isFormed 50 = .ok (.ifCond .lt 25, 3) := by decide +kernel
theorem dX11_isFormed_53 : decode cX11_isFormed 53 = .ok (.aload_n 0, 1) := by decide +kernel
theorem dX11_isFormed_54 : decode cX11_isFormed 54 = .ok (.iload_n 2, 1) := by decide +kernel
theorem dX11_isFormed_55 : decode cX11_isFormed 55 = .ok (.iconst 0, 1) := by decide +kernel
theorem dX11_isFormed_56 : decode cX11_isFormed 56 = .ok (.invokevirtual 61, 3) := by decide +kernel
theorem dX11_isFormed_59 : decode cX11_isFormed 59 = .ok (.aload_n 0, 1) := by decide +kernel
theorem dX11_isFormed_60 : decode cX11_isFormed 60 = .ok (.getfield 19, 3) := by decide +kernel
theorem dX11_isFormed_63 : decode cX11_isFormed 63 = .ok (.aload_n 0, 1) := by decide +kernel
theorem dX11_isFormed_64 : decode cX11_isFormed 64 = .ok (.getfield 25, 3) := by decide +kernel
theorem dX11_isFormed_67 : decode cX11_isFormed 67 = .ok (.iload_n 2, 1) := by decide +kernel
theorem dX11_isFormed_68 : decode cX11_isFormed 68 = .ok (.iaload, 1) := by decide +kernel
theorem dX11_isFormed_69 : decode cX11_isFormed 69 = .ok (.iaload, 1) := by decide +kernel
theorem dX11_isFormed_70 : decode cX11_isFormed 70 = .ok (.if_icmp .eq 5, 3) := by decide +kernel
theorem dX11_isFormed_73 : decode cX11_isFormed 73 = .ok (.iconst 0, 1) := by decide +kernel
theorem dX11_isFormed_74 : decode cX11_isFormed 74 = .ok (.ireturn, 1) := by decide +kernel
theorem dX11_isFormed_75 : decode cX11_isFormed 75 = .ok (.iinc 2 1, 3) := by decide +kernel
theorem dX11_isFormed_78 : decode cX11_isFormed 78 = .ok (.goto (-40), 3) := by decide +kernel
theorem dX11_isFormed_81 : decode cX11_isFormed 81 = .ok (.iconst 1, 1) := by decide +kernel
theorem dX11_isFormed_82 : decode cX11_isFormed 82 = .ok (.ireturn, 1) := by decide +kernel
theorem dX11_goes_0 : decode cX11_goes 0 = .ok (.aload_n 0, 1) := by decide +kernel
theorem dX11_goes_1 : decode cX11_goes 1 = .ok (.iload_n 1, 1) := by decide +kernel
theorem dX11_goes_2 : decode cX11_goes 2 = .ok (.iconst 0, 1) := by decide +kernel
theorem dX11_goes_3 : decode cX11_goes 3 = .ok (.iload_n 2, 1) := by decide +kernel
theorem dX11_goes_4 : decode cX11_goes 4 = .ok (.invokevirtual 114, 3) := by decide +kernel
theorem dX11_goes_7 : decode cX11_goes 7 = .ok (.aload_n 0, 1) := by decide +kernel
theorem dX11_goes_8 : decode cX11_goes 8 = .ok (.iload_n 1, 1) := by decide +kernel
theorem dX11_goes_9 : decode cX11_goes 9 = .ok (.iconst 1, 1) := by decide +kernel
theorem dX11_goes_10 : decode cX11_goes 10 = .ok (.iconst 0, 1) := by decide +kernel
theorem dX11_goes_11 : decode cX11_goes 11 = .ok (.invokevirtual 114, 3) := by decide +kernel
theorem dX11_goes_14 : decode cX11_goes 14 = .ok (.aload_n 0, 1) := by decide +kernel
theorem dX11_goes_15 : decode cX11_goes 15 = .ok (.iload_n 1, 1) := by decide +kernel
theorem dX11_goes_16 : decode cX11_goes 16 = .ok (.iconst 2, 1) := by decide +kernel
theorem dX11_goes_17 : decode cX11_goes 17 = .ok (.aload_n 0, 1) := by decide +kernel
theorem dX11_goes_18 : decode cX11_goes 18 = .ok (.iload_n 1, 1) := by decide +kernel
theorem dX11_goes_19 : decode cX11_goes 19 = .ok (.iconst 2, 1) := by decide +kernel
theorem dX11_goes_20 : decode cX11_goes 20 = .ok (.invokevirtual 61, 3) := by decide +kernel
theorem dX11_goes_23 : decode cX11_goes 23 = .ok (.iconst 1, 1) := by decide +kernel
theorem dX11_goes_24 : decode cX11_goes 24 = .ok (.iadd, 1) := by decide +kernel
theorem dX11_goes_25 : decode cX11_goes 25 = .ok (.invokevirtual 114, 3) := by decide +kernel
theorem dX11_goes_28 : decode cX11_goes 28 = .ok (.return_, 1) := by decide +kernel
theorem dX11_waits_0 : decode cX11_waits 0 = .ok (.aload_n 0, 1) := by decide +kernel
theorem dX11_waits_1 : decode cX11_waits 1 = .ok (.iload_n 1, 1) := by decide +kernel
theorem dX11_waits_2 : decode cX11_waits 2 = .ok (.iconst 3, 1) := by decide +kernel
theorem dX11_waits_3 : decode cX11_waits 3 = .ok (.aload_n 0, 1) := by decide +kernel
theorem dX11_waits_4 : decode cX11_waits 4 = .ok (.iload_n 1, 1) := by decide +kernel
theorem dX11_waits_5 : decode cX11_waits 5 = .ok (.iconst 3, 1) := by decide +kernel
theorem dX11_waits_6 : decode cX11_waits 6 = .ok (.invokevirtual 61, 3) := by decide +kernel
theorem dX11_waits_9 : decode cX11_waits 9 = .ok (.iconst 1, 1) := by decide +kernel
theorem dX11_waits_10 : decode cX11_waits 10 = .ok (.iadd, 1) := by decide +kernel
theorem dX11_waits_11 : decode cX11_waits 11 = .ok (.invokevirtual 114, 3) := by decide +kernel
theorem dX11_waits_14 : decode cX11_waits 14 = .ok (.aload_n 0, 1) := by decide +kernel
theorem dX11_waits_15 : decode cX11_waits 15 = .ok (.iconst 2, 1) := by decide +kernel
theorem dX11_waits_16 : decode cX11_waits 16 = .ok (.iconst 1, 1) := by decide +kernel
theorem dX11_waits_17 : decode cX11_waits 17 = .ok (.invokevirtual 118, 3) := by decide +kernel
theorem dX11_waits_20 : decode cX11_waits 20 = .ok (.return_, 1) := by decide +kernel
theorem dX11_leads_0 : decode cX11_leads 0 = .ok (.aload_n 0, 1) := by decide +kernel
theorem dX11_leads_1 : decode cX11_leads 1 = .ok (.invokevirtual 85, 3) := by decide +kernel
theorem dX11_leads_4 : decode cX11_leads 4 = .ok (.istore_n 1, 1) := by decide +kernel
theorem dX11_leads_5 : decode cX11_leads 5 = .ok (.aload_n 0, 1) := by decide +kernel
theorem dX11_leads_6 : decode cX11_leads 6 = .ok (.getfield 9, 3) := by decide +kernel
theorem dX11_leads_9 : decode cX11_leads 9 = .ok (.iconst 2, 1) := by decide +kernel
theorem dX11_leads_10 : decode cX11_leads 10 = .ok (.iaload, 1) := by decide +kernel
theorem dX11_leads_11 : decode cX11_leads 11 = .ok (.ifCond .lt 18, 3) := by decide +kernel
theorem dX11_leads_14 : decode cX11_leads 14 = .ok (.aload_n 0, 1) := by decide +kernel
theorem dX11_leads_15 : decode cX11_leads 15 = .ok (.iload_n 1, 1) := by decide +kernel
theorem dX11_leads_16 : decode cX11_leads 16 = .ok (.iconst 0, 1) := by decide +kernel
theorem dX11_leads_17 : decode cX11_leads 17 = .ok (.invokevirtual 61, 3) := by decide +kernel
theorem dX11_leads_20 : decode cX11_leads 20 = .ok (.aload_n 0, 1) := by decide +kernel
theorem dX11_leads_21 : decode cX11_leads 21 = .ok (.getfield 9, 3) := by decide +kernel
theorem dX11_leads_24 : decode cX11_leads 24 = .ok (.iconst 2, 1) := by decide +kernel
theorem dX11_leads_25 : decode cX11_leads 25 = .ok (.iaload, 1) := by decide +kernel
theorem dX11_leads_26 : decode cX11_leads 26 = .ok (.if_icmp .ne 26, 3) := by decide +kernel
theorem dX11_leads_29 : decode cX11_leads 29 = .ok (.aload_n 0, 1) := by decide +kernel
theorem dX11_leads_30 : decode cX11_leads 30 = .ok (.iload_n 1, 1) := by decide +kernel
theorem dX11_leads_31 : decode cX11_leads 31 = .ok (.iconst 5, 1) := by decide +kernel
theorem dX11_leads_32 : decode cX11_leads 32 = .ok (.aload_n 0, 1) := by decide +kernel
theorem dX11_leads_33 : decode cX11_leads 33 = .ok (.getfield 9, 3) := by decide +kernel
theorem dX11_leads_36 : decode cX11_leads 36 = .ok (.iconst 2, 1) := by decide +kernel
theorem dX11_leads_37 : decode cX11_leads 37 = .ok (.iaload, 1) := by decide +kernel
theorem dX11_leads_38 : decode cX11_leads 38 = .ok (.ifCond .ge 8, 3) := by decide +kernel
theorem dX11_leads_41 : decode cX11_leads 41 = .ok (.bipush 6, 2) := by decide +kernel
theorem dX11_leads_43 : decode cX11_leads 43 = .ok (.goto 5, 3) := by decide +kernel
theorem dX11_leads_46 : decode cX11_leads 46 = .ok (.bipush 7, 2) := by decide +kernel
theorem dX11_leads_48 : decode cX11_leads 48 = .ok (.invokevirtual 114, 3) := by decide +kernel
theorem dX11_leads_51 : decode cX11_leads 51 = .ok (.return_, 1) := by decide +kernel
theorem dX11_leads_52 : decode cX11_leads 52 = .ok (.aload_n 0, 1) := by decide +kernel
theorem dX11_leads_53 : decode cX11_leads 53 = .ok (.bipush 10, 2) := by decide +kernel
theorem dX11_leads_55 : decode cX11_leads 55 = .ok (.aload_n 0, 1) := by decide +kernel
theorem dX11_leads_56 : decode cX11_leads 56 = .ok (.getfield 9, 3) := by decide +kernel
theorem dX11_leads_59 : decode cX11_leads 59 = .ok (.iconst 2, 1) := by decide +kernel
theorem dX11_leads_60 : decode cX11_leads 60 = .ok (.iaload, 1) := by decide +kernel
theorem dX11_leads_61 : decode cX11_leads 61 = .ok (.invokevirtual 75, 3) := by decide +kernel
theorem dX11_leads_64 : decode cX11_leads 64 = .ok (.sipush 1200, 3) := by decide +kernel
theorem dX11_leads_67 : decode cX11_leads 67 = .ok (.istore_n 2, 1) := by decide +kernel
theorem dX11_leads_68 : decode cX11_leads 68 = .ok (.aload_n 0, 1) := by decide +kernel
theorem dX11_leads_69 : decode cX11_leads 69 = .ok (.getfield 13, 3) := by decide +kernel
theorem dX11_leads_72 : decode cX11_leads 72 = .ok (.iload_n 2, 1) := by decide +kernel
theorem dX11_leads_73 : decode cX11_leads 73 = .ok (.aload_n 0, 1) := by decide +kernel
theorem dX11_leads_74 : decode cX11_leads 74 = .ok (.iload_n 1, 1) := by decide +kernel
theorem dX11_leads_75 : decode cX11_leads 75 = .ok (.iconst 0, 1) := by decide +kernel
theorem dX11_leads_76 : decode cX11_leads 76 = .ok (.invokevirtual 61, 3) := by decide +kernel
theorem dX11_leads_79 : decode cX11_leads 79 = .ok (.iadd, 1) := by decide +kernel
theorem dX11_leads_80 : decode cX11_leads 80 = .ok (.iaload, 1) := by decide +kernel
theorem dX11_leads_81 : decode cX11_leads 81 = .ok (.istore_n 3, 1) := by decide +kernel
theorem dX11_leads_82 : decode cX11_leads 82 = .ok (.aload_n 0, 1) := by decide +kernel
theorem dX11_leads_83 : decode cX11_leads 83 = .ok (.iload_n 1, 1) := by decide +kernel
theorem dX11_leads_84 : decode cX11_leads 84 = .ok (.iconst 5, 1) := by decide +kernel
theorem dX11_leads_85 : decode cX11_leads 85 = .ok (.bipush 8, 2) := by decide +kernel
theorem dX11_leads_87 : decode cX11_leads 87 = .ok (.invokevirtual 114, 3) := by decide +kernel
theorem dX11_leads_90 : decode cX11_leads 90 = .ok (.iconst 0, 1) := by decide +kernel
theorem dX11_leads_91 : decode cX11_leads 91 = .ok (.istore 4, 2) := by decide +kernel
theorem dX11_leads_93 : decode cX11_leads 93 = .ok (.iload 4, 2) := by decide +kernel
theorem dX11_leads_95 : decode cX11_leads 95 = .ok (.iconst 4, 1) := by decide +kernel
theorem dX11_leads_96 : decode cX11_leads 96 = .ok (.if_icmp .ge 95, 3) := by decide +kernel
theorem dX11_leads_99 : decode cX11_leads 99 = .ok (.iload_n 3, 1) := by decide +kernel
theorem dX11_leads_100 : decode cX11_leads 100 = .ok (.ifCond .le 91, 3) := by decide +kernel
theorem dX11_leads_103 : decode cX11_leads 103 = .ok (.aload_n 0, 1) := by decide +kernel
theorem dX11_leads_104 : decode cX11_leads 104 = .ok (.iload_n 1, 1) := by decide +kernel
theorem dX11_leads_105 : decode cX11_leads 105 = .ok (.iconst 0, 1) := by decide +kernel
theorem dX11_leads_106 : decode cX11_leads 106 = .ok (.invokevirtual 61, 3) := by decide +kernel
theorem dX11_leads_109 : decode cX11_leads 109 = .ok (.iload 4, 2) := by decide +kernel
theorem dX11_leads_111 : decode cX11_leads 111 = .ok (.invokestatic 72, 3) := by decide +kernel
theorem dX11_leads_114 : decode cX11_leads 114 = .ok (.istore 5, 2) := by decide +kernel
theorem dX11_leads_116 : decode cX11_leads 116 = .ok (.iload 5, 2) := by decide +kernel
theorem dX11_leads_118 : decode cX11_leads 118 = .ok (.ifCond .lt 67, 3) := by decide +kernel
theorem dX11_leads_121 : decode cX11_leads 121 = .ok (.aload_n 0, 1) := by decide +kernel
theorem dX11_leads_122 : decode cX11_leads 122 = .ok (.getfield 13, 3) := by decide +kernel
theorem dX11_leads_125 : decode cX11_leads 125 = .ok (.iload_n 2, 1) := by decide +kernel
theorem dX11_leads_126 : decode cX11_leads 126 = .ok (.iload 5, 2) := by decide +kernel
theorem dX11_leads_128 : decode cX11_leads 128 = .ok (.iadd, 1) := by decide +kernel
theorem dX11_leads_129 : decode cX11_leads 129 = .ok (.iaload, 1) := by decide +kernel
theorem dX11_leads_130 : decode cX11_leads 130 = .ok (.iload_n 3, 1) := by decide +kernel
theorem dX11_leads_131 : decode cX11_leads 131 = .ok (.iconst 1, 1) := by decide +kernel
theorem dX11_leads_132 : decode cX11_leads 132 = .ok (.isub, 1) := by decide +kernel
theorem dX11_leads_133 : decode cX11_leads 133 = .ok (.if_icmp .eq 6, 3) := by decide +kernel
theorem dX11_leads_136 : decode cX11_leads 136 = .ok (.goto 49, 3) := by decide +kernel
theorem dX11_leads_139 : decode cX11_leads 139 = .ok (.aload_n 0, 1) := by decide +kernel
theorem dX11_leads_140 : decode cX11_leads 140 = .ok (.iload 5, 2) := by decide +kernel
theorem dX11_leads_142 : decode cX11_leads 142 = .ok (.invokevirtual 121, 3) := by decide +kernel
theorem dX11_leads_145 : decode cX11_leads 145 = .ok (.ifCond .lt 19, 3) := by decide +kernel
theorem dX11_leads_148 : decode cX11_leads 148 = .ok (.aload_n 0, 1) := by decide +kernel
theorem dX11_leads_149 : decode cX11_leads 149 = .ok (.iload_n 1, 1) := by decide +kernel
theorem dX11_leads_150 : decode cX11_leads 150 = .ok (.invokevirtual 124, 3) := by decide +kernel
theorem dX11_leads_153 : decode cX11_leads 153 = .ok (.aload_n 0, 1) := by decide +kernel
theorem dX11_leads_154 : decode cX11_leads 154 = .ok (.iload_n 1, 1) := by decide +kernel
theorem dX11_leads_155 : decode cX11_leads 155 = .ok (.iconst 5, 1) := by decide +kernel
theorem dX11_leads_156 : decode cX11_leads 156 = .ok (.bipush 9, 2) := by decide +kernel
theorem dX11_leads_158 : decode cX11_leads 158 = .ok (.invokevirtual 114, 3) := by decide +kernel
theorem dX11_leads_161 : decode cX11_leads 161 = .ok (.goto 23, 3) := by decide +kernel
theorem dX11_leads_164 : decode cX11_leads 164 = .ok (.aload_n 0, 1) := by decide +kernel
theorem dX11_leads_165 : decode cX11_leads 165 = .ok (.iload_n 1, 1) := by decide +kernel
theorem dX11_leads_166 : decode cX11_leads 166 = .ok (.iload 5, 2) := by decide +kernel
theorem dX11_leads_168 : decode cX11_leads 168 = .ok (.invokevirtual 127, 3) := by decide +kernel
theorem dX11_leads_171 : decode cX11_leads 171 = .ok (.aload_n 0, 1) := by decide +kernel
theorem dX11_leads_172 : decode cX11_leads 172 = .ok (.iconst 1, 1) := by decide +kernel
theorem dX11_leads_173 : decode cX11_leads 173 = .ok (.iconst 1, 1) := by decide +kernel
theorem dX11_leads_174 : decode cX11_leads 174 = .ok (.invokevirtual 118, 3) := by decide +kernel
theorem dX11_leads_177 : decode cX11_leads 177 = .ok (.aload_n 0, 1) := by decide +kernel
theorem dX11_leads_178 : decode cX11_leads 178 = .ok (.iload_n 1, 1) := by decide +kernel
theorem dX11_leads_179 : decode cX11_leads 179 = .ok (.iconst 5, 1) := by decide +kernel
theorem dX11_leads_180 : decode cX11_leads 180 = .ok (.iconst 0, 1) := by decide +kernel
theorem dX11_leads_181 : decode cX11_leads 181 = .ok (.invokevirtual 114, 3) := by decide +kernel
theorem dX11_leads_184 : decode cX11_leads 184 = .ok (.return_, 1) := by decide +kernel
theorem dX11_leads_185 : decode cX11_leads 185 = .ok (.iinc 4 1, 3) := by decide +kernel
theorem dX11_leads_188 : decode cX11_leads 188 = .ok (.goto (-95), 3) := by decide +kernel
theorem dX11_leads_191 : decode cX11_leads 191 = .ok (.return_, 1) := by decide +kernel
theorem dX11_mayExchange_0 : decode cX11_mayExchange 0 = .ok (.iload_n 1, 1) := by decide +kernel
theorem dX11_mayExchange_1 : decode cX11_mayExchange 1 = .ok (.aload_n 0, 1) := by decide +kernel
theorem dX11_mayExchange_2 : decode cX11_mayExchange 2 = .ok (.invokevirtual 85, 3) := by decide +kernel
theorem dX11_mayExchange_5 : decode cX11_mayExchange 5 = .ok (.if_icmp .eq 51, 3) := by decide +kernel
theorem dX11_mayExchange_8 : decode cX11_mayExchange 8 = .ok (.aload_n 0, 1) := by decide +kernel
theorem dX11_mayExchange_9 : decode cX11_mayExchange 9 = .ok (.getfield 25, 3) := by decide +kernel
theorem dX11_mayExchange_12 : decode cX11_mayExchange 12 = .ok (.iload_n 1, 1) := by decide +kernel
theorem dX11_mayExchange_13 : decode cX11_mayExchange 13 = .ok (.iaload, 1) := by decide +kernel
theorem dX11_mayExchange_14 : decode cX11_mayExchange 14 = .ok (.ifCond .lt 42, 3) := by decide +kernel
theorem dX11_mayExchange_17 : decode cX11_mayExchange 17 = .ok (.aload_n 0, 1) := by decide +kernel
theorem dX11_mayExchange_18 : decode cX11_mayExchange 18 = .ok (.getfield 13, 3) := by decide +kernel
theorem dX11_mayExchange_21 : decode cX11_mayExchange 21 = .ok (.bipush 120, 2) := by decide +kernel
theorem dX11_mayExchange_23 : decode cX11_mayExchange 23 = .ok (.aload_n 0, 1) := by decide +kernel
theorem dX11_mayExchange_24 : decode cX11_mayExchange 24 = .ok (.getfield 25, 3) := by decide +kernel
theorem dX11_mayExchange_27 : decode cX11_mayExchange 27 = .ok (.iload_n 1, 1) := by decide +kernel
theorem dX11_mayExchange_28 : decode cX11_mayExchange 28 = .ok (.iaload, 1) := by decide +kernel
theorem dX11_mayExchange_29 : decode cX11_mayExchange 29 = .ok (.imul, 1) := by decide +kernel
theorem dX11_mayExchange_30 : decode cX11_mayExchange 30 = .ok (.iload_n 2, 1) := by decide +kernel
theorem dX11_mayExchange_31 : decode cX11_mayExchange 31 = .ok (.iadd, 1) := by decide +kernel
theorem dX11_mayExchange_32 : decode cX11_mayExchange 32 = .ok (.iaload, 1) := by decide +kernel
theorem dX11_mayExchange_33 : decode cX11_mayExchange 33 = .ok (.aload_n 0, 1) := by decide +kernel
theorem dX11_mayExchange_34 : decode cX11_mayExchange 34 = .ok (.getfield 13, 3) := by decide +kernel
theorem dX11_mayExchange_37 : decode cX11_mayExchange 37 = .ok (.bipush 120, 2) := by decide +kernel
theorem dX11_mayExchange_39 : decode cX11_mayExchange 39 = .ok (.aload_n 0, 1) := by decide +kernel
theorem dX11_mayExchange_40 : decode cX11_mayExchange 40 = .ok (.getfield 25, 3) := by decide +kernel
theorem dX11_mayExchange_43 : decode cX11_mayExchange 43 = .ok (.iload_n 1, 1) := by decide +kernel
theorem dX11_mayExchange_44 : decode cX11_mayExchange 44 = .ok (.iaload, 1) := by decide +kernel
theorem dX11_mayExchange_45 : decode cX11_mayExchange 45 = .ok (.imul, 1) := by decide +kernel
theorem dX11_mayExchange_46 : decode cX11_mayExchange 46 = .ok (.iload_n 3, 1) := by decide +kernel
theorem dX11_mayExchange_47 : decode cX11_mayExchange 47 = .ok (.iadd, 1) := by decide +kernel
theorem dX11_mayExchange_48 : decode cX11_mayExchange 48 = .ok (.iaload, 1) := by decide +kernel
theorem dX11_mayExchange_49 : decode cX11_mayExchange 49 = .ok (.if_icmp .le 7, 3) := by decide +kernel
theorem dX11_mayExchange_52 : decode cX11_mayExchange 52 = .ok (.iconst 1, 1) := by decide +kernel
theorem dX11_mayExchange_53 : decode cX11_mayExchange 53 = .ok (.goto 4, 3) := by decide +kernel
theorem dX11_mayExchange_56 : decode cX11_mayExchange 56 = .ok (.iconst 0, 1) := by decide +kernel
theorem dX11_mayExchange_57 : decode cX11_mayExchange 57 = .ok (.ireturn, 1) := by decide +kernel
theorem dX11_steps_0 : decode cX11_steps 0 = .ok (.iconst 0, 1) := by decide +kernel
theorem dX11_steps_1 : decode cX11_steps 1 = .ok (.istore 4, 2) := by decide +kernel
theorem dX11_steps_3 : decode cX11_steps 3 = .ok (.iload 4, 2) := by decide +kernel
theorem dX11_steps_5 : decode cX11_steps 5 = .ok (.iconst 4, 1) := by decide +kernel
theorem dX11_steps_6 : decode cX11_steps 6 = .ok (.if_icmp .ge 76, 3) := by decide +kernel
theorem dX11_steps_9 : decode cX11_steps 9 = .ok (.aload_n 0, 1) := by decide +kernel
theorem dX11_steps_10 : decode cX11_steps 10 = .ok (.iload_n 1, 1) := by decide +kernel
theorem dX11_steps_11 : decode cX11_steps 11 = .ok (.iconst 0, 1) := by decide +kernel
theorem dX11_steps_12 : decode cX11_steps 12 = .ok (.invokevirtual 61, 3) := by decide +kernel
theorem dX11_steps_15 : decode cX11_steps 15 = .ok (.iload 4, 2) := by decide +kernel
theorem dX11_steps_17 : decode cX11_steps 17 = .ok (.invokestatic 72, 3) := by decide +kernel
theorem dX11_steps_20 : decode cX11_steps 20 = .ok (.istore 5, 2) := by decide +kernel
theorem dX11_steps_22 : decode cX11_steps 22 = .ok (.iload 5, 2) := by decide +kernel
theorem dX11_steps_24 : decode cX11_steps 24 = .ok (.ifCond .lt 52, 3) := by decide +kernel
theorem dX11_steps_27 : decode cX11_steps 27 = .ok (.aload_n 0, 1) := by decide +kernel
theorem dX11_steps_28 : decode cX11_steps 28 = .ok (.getfield 13, 3) := by decide +kernel
theorem dX11_steps_31 : decode cX11_steps 31 = .ok (.iload_n 2, 1) := by decide +kernel
theorem dX11_steps_32 : decode cX11_steps 32 = .ok (.iload 5, 2) := by decide +kernel
theorem dX11_steps_34 : decode cX11_steps 34 = .ok (.iadd, 1) := by decide +kernel
theorem dX11_steps_35 : decode cX11_steps 35 = .ok (.iaload, 1) := by decide +kernel
theorem dX11_steps_36 : decode cX11_steps 36 = .ok (.iload_n 3, 1) := by decide +kernel
theorem dX11_steps_37 : decode cX11_steps 37 = .ok (.iconst 1, 1) := by decide +kernel
theorem dX11_steps_38 : decode cX11_steps 38 = .ok (.isub, 1) := by decide +kernel
theorem dX11_steps_39 : decode cX11_steps 39 = .ok (.if_icmp .ne 37, 3) := by decide +kernel
theorem dX11_steps_42 : decode cX11_steps 42 = .ok (.aload_n 0, 1) := by decide +kernel
theorem dX11_steps_43 : decode cX11_steps 43 = .ok (.iload 5, 2) := by decide +kernel
theorem dX11_steps_45 : decode cX11_steps 45 = .ok (.invokevirtual 121, 3) := by decide +kernel
theorem dX11_steps_48 : decode cX11_steps 48 = .ok (.ifCond .lt 6, 3) := by decide +kernel
theorem dX11_steps_51 : decode cX11_steps 51 = .ok (.goto 25, 3) := by decide +kernel
theorem dX11_steps_54 : decode cX11_steps 54 = .ok (.aload_n 0, 1) := by decide +kernel
theorem dX11_steps_55 : decode cX11_steps 55 = .ok (.iload_n 1, 1) := by decide +kernel
theorem dX11_steps_56 : decode cX11_steps 56 = .ok (.iload 5, 2) := by decide +kernel
theorem dX11_steps_58 : decode cX11_steps 58 = .ok (.invokevirtual 127, 3) := by decide +kernel
theorem dX11_steps_61 : decode cX11_steps 61 = .ok (.aload_n 0, 1) := by decide +kernel
theorem dX11_steps_62 : decode cX11_steps 62 = .ok (.iconst 1, 1) := by decide +kernel
theorem dX11_steps_63 : decode cX11_steps 63 = .ok (.iconst 1, 1) := by decide +kernel
theorem dX11_steps_64 : decode cX11_steps 64 = .ok (.invokevirtual 118, 3) := by decide +kernel
theorem dX11_steps_67 : decode cX11_steps 67 = .ok (.aload_n 0, 1) := by decide +kernel
theorem dX11_steps_68 : decode cX11_steps 68 = .ok (.iload_n 1, 1) := by decide +kernel
theorem dX11_steps_69 : decode cX11_steps 69 = .ok (.iconst 5, 1) := by decide +kernel
theorem dX11_steps_70 : decode cX11_steps 70 = .ok (.iconst 0, 1) := by decide +kernel
theorem dX11_steps_71 : decode cX11_steps 71 = .ok (.invokevirtual 114, 3) := by decide +kernel
theorem dX11_steps_74 : decode cX11_steps 74 = .ok (.iconst 1, 1) := by decide +kernel
theorem dX11_steps_75 : decode cX11_steps 75 = .ok (.ireturn, 1) := by decide +kernel
theorem dX11_steps_76 : decode cX11_steps 76 = .ok (.iinc 4 1, 3) := by decide +kernel
theorem dX11_steps_79 : decode cX11_steps 79 = .ok (.goto (-76), 3) := by decide +kernel
theorem dX11_steps_82 : decode cX11_steps 82 = .ok (.iconst 0, 1) := by decide +kernel
theorem dX11_steps_83 : decode cX11_steps 83 = .ok (.ireturn, 1) := by decide +kernel
theorem dX11_exchanges_0 : decode cX11_exchanges 0 = .ok (.aload_n 0, 1) := by decide +kernel
theorem dX11_exchanges_1 : decode cX11_exchanges 1 = .ok (.iload_n 1, 1) := by decide +kernel
theorem dX11_exchanges_2 : decode cX11_exchanges 2 = .ok (.iconst 0, 1) := by decide +kernel
theorem dX11_exchanges_3 : decode cX11_exchanges 3 = .ok (.invokevirtual 61, 3) := by decide +kernel
theorem dX11_exchanges_6 : decode cX11_exchanges 6 = .ok (.istore 4, 2) := by decide +kernel
theorem dX11_exchanges_8 : decode cX11_exchanges 8 = .ok (.iconst 0, 1) := by decide +kernel
theorem dX11_exchanges_9 : decode cX11_exchanges 9 = .ok (.istore 5, 2) := by decide +kernel
theorem dX11_exchanges_11 : decode cX11_exchanges 11 = .ok (.iload 5, 2) := by decide +kernel
theorem dX11_exchanges_13 : decode cX11_exchanges 13 = .ok (.iconst 4, 1) := by decide +kernel
theorem dX11_exchanges_14 : decode cX11_exchanges 14 = .ok (.if_icmp .ge 108, 3) := by decide +kernel
theorem dX11_exchanges_17 : decode cX11_exchanges 17 = .ok (.iload 4, 2) := by decide +kernel
theorem dX11_exchanges_19 : decode cX11_exchanges 19 = .ok (.iload 5, 2) := by decide +kernel
theorem dX11_exchanges_21 : decode cX11_exchanges 21 = .ok (.invokestatic 72, 3) := by decide +kernel
theorem dX11_exchanges_24 : decode cX11_exchanges 24 = .ok (.istore 6, 2) := by decide +kernel
theorem dX11_exchanges_26 : decode cX11_exchanges 26 = .ok (.iload 6, 2) := by decide +kernel
theorem dX11_exchanges_28 : decode cX11_exchanges 28 = .ok (.ifCond .lt 88, 3) := by decide +kernel
theorem dX11_exchanges_31 : decode cX11_exchanges 31 = .ok (.aload_n 0, 1) := by decide +kernel
theorem dX11_exchanges_32 : decode cX11_exchanges 32 = .ok (.getfield 13, 3) := by decide +kernel
theorem dX11_exchanges_35 : decode cX11_exchanges 35 = .ok (.iload_n 2, 1) := by decide +kernel
theorem dX11_exchanges_36 : decode cX11_exchanges 36 = .ok (.iload 6, 2) := by decide +kernel
theorem dX11_exchanges_38 : decode cX11_exchanges 38 = .ok (.iadd, 1) := by decide +kernel
theorem dX11_exchanges_39 : decode cX11_exchanges 39 = .ok (.iaload, 1) := by decide +kernel
theorem dX11_exchanges_40 : decode cX11_exchanges 40 = .ok (.iload_n 3, 1) := by decide +kernel
theorem dX11_exchanges_41 : decode cX11_exchanges 41 = .ok (.iconst 1, 1) := by decide +kernel
theorem dX11_exchanges_42 : decode cX11_exchanges 42 = .ok (.isub, 1) := by decide +kernel
theorem dX11_exchanges_43 : decode cX11_exchanges 43 = .ok (.if_icmp .eq 6, 3) := by decide +kernel
theorem dX11_exchanges_46 : decode cX11_exchanges 46 = .ok (.goto 70, 3) := by decide +kernel
theorem dX11_exchanges_49 : decode cX11_exchanges 49 = .ok (.aload_n 0, 1) := by decide +kernel
theorem dX11_exchanges_50 : decode cX11_exchanges 50 = .ok (.iload 6, 2) := by decide +kernel
theorem dX11_exchanges_52 : decode cX11_exchanges 52 = .ok (.invokevirtual 121, 3) := by decide +kernel
theorem dX11_exchanges_55 : decode cX11_exchanges 55 = .ok (.istore 7, 2) := by decide +kernel
theorem dX11_exchanges_57 : decode cX11_exchanges 57 = .ok (.iload 7, 2) := by decide +kernel
theorem dX11_exchanges_59 : decode cX11_exchanges 59 = .ok (.ifCond .lt 57, 3) := by decide +kernel
theorem dX11_exchanges_62 : decode cX11_exchanges 62 = .ok (.aload_n 0, 1) := by decide +kernel
theorem dX11_exchanges_63 : decode cX11_exchanges 63 = .ok (.iload 7, 2) := by decide +kernel
theorem dX11_exchanges_65 : decode cX11_exchanges 65 = .ok (.iload 6, 2) := by decide +kernel
theorem dX11_exchanges_67 : decode cX11_exchanges 67 = .ok (.iload 4, 2) := by decide +kernel
theorem dX11_exchanges_69 : decode cX11_exchanges 69 = .ok (.invokevirtual 130, 3) := by decide +kernel
theorem dX11_exchanges_72 : decode cX11_exchanges 72 = .ok (.ifCond .ne 6, 3) := by decide +kernel
theorem dX11_exchanges_75 : decode cX11_exchanges 75 = .ok (.goto 41, 3) := by decide +kernel
theorem dX11_exchanges_78 : decode cX11_exchanges 78 = .ok (.aload_n 0, 1) := by decide +kernel
theorem dX11_exchanges_79 : decode cX11_exchanges 79 = .ok (.iload_n 1, 1) := by decide +kernel
theorem dX11_exchanges_80 : decode cX11_exchanges 80 = .ok (.iload 6, 2) := by decide +kernel
theorem dX11_exchanges_82 : decode cX11_exchanges 82 = .ok (.invokevirtual 127, 3) := by decide +kernel
theorem dX11_exchanges_85 : decode cX11_exchanges 85 = .ok (.aload_n 0, 1) := by decide +kernel
theorem dX11_exchanges_86 : decode cX11_exchanges 86 = .ok (.iload 7, 2) := by decide +kernel
theorem dX11_exchanges_88 : decode cX11_exchanges 88 = .ok (.iload 4, 2) := by decide +kernel
theorem dX11_exchanges_90 : decode cX11_exchanges 90 = .ok (.invokevirtual 127, 3) := by decide +kernel
theorem dX11_exchanges_93 : decode cX11_exchanges 93 = .ok (.aload_n 0, 1) := by decide +kernel
theorem dX11_exchanges_94 : decode cX11_exchanges 94 = .ok (.iconst 3, 1) := by decide +kernel
theorem dX11_exchanges_95 : decode cX11_exchanges 95 = .ok (.iconst 1, 1) := by decide +kernel
theorem dX11_exchanges_96 : decode cX11_exchanges 96 = .ok (.invokevirtual 118, 3) := by decide +kernel
theorem dX11_exchanges_99 : decode cX11_exchanges 99 = .ok (.aload_n 0, 1) := by decide +kernel
theorem dX11_exchanges_100 : decode cX11_exchanges 100 = .ok (.iload_n 1, 1) := by decide +kernel
theorem dX11_exchanges_101 : decode cX11_exchanges 101 = .ok (.iconst 5, 1) := by decide +kernel
theorem dX11_exchanges_102 : decode cX11_exchanges 102 = .ok (.iconst 4, 1) := by decide +kernel
theorem dX11_exchanges_103 : decode cX11_exchanges 103 = .ok (.invokevirtual 114, 3) := by decide +kernel
theorem dX11_exchanges_106 : decode cX11_exchanges 106 = .ok (.aload_n 0, 1) := by decide +kernel
theorem dX11_exchanges_107 : decode cX11_exchanges 107 = .ok (.iload 7, 2) := by decide +kernel
theorem dX11_exchanges_109 : decode cX11_exchanges 109 = .ok (.iconst 5, 1) := by decide +kernel
theorem dX11_exchanges_110 : decode cX11_exchanges 110 = .ok (.iconst 4, 1) := by decide +kernel
theorem dX11_exchanges_111 : decode cX11_exchanges 111 = .ok (.invokevirtual 114, 3) := by decide +kernel
theorem dX11_exchanges_114 : decode cX11_exchanges 114 = .ok (.iconst 1, 1) := by decide +kernel
theorem dX11_exchanges_115 : decode cX11_exchanges 115 = .ok (.ireturn, 1) := by decide +kernel
theorem dX11_exchanges_116 : decode cX11_exchanges 116 = .ok (.iinc 5 1, 3) := by decide +kernel
theorem dX11_exchanges_119 : decode cX11_exchanges 119 = .ok (.goto (-108), 3) := by decide +kernel
theorem dX11_exchanges_122 : decode cX11_exchanges 122 = .ok (.iconst 0, 1) := by decide +kernel
theorem dX11_exchanges_123 : decode cX11_exchanges 123 = .ok (.ireturn, 1) := by decide +kernel
theorem dX11_stepsAside_0 : decode cX11_stepsAside 0 = .ok (.iconst 0, 1) := by decide +kernel
theorem dX11_stepsAside_1 : decode cX11_stepsAside 1 = .ok (.istore_n 2, 1) := by decide +kernel
theorem dX11_stepsAside_2 : decode cX11_stepsAside 2 = .ok (.iload_n 2, 1) := by decide +kernel
theorem dX11_stepsAside_3 : decode cX11_stepsAside 3 = .ok (.iconst 4, 1) := by decide +kernel
theorem dX11_stepsAside_4 : decode cX11_stepsAside 4 = .ok (.if_icmp .ge 64, 3) := by decide +kernel
theorem dX11_stepsAside_7 : decode cX11_stepsAside 7 = .ok (.aload_n 0, 1) := by decide +kernel
theorem dX11_stepsAside_8 : decode cX11_stepsAside 8 = .ok (.iload_n 1, 1) := by decide +kernel
theorem dX11_stepsAside_9 : decode cX11_stepsAside 9 = .ok (.iconst 0, 1) := by decide +kernel
theorem dX11_stepsAside_10 : decode cX11_stepsAside 10 = .ok (.invokevirtual 61, 3) := by decide +kernel
theorem dX11_stepsAside_13 : decode cX11_stepsAside 13 = .ok (.iload_n 2, 1) := by decide +kernel
theorem dX11_stepsAside_14 : decode cX11_stepsAside 14 = .ok (.invokestatic 72, 3) := by decide +kernel
theorem dX11_stepsAside_17 : decode cX11_stepsAside 17 = .ok (.istore_n 3, 1) := by decide +kernel
theorem dX11_stepsAside_18 : decode cX11_stepsAside 18 = .ok (.iload_n 3, 1) := by decide +kernel
theorem dX11_stepsAside_19 : decode cX11_stepsAside 19 = .ok (.ifCond .lt 43, 3) := by decide +kernel
theorem dX11_stepsAside_22 : decode cX11_stepsAside 22 = .ok (.aload_n 0, 1) := by decide +kernel
theorem dX11_stepsAside_23 : decode cX11_stepsAside 23 = .ok (.iload_n 3, 1) := by decide +kernel
theorem dX11_stepsAside_24 : decode cX11_stepsAside 24 = .ok (.invokevirtual 69, 3) := by decide +kernel
theorem dX11_stepsAside_27 : decode cX11_stepsAside 27 = .ok (.ifCond .ne 35, 3) := by decide +kernel
theorem dX11_stepsAside_30 : decode cX11_stepsAside 30 = .ok (.aload_n 0, 1) := by decide +kernel
theorem dX11_stepsAside_31 : decode cX11_stepsAside 31 = .ok (.iload_n 3, 1) := by decide +kernel
theorem dX11_stepsAside_32 : decode cX11_stepsAside 32 = .ok (.invokevirtual 121, 3) := by decide +kernel
theorem dX11_stepsAside_35 : decode cX11_stepsAside 35 = .ok (.ifCond .lt 6, 3) := by decide +kernel
theorem dX11_stepsAside_38 : decode cX11_stepsAside 38 = .ok (.goto 24, 3) := by decide +kernel
theorem dX11_stepsAside_41 : decode cX11_stepsAside 41 = .ok (.aload_n 0, 1) := by decide +kernel
theorem dX11_stepsAside_42 : decode cX11_stepsAside 42 = .ok (.iload_n 1, 1) := by decide +kernel
theorem dX11_stepsAside_43 : decode cX11_stepsAside 43 = .ok (.iload_n 3, 1) := by decide +kernel
theorem dX11_stepsAside_44 : decode cX11_stepsAside 44 = .ok (.invokevirtual 127, 3) := by decide +kernel
theorem dX11_stepsAside_47 : decode cX11_stepsAside 47 = .ok (.aload_n 0, 1) := by decide +kernel
theorem dX11_stepsAside_48 : decode cX11_stepsAside 48 = .ok (.iconst 4, 1) := by decide +kernel
theorem dX11_stepsAside_49 : decode cX11_stepsAside 49 = .ok (.iconst 1, 1) := by decide +kernel
theorem dX11_stepsAside_50 : decode cX11_stepsAside 50 = .ok (.invokevirtual 118, 3) := by decide +kernel
theorem dX11_stepsAside_53 : decode cX11_stepsAside 53 = .ok (.aload_n 0, 1) := by decide +kernel
theorem dX11_stepsAside_54 : decode cX11_stepsAside 54 = .ok (.iload_n 1, 1) := by decide +kernel
theorem dX11_stepsAside_55 : decode cX11_stepsAside 55 = .ok (.iconst 5, 1) := by decide +kernel
theorem dX11_stepsAside_56 : decode cX11_stepsAside 56 = .ok (.iconst 5, 1) := by decide +kernel
theorem dX11_stepsAside_57 : decode cX11_stepsAside 57 = .ok (.invokevirtual 114, 3) := by decide +kernel
theorem dX11_stepsAside_60 : decode cX11_stepsAside 60 = .ok (.iconst 1, 1) := by decide +kernel
theorem dX11_stepsAside_61 : decode cX11_stepsAside 61 = .ok (.ireturn, 1) := by decide +kernel
theorem dX11_stepsAside_62 : decode cX11_stepsAside 62 = .ok (.iinc 2 1, 3) := by decide +kernel
theorem dX11_stepsAside_65 : decode cX11_stepsAside 65 = .ok (.goto (-63), 3) := by decide +kernel
theorem dX11_stepsAside_68 : decode cX11_stepsAside 68 = .ok (.iconst 0, 1) := by decide +kernel
theorem dX11_stepsAside_69 : decode cX11_stepsAside 69 = .ok (.ireturn, 1) := by decide +kernel
theorem dX11_acts_0 : decode cX11_acts 0 = .ok (.bipush 120, 2) := by decide +kernel
theorem dX11_acts_2 : decode cX11_acts 2 = .ok (.aload_n 0, 1) := by decide +kernel
theorem dX11_acts_3 : decode cX11_acts 3 = .ok (.getfield 25, 3) := by decide +kernel
theorem dX11_acts_6 : decode cX11_acts 6 = .ok (.iload_n 1, 1) := by decide +kernel
theorem dX11_acts_7 : decode cX11_acts 7 = .ok (.iaload, 1) := by decide +kernel
theorem dX11_acts_8 : decode cX11_acts 8 = .ok (.imul, 1) := by decide +kernel
theorem dX11_acts_9 : decode cX11_acts 9 = .ok (.istore_n 2, 1) := by decide +kernel
theorem dX11_acts_10 : decode cX11_acts 10 = .ok (.aload_n 0, 1) := by decide +kernel
theorem dX11_acts_11 : decode cX11_acts 11 = .ok (.getfield 13, 3) := by decide +kernel
theorem dX11_acts_14 : decode cX11_acts 14 = .ok (.iload_n 2, 1) := by decide +kernel
theorem dX11_acts_15 : decode cX11_acts 15 = .ok (.aload_n 0, 1) := by decide +kernel
theorem dX11_acts_16 : decode cX11_acts 16 = .ok (.iload_n 1, 1) := by decide +kernel
theorem dX11_acts_17 : decode cX11_acts 17 = .ok (.iconst 0, 1) := by decide +kernel
theorem dX11_acts_18 : decode cX11_acts 18 = .ok (.invokevirtual 61, 3) := by decide +kernel
theorem dX11_acts_21 : decode cX11_acts 21 = .ok (.iadd, 1) := by decide +kernel
theorem dX11_acts_22 : decode cX11_acts 22 = .ok (.iaload, 1) := by decide +kernel
theorem dX11_acts_23 : decode cX11_acts 23 = .ok (.istore_n 3, 1) := by decide +kernel
theorem dX11_acts_24 : decode cX11_acts 24 = .ok (.iload_n 3, 1) := by decide +kernel
theorem dX11_acts_25 : decode cX11_acts 25 = .ok (.ifCond .eq 23, 3) := by decide +kernel
theorem dX11_acts_28 : decode cX11_acts 28 = .ok (.aload_n 0, 1) := by decide +kernel
theorem dX11_acts_29 : decode cX11_acts 29 = .ok (.iload_n 1, 1) := by decide +kernel
theorem dX11_acts_30 : decode cX11_acts 30 = .ok (.iload_n 2, 1) := by decide +kernel
theorem dX11_acts_31 : decode cX11_acts 31 = .ok (.iload_n 3, 1) := by decide +kernel
theorem dX11_acts_32 : decode cX11_acts 32 = .ok (.invokevirtual 133, 3) := by decide +kernel
theorem dX11_acts_35 : decode cX11_acts 35 = .ok (.ifCond .ne 13, 3) := by decide +kernel
theorem dX11_acts_38 : decode cX11_acts 38 = .ok (.aload_n 0, 1) := by decide +kernel
theorem dX11_acts_39 : decode cX11_acts 39 = .ok (.iload_n 1, 1) := by decide +kernel
theorem dX11_acts_40 : decode cX11_acts 40 = .ok (.iload_n 2, 1) := by decide +kernel
theorem dX11_acts_41 : decode cX11_acts 41 = .ok (.iload_n 3, 1) := by decide +kernel
theorem dX11_acts_42 : decode cX11_acts 42 = .ok (.invokevirtual 136, 3) := by decide +kernel
theorem dX11_acts_45 : decode cX11_acts 45 = .ok (.ifCond .eq 4, 3) := by decide +kernel
theorem dX11_acts_48 : decode cX11_acts 48 = .ok (.return_, 1) := by decide +kernel
theorem dX11_acts_49 : decode cX11_acts 49 = .ok (.aload_n 0, 1) := by decide +kernel
theorem dX11_acts_50 : decode cX11_acts 50 = .ok (.iload_n 1, 1) := by decide +kernel
theorem dX11_acts_51 : decode cX11_acts 51 = .ok (.iconst 1, 1) := by decide +kernel
theorem dX11_acts_52 : decode cX11_acts 52 = .ok (.invokevirtual 61, 3) := by decide +kernel
theorem dX11_acts_55 : decode cX11_acts 55 = .ok (.iconst 2, 1) := by decide +kernel
theorem dX11_acts_56 : decode cX11_acts 56 = .ok (.if_icmp .lt 12, 3) := by decide +kernel
theorem dX11_acts_59 : decode cX11_acts 59 = .ok (.aload_n 0, 1) := by decide +kernel
theorem dX11_acts_60 : decode cX11_acts 60 = .ok (.iload_n 1, 1) := by decide +kernel
theorem dX11_acts_61 : decode cX11_acts 61 = .ok (.invokevirtual 139, 3) := by decide +kernel
theorem dX11_acts_64 : decode cX11_acts 64 = .ok (.ifCond .eq 4, 3) := by decide +kernel
theorem dX11_acts_67 : decode cX11_acts 67 = .ok (.return_, 1) := by decide +kernel
theorem dX11_acts_68 : decode cX11_acts 68 = .ok (.aload_n 0, 1) := by decide +kernel
theorem dX11_acts_69 : decode cX11_acts 69 = .ok (.iload_n 1, 1) := by decide +kernel
theorem dX11_acts_70 : decode cX11_acts 70 = .ok (.iconst 1, 1) := by decide +kernel
theorem dX11_acts_71 : decode cX11_acts 71 = .ok (.aload_n 0, 1) := by decide +kernel
theorem dX11_acts_72 : decode cX11_acts 72 = .ok (.iload_n 1, 1) := by decide +kernel
theorem dX11_acts_73 : decode cX11_acts 73 = .ok (.iconst 1, 1) := by decide +kernel
theorem dX11_acts_74 : decode cX11_acts 74 = .ok (.invokevirtual 61, 3) := by decide +kernel
theorem dX11_acts_77 : decode cX11_acts 77 = .ok (.iconst 1, 1) := by decide +kernel
theorem dX11_acts_78 : decode cX11_acts 78 = .ok (.iadd, 1) := by decide +kernel
theorem dX11_acts_79 : decode cX11_acts 79 = .ok (.invokevirtual 114, 3) := by decide +kernel
theorem dX11_acts_82 : decode cX11_acts 82 = .ok (.aload_n 0, 1) := by decide +kernel
theorem dX11_acts_83 : decode cX11_acts 83 = .ok (.iload_n 1, 1) := by decide +kernel
theorem dX11_acts_84 : decode cX11_acts 84 = .ok (.invokevirtual 124, 3) := by decide +kernel
theorem dX11_acts_87 : decode cX11_acts 87 = .ok (.aload_n 0, 1) := by decide +kernel
theorem dX11_acts_88 : decode cX11_acts 88 = .ok (.iload_n 1, 1) := by decide +kernel
theorem dX11_acts_89 : decode cX11_acts 89 = .ok (.iconst 5, 1) := by decide +kernel
theorem dX11_acts_90 : decode cX11_acts 90 = .ok (.iconst 3, 1) := by decide +kernel
theorem dX11_acts_91 : decode cX11_acts 91 = .ok (.invokevirtual 114, 3) := by decide +kernel
theorem dX11_acts_94 : decode cX11_acts 94 = .ok (.return_, 1) := by decide +kernel
theorem dX11_round_0 : decode cX11_round 0 = .ok (.aload_n 0, 1) := by decide +kernel
theorem dX11_round_1 : decode cX11_round 1 = .ok (.iconst 0, 1) := by decide +kernel
theorem dX11_round_2 : decode cX11_round 2 = .ok (.iconst 1, 1) := by decide +kernel
theorem dX11_round_3 : decode cX11_round 3 = .ok (.invokevirtual 118, 3) := by decide +kernel
theorem dX11_round_6 : decode cX11_round 6 = .ok (.aload_n 0, 1) := by decide +kernel
theorem dX11_round_7 : decode cX11_round 7 = .ok (.invokevirtual 142, 3) := by decide +kernel
theorem dX11_round_10 : decode cX11_round 10 = .ok (.aload_n 0, 1) := by decide +kernel
theorem dX11_round_11 : decode cX11_round 11 = .ok (.invokevirtual 111, 3) := by decide +kernel
theorem dX11_round_14 : decode cX11_round 14 = .ok (.iconst 0, 1) := by decide +kernel
theorem dX11_round_15 : decode cX11_round 15 = .ok (.istore_n 1, 1) := by decide +kernel
theorem dX11_round_16 : decode cX11_round 16 = .ok (.iconst 0, 1) := by decide +kernel
theorem dX11_round_17 : decode cX11_round 17 = .ok (.istore_n 2, 1) := by decide +kernel
theorem dX11_round_18 : decode cX11_round 18 = .ok (.iload_n 2, 1) := by decide +kernel
theorem dX11_round_19 : decode cX11_round 19 = .ok (.bipush 10, 2) := by decide +kernel
theorem dX11_round_21 : decode cX11_round 21 = .ok (.if_icmp .ge 184, 3) := by decide +kernel
theorem dX11_round_24 : decode cX11_round 24 = .ok (.aload_n 0, 1) := by decide +kernel
theorem dX11_round_25 : decode cX11_round 25 = .ok (.iload_n 2, 1) := by decide +kernel
theorem dX11_round_26 : decode cX11_round 26 = .ok (.invokevirtual 65, 3) := by decide +kernel
theorem dX11_round_29 : decode cX11_round 29 = .ok (.ifCond .ne 6, 3) := by decide +kernel
theorem dX11_round_32 : decode cX11_round 32 = .ok (.goto 167, 3) := by decide +kernel
theorem dX11_round_35 : decode cX11_round 35 = .ok (.aload_n 0, 1) := by decide +kernel
theorem dX11_round_36 : decode cX11_round 36 = .ok (.iload_n 2, 1) := by decide +kernel
theorem dX11_round_37 : decode cX11_round 37 = .ok (.iconst 4, 1) := by decide +kernel
theorem dX11_round_38 : decode cX11_round 38 = .ok (.aload_n 0, 1) := by decide +kernel
theorem dX11_round_39 : decode cX11_round 39 = .ok (.iload_n 2, 1) := by decide +kernel
theorem dX11_round_40 : decode cX11_round 40 = .ok (.iconst 4, 1) := by decide +kernel
theorem dX11_round_41 : decode cX11_round 41 = .ok (.invokevirtual 61, 3) := by decide +kernel
theorem dX11_round_44 : decode cX11_round 44 = .ok (.iconst 1, 1) := by decide +kernel
theorem dX11_round_45 : decode cX11_round 45 = .ok (.iadd, 1) := by decide +kernel
theorem dX11_round_46 : decode cX11_round 46 = .ok (.invokevirtual 114, 3) := by decide +kernel
theorem dX11_round_49 : decode cX11_round 49 = .ok (.iload_n 2, 1) := by decide +kernel
theorem dX11_round_50 : decode cX11_round 50 = .ok (.aload_n 0, 1) := by decide +kernel
theorem dX11_round_51 : decode cX11_round 51 = .ok (.invokevirtual 85, 3) := by decide +kernel
theorem dX11_round_54 : decode cX11_round 54 = .ok (.if_icmp .ne 6, 3) := by decide +kernel
theorem dX11_round_57 : decode cX11_round 57 = .ok (.goto 142, 3) := by decide +kernel
theorem dX11_round_60 : decode cX11_round 60 = .ok (.aload_n 0, 1) := by decide +kernel
theorem dX11_round_61 : decode cX11_round 61 = .ok (.iload_n 2, 1) := by decide +kernel
theorem dX11_round_62 : decode cX11_round 62 = .ok (.iconst 5, 1) := by decide +kernel
theorem dX11_round_63 : decode cX11_round 63 = .ok (.aload_n 0, 1) := by decide +kernel
theorem dX11_round_64 : decode cX11_round 64 = .ok (.getfield 25, 3) := by decide +kernel
theorem dX11_round_67 : decode cX11_round 67 = .ok (.iload_n 2, 1) := by decide +kernel
theorem dX11_round_68 : decode cX11_round 68 = .ok (.iaload, 1) := by decide +kernel
theorem dX11_round_69 : decode cX11_round 69 = .ok (.ifCond .ge 7, 3) := by decide +kernel
theorem dX11_round_72 : decode cX11_round 72 = .ok (.iconst 2, 1) := by decide +kernel
theorem dX11_round_73 : decode cX11_round 73 = .ok (.goto 4, 3) := by decide +kernel
theorem dX11_round_76 : decode cX11_round 76 = .ok (.iconst 1, 1) := by decide +kernel
theorem dX11_round_77 : decode cX11_round 77 = .ok (.invokevirtual 114, 3) := by decide +kernel
theorem dX11_round_80 : decode cX11_round 80 = .ok (.aload_n 0, 1) := by decide +kernel
theorem dX11_round_81 : decode cX11_round 81 = .ok (.getfield 25, 3) := by decide +kernel
theorem dX11_round_84 : decode cX11_round 84 = .ok (.iload_n 2, 1) := by decide +kernel
theorem dX11_round_85 : decode cX11_round 85 = .ok (.iaload, 1) := by decide +kernel
theorem dX11_round_86 : decode cX11_round 86 = .ok (.ifCond .ge 6, 3) := by decide +kernel
theorem dX11_round_89 : decode cX11_round 89 = .ok (.goto 110, 3) := by decide +kernel
theorem dX11_round_92 : decode cX11_round 92 = .ok (.aload_n 0, 1) := by decide +kernel
theorem dX11_round_93 : decode cX11_round 93 = .ok (.getfield 13, 3) := by decide +kernel
theorem dX11_round_96 : decode cX11_round 96 = .ok (.bipush 120, 2) := by decide +kernel
theorem dX11_round_98 : decode cX11_round 98 = .ok (.aload_n 0, 1) := by decide +kernel
theorem dX11_round_99 : decode cX11_round 99 = .ok (.getfield 25, 3) := by decide +kernel
theorem dX11_round_102 : decode cX11_round 102 = .ok (.iload_n 2, 1) := by decide +kernel
theorem dX11_round_103 : decode cX11_round 103 = .ok (.iaload, 1) := by decide +kernel
theorem dX11_round_104 : decode cX11_round 104 = .ok (.imul, 1) := by decide +kernel
theorem dX11_round_105 : decode cX11_round 105 = .ok (.aload_n 0, 1) := by decide +kernel
theorem dX11_round_106 : decode cX11_round 106 = .ok (.iload_n 2, 1) := by decide +kernel
theorem dX11_round_107 : decode cX11_round 107 = .ok (.iconst 0, 1) := by decide +kernel
theorem dX11_round_108 : decode cX11_round 108 = .ok (.invokevirtual 61, 3) := by decide +kernel
theorem dX11_round_111 : decode cX11_round 111 = .ok (.iadd, 1) := by decide +kernel
theorem dX11_round_112 : decode cX11_round 112 = .ok (.iaload, 1) := by decide +kernel
theorem dX11_round_113 : decode cX11_round 113 = .ok (.istore_n 3, 1) := by decide +kernel
theorem dX11_round_114 : decode cX11_round 114 = .ok (.iload_n 3, 1) := by decide +kernel
theorem dX11_round_115 : decode cX11_round 115 = .ok (.ifCond .ne 6, 3) := by decide +kernel
theorem dX11_round_118 : decode cX11_round 118 = .ok (.goto 81, 3) := by decide +kernel
theorem dX11_round_121 : decode cX11_round 121 = .ok (.iload_n 1, 1) := by decide +kernel
theorem dX11_round_122 : decode cX11_round 122 = .ok (.istore 4, 2) := by decide +kernel
theorem dX11_round_124 : decode cX11_round 124 = .ok (.iload 4, 2) := by decide +kernel
theorem dX11_round_126 : decode cX11_round 126 = .ok (.ifCond .le 54, 3) := by decide +kernel
theorem dX11_round_129 : decode cX11_round 129 = .ok (.aload_n 0, 1) := by decide +kernel
theorem dX11_round_130 : decode cX11_round 130 = .ok (.getfield 34, 3) := by decide +kernel
theorem dX11_round_133 : decode cX11_round 133 = .ok (.iload 4, 2) := by decide +kernel
theorem dX11_round_135 : decode cX11_round 135 = .ok (.iconst 1, 1) := by decide +kernel
theorem dX11_round_136 : decode cX11_round 136 = .ok (.isub, 1) := by decide +kernel
theorem dX11_round_137 : decode cX11_round 137 = .ok (.iaload, 1) := by decide +kernel
theorem dX11_round_138 : decode cX11_round 138 = .ok (.iload_n 3, 1) := by decide +kernel
theorem dX11_round_139 : decode cX11_round 139 = .ok (.if_icmp .ge 41, 3) := by decide +kernel
theorem dX11_round_142 : decode cX11_round 142 = .ok (.aload_n 0, 1) := by decide +kernel
theorem dX11_round_143 : decode cX11_round 143 = .ok (.getfield 31, 3) := by decide +kernel
theorem dX11_round_146 : decode cX11_round 146 = .ok (.iload 4, 2) := by decide +kernel
theorem dX11_round_148 : decode cX11_round 148 = .ok (.aload_n 0, 1) := by decide +kernel
theorem dX11_round_149 : decode cX11_round 149 = .ok (.getfield 31, 3) := by decide +kernel
theorem dX11_round_152 : decode cX11_round 152 = .ok (.iload 4, 2) := by decide +kernel
theorem dX11_round_154 : decode cX11_round 154 = .ok (.iconst 1, 1) := by decide +kernel
theorem dX11_round_155 : decode cX11_round 155 = .ok (.isub, 1) := by decide +kernel
theorem dX11_round_156 : decode cX11_round 156 = .ok (.iaload, 1) := by decide +kernel
theorem dX11_round_157 : decode cX11_round 157 = .ok (.iastore, 1) := by decide +kernel
theorem dX11_round_158 : decode cX11_round 158 = .ok (.aload_n 0, 1) := by decide +kernel
theorem dX11_round_159 : decode cX11_round 159 = .ok (.getfield 34, 3) := by decide +kernel
theorem dX11_round_162 : decode cX11_round 162 = .ok (.iload 4, 2) := by decide +kernel
theorem dX11_round_164 : decode cX11_round 164 = .ok (.aload_n 0, 1) := by decide +kernel
theorem dX11_round_165 : decode cX11_round 165 = .ok (.getfield 34, 3) := by decide +kernel
theorem dX11_round_168 : decode cX11_round 168 = .ok (.iload 4, 2) := by decide +kernel
theorem dX11_round_170 : decode cX11_round 170 = .ok (.iconst 1, 1) := by decide +kernel
theorem dX11_round_171 : decode cX11_round 171 = .ok (.isub, 1) := by decide +kernel
theorem dX11_round_172 : decode cX11_round 172 = .ok (.iaload, 1) := by decide +kernel
theorem dX11_round_173 : decode cX11_round 173 = .ok (.iastore, 1) := by decide +kernel
theorem dX11_round_174 : decode cX11_round 174 = .ok (.iinc 4 (-1), 3) := by decide +kernel
theorem dX11_round_177 : decode cX11_round 177 = .ok (.goto (-53), 3) := by decide +kernel
theorem dX11_round_180 : decode cX11_round 180 = .ok (.aload_n 0, 1) := by decide +kernel
theorem dX11_round_181 : decode cX11_round 181 = .ok (.getfield 31, 3) := by decide +kernel
theorem dX11_round_184 : decode cX11_round 184 = .ok (.iload 4, 2) := by decide +kernel
theorem dX11_round_186 : decode cX11_round 186 = .ok (.iload_n 2, 1) := by decide +kernel
theorem dX11_round_187 : decode cX11_round 187 = .ok (.iastore, 1) := by decide +kernel
theorem dX11_round_188 : decode cX11_round 188 = .ok (.aload_n 0, 1) := by decide +kernel
theorem dX11_round_189 : decode cX11_round 189 = .ok (.getfield 34, 3) := by decide +kernel
theorem dX11_round_192 : decode cX11_round 192 = .ok (.iload 4, 2) := by decide +kernel
theorem dX11_round_194 : decode cX11_round 194 = .ok (.iload_n 3, 1) := by decide +kernel
theorem dX11_round_195 : decode cX11_round 195 = .ok (.iastore, 1) := by decide +kernel
theorem dX11_round_196 : decode cX11_round 196 = .ok (.iinc 1 1, 3) := by decide +kernel
theorem dX11_round_199 : decode cX11_round 199 = .ok (.iinc 2 1, 3) := by decide +kernel
theorem dX11_round_202 : decode cX11_round 202 = .ok (.goto (-184), 3) := by decide +kernel
theorem dX11_round_205 : decode cX11_round 205 = .ok (.iconst 0, 1) := by decide +kernel
theorem dX11_round_206 : decode cX11_round 206 = .ok (.istore_n 2, 1) := by decide +kernel
theorem dX11_round_207 : decode cX11_round 207 = .ok (.iload_n 2, 1) := by decide +kernel
theorem dX11_round_208 : decode cX11_round 208 = .ok (.iload_n 1, 1) := by decide +kernel
theorem dX11_round_209 : decode cX11_round 209 = .ok (.if_icmp .ge 19, 3) := by decide +kernel
theorem dX11_round_212 : decode cX11_round 212 = .ok (.aload_n 0, 1) := by decide +kernel
theorem dX11_round_213 : decode cX11_round 213 = .ok (.aload_n 0, 1) := by decide +kernel
theorem dX11_round_214 : decode cX11_round 214 = .ok (.getfield 31, 3) := by decide +kernel
theorem dX11_round_217 : decode cX11_round 217 = .ok (.iload_n 2, 1) := by decide +kernel
theorem dX11_round_218 : decode cX11_round 218 = .ok (.iaload, 1) := by decide +kernel
theorem dX11_round_219 : decode cX11_round 219 = .ok (.invokevirtual 145, 3) := by decide +kernel
theorem dX11_round_222 : decode cX11_round 222 = .ok (.iinc 2 1, 3) := by decide +kernel
theorem dX11_round_225 : decode cX11_round 225 = .ok (.goto (-18), 3) := by decide +kernel
theorem dX11_round_228 : decode cX11_round 228 = .ok (.return_, 1) := by decide +kernel
theorem dX11_makes_0 : decode cX11_makes 0 = .ok (.iconst 0, 1) := by decide +kernel
theorem dX11_makes_1 : decode cX11_makes 1 = .ok (.istore_n 2, 1) := by decide +kernel
theorem dX11_makes_2 : decode cX11_makes 2 = .ok (.iload_n 2, 1) := by decide +kernel
theorem dX11_makes_3 : decode cX11_makes 3 = .ok (.bipush 10, 2) := by decide +kernel
theorem dX11_makes_5 : decode cX11_makes 5 = .ok (.if_icmp .ge 33, 3) := by decide +kernel
theorem dX11_makes_8 : decode cX11_makes 8 = .ok (.aload_n 0, 1) := by decide +kernel
theorem dX11_makes_9 : decode cX11_makes 9 = .ok (.getfield 37, 3) := by decide +kernel
theorem dX11_makes_12 : decode cX11_makes 12 = .ok (.iload_n 2, 1) := by decide +kernel
theorem dX11_makes_13 : decode cX11_makes 13 = .ok (.aload_n 0, 1) := by decide +kernel
theorem dX11_makes_14 : decode cX11_makes 14 = .ok (.iload_n 2, 1) := by decide +kernel
theorem dX11_makes_15 : decode cX11_makes 15 = .ok (.invokevirtual 65, 3) := by decide +kernel
theorem dX11_makes_18 : decode cX11_makes 18 = .ok (.ifCond .eq 12, 3) := by decide +kernel
theorem dX11_makes_21 : decode cX11_makes 21 = .ok (.aload_n 0, 1) := by decide +kernel
theorem dX11_makes_22 : decode cX11_makes 22 = .ok (.iload_n 2, 1) := by decide +kernel
theorem dX11_makes_23 : decode cX11_makes 23 = .ok (.iconst 0, 1) := by decide +kernel
theorem dX11_makes_24 : decode cX11_makes 24 = .ok (.invokevirtual 61, 3) := by decide +kernel
theorem dX11_makes_27 : decode cX11_makes 27 = .ok (.goto 4, 3) := by decide +kernel
theorem dX11_makes_30 : decode cX11_makes 30 = .ok (.iconst (-1), 1) := by decide +kernel
theorem dX11_makes_31 : decode cX11_makes 31 = .ok (.iastore, 1) := by decide +kernel
theorem dX11_makes_32 : decode cX11_makes 32 = .ok (.iinc 2 1, 3) := by decide +kernel
theorem dX11_makes_35 : decode cX11_makes 35 = .ok (.goto (-33), 3) := by decide +kernel
theorem dX11_makes_38 : decode cX11_makes 38 = .ok (.iconst 0, 1) := by decide +kernel
theorem dX11_makes_39 : decode cX11_makes 39 = .ok (.istore_n 2, 1) := by decide +kernel
theorem dX11_makes_40 : decode cX11_makes 40 = .ok (.iload_n 2, 1) := by decide +kernel
theorem dX11_makes_41 : decode cX11_makes 41 = .ok (.iload_n 1, 1) := by decide +kernel
theorem dX11_makes_42 : decode cX11_makes 42 = .ok (.if_icmp .ge 13, 3) := by decide +kernel
theorem dX11_makes_45 : decode cX11_makes 45 = .ok (.aload_n 0, 1) := by decide +kernel
theorem dX11_makes_46 : decode cX11_makes 46 = .ok (.invokevirtual 148, 3) := by decide +kernel
theorem dX11_makes_49 : decode cX11_makes 49 = .ok (.iinc 2 1, 3) := by decide +kernel
theorem dX11_makes_52 : decode cX11_makes 52 = .ok (.goto (-12), 3) := by decide +kernel
theorem dX11_makes_55 : decode cX11_makes 55 = .ok (.iconst 0, 1) := by decide +kernel
theorem dX11_makes_56 : decode cX11_makes 56 = .ok (.istore_n 2, 1) := by decide +kernel
theorem dX11_makes_57 : decode cX11_makes 57 = .ok (.iconst 0, 1) := by decide +kernel
theorem dX11_makes_58 : decode cX11_makes 58 = .ok (.istore_n 3, 1) := by decide +kernel
theorem dX11_makes_59 : decode cX11_makes 59 = .ok (.iload_n 3, 1) := by decide +kernel
theorem dX11_makes_60 : decode cX11_makes 60 = .ok (.bipush 10, 2) := by decide +kernel
theorem dX11_makes_62 : decode cX11_makes 62 = .ok (.if_icmp .ge 40, 3) := by decide +kernel
theorem dX11_makes_65 : decode cX11_makes 65 = .ok (.iload_n 2, 1) := by decide +kernel
theorem dX11_makes_66 : decode cX11_makes 66 = .ok (.aload_n 0, 1) := by decide +kernel
theorem dX11_makes_67 : decode cX11_makes 67 = .ok (.iload_n 3, 1) := by decide +kernel
theorem dX11_makes_68 : decode cX11_makes 68 = .ok (.invokevirtual 65, 3) := by decide +kernel
theorem dX11_makes_71 : decode cX11_makes 71 = .ok (.ifCond .eq 22, 3) := by decide +kernel
theorem dX11_makes_74 : decode cX11_makes 74 = .ok (.aload_n 0, 1) := by decide +kernel
theorem dX11_makes_75 : decode cX11_makes 75 = .ok (.iload_n 3, 1) := by decide +kernel
theorem dX11_makes_76 : decode cX11_makes 76 = .ok (.iconst 0, 1) := by decide +kernel
theorem dX11_makes_77 : decode cX11_makes 77 = .ok (.invokevirtual 61, 3) := by decide +kernel
theorem dX11_makes_80 : decode cX11_makes 80 = .ok (.aload_n 0, 1) := by decide +kernel
theorem dX11_makes_81 : decode cX11_makes 81 = .ok (.getfield 37, 3) := by decide +kernel
theorem dX11_makes_84 : decode cX11_makes 84 = .ok (.iload_n 3, 1) := by decide +kernel
theorem dX11_makes_85 : decode cX11_makes 85 = .ok (.iaload, 1) := by decide +kernel
theorem dX11_makes_86 : decode cX11_makes 86 = .ok (.if_icmp .eq 7, 3) := by decide +kernel
theorem dX11_makes_89 : decode cX11_makes 89 = .ok (.iconst 1, 1) := by decide +kernel
theorem dX11_makes_90 : decode cX11_makes 90 = .ok (.goto 4, 3) := by decide +kernel
theorem dX11_makes_93 : decode cX11_makes 93 = .ok (.iconst 0, 1) := by decide +kernel
theorem dX11_makes_94 : decode cX11_makes 94 = .ok (.iadd, 1) := by decide +kernel
theorem dX11_makes_95 : decode cX11_makes 95 = .ok (.istore_n 2, 1) := by decide +kernel
theorem dX11_makes_96 : decode cX11_makes 96 = .ok (.iinc 3 1, 3) := by decide +kernel
theorem dX11_makes_99 : decode cX11_makes 99 = .ok (.goto (-40), 3) := by decide +kernel
theorem dX11_makes_102 : decode cX11_makes 102 = .ok (.iload_n 2, 1) := by decide +kernel
theorem dX11_makes_103 : decode cX11_makes 103 = .ok (.ireturn, 1) := by decide +kernel
theorem dX11_rounds_0 : decode cX11_rounds 0 = .ok (.iload_n 1, 1) := by decide +kernel
theorem dX11_rounds_1 : decode cX11_rounds 1 = .ok (.iconst 1, 1) := by decide +kernel
theorem dX11_rounds_2 : decode cX11_rounds 2 = .ok (.bipush 40, 2) := by decide +kernel
theorem dX11_rounds_4 : decode cX11_rounds 4 = .ok (.invokestatic 57, 3) := by decide +kernel
theorem dX11_rounds_7 : decode cX11_rounds 7 = .ok (.ifCond .ne 6, 3) := by decide +kernel
theorem dX11_rounds_10 : decode cX11_rounds 10 = .ok (.bipush (-2), 2) := by decide +kernel
theorem dX11_rounds_12 : decode cX11_rounds 12 = .ok (.ireturn, 1) := by decide +kernel
theorem dX11_rounds_13 : decode cX11_rounds 13 = .ok (.aload_n 0, 1) := by decide +kernel
theorem dX11_rounds_14 : decode cX11_rounds 14 = .ok (.invokevirtual 85, 3) := by decide +kernel
theorem dX11_rounds_17 : decode cX11_rounds 17 = .ok (.ifCond .ge 6, 3) := by decide +kernel
theorem dX11_rounds_20 : decode cX11_rounds 20 = .ok (.bipush (-3), 2) := by decide +kernel
theorem dX11_rounds_22 : decode cX11_rounds 22 = .ok (.ireturn, 1) := by decide +kernel
theorem dX11_rounds_23 : decode cX11_rounds 23 = .ok (.aload_n 0, 1) := by decide +kernel
theorem dX11_rounds_24 : decode cX11_rounds 24 = .ok (.invokevirtual 151, 3) := by decide +kernel
theorem dX11_rounds_27 : decode cX11_rounds 27 = .ok (.aload_n 0, 1) := by decide +kernel
theorem dX11_rounds_28 : decode cX11_rounds 28 = .ok (.iload_n 1, 1) := by decide +kernel
theorem dX11_rounds_29 : decode cX11_rounds 29 = .ok (.invokevirtual 154, 3) := by decide +kernel
theorem dX11_rounds_32 : decode cX11_rounds 32 = .ok (.ireturn, 1) := by decide +kernel
theorem dX11_opens_0 : decode cX11_opens 0 = .ok (.aload_n 0, 1) := by decide +kernel
theorem dX11_opens_1 : decode cX11_opens 1 = .ok (.getfield 9, 3) := by decide +kernel
theorem dX11_opens_4 : decode cX11_opens 4 = .ok (.iconst 0, 1) := by decide +kernel
theorem dX11_opens_5 : decode cX11_opens 5 = .ok (.iaload, 1) := by decide +kernel
theorem dX11_opens_6 : decode cX11_opens 6 = .ok (.istore_n 2, 1) := by decide +kernel
theorem dX11_opens_7 : decode cX11_opens 7 = .ok (.aload_n 0, 1) := by decide +kernel
theorem dX11_opens_8 : decode cX11_opens 8 = .ok (.getfield 9, 3) := by decide +kernel
theorem dX11_opens_11 : decode cX11_opens 11 = .ok (.iconst 0, 1) := by decide +kernel
theorem dX11_opens_12 : decode cX11_opens 12 = .ok (.dup2, 1) := by decide +kernel
theorem dX11_opens_13 : decode cX11_opens 13 = .ok (.iaload, 1) := by decide +kernel
theorem dX11_opens_14 : decode cX11_opens 14 = .ok (.iconst 1, 1) := by decide +kernel
theorem dX11_opens_15 : decode cX11_opens 15 = .ok (.iadd, 1) := by decide +kernel
theorem dX11_opens_16 : decode cX11_opens 16 = .ok (.iastore, 1) := by decide +kernel
theorem dX11_opens_17 : decode cX11_opens 17 = .ok (.iconst 0, 1) := by decide +kernel
theorem dX11_opens_18 : decode cX11_opens 18 = .ok (.istore_n 3, 1) := by decide +kernel
theorem dX11_opens_19 : decode cX11_opens 19 = .ok (.iload_n 3, 1) := by decide +kernel
theorem dX11_opens_20 : decode cX11_opens 20 = .ok (.bipush 6, 2) := by decide +kernel
theorem dX11_opens_22 : decode cX11_opens 22 = .ok (.if_icmp .ge 16, 3) := by decide +kernel
theorem dX11_opens_25 : decode cX11_opens 25 = .ok (.aload_n 0, 1) := by decide +kernel
theorem dX11_opens_26 : decode cX11_opens 26 = .ok (.iload_n 2, 1) := by decide +kernel
theorem dX11_opens_27 : decode cX11_opens 27 = .ok (.iload_n 3, 1) := by decide +kernel
theorem dX11_opens_28 : decode cX11_opens 28 = .ok (.iconst 0, 1) := by decide +kernel
theorem dX11_opens_29 : decode cX11_opens 29 = .ok (.invokevirtual 114, 3) := by decide +kernel
theorem dX11_opens_32 : decode cX11_opens 32 = .ok (.iinc 3 1, 3) := by decide +kernel
theorem dX11_opens_35 : decode cX11_opens 35 = .ok (.goto (-16), 3) := by decide +kernel
theorem dX11_opens_38 : decode cX11_opens 38 = .ok (.aload_n 0, 1) := by decide +kernel
theorem dX11_opens_39 : decode cX11_opens 39 = .ok (.iload_n 2, 1) := by decide +kernel
theorem dX11_opens_40 : decode cX11_opens 40 = .ok (.iconst 0, 1) := by decide +kernel
theorem dX11_opens_41 : decode cX11_opens 41 = .ok (.iload_n 1, 1) := by decide +kernel
theorem dX11_opens_42 : decode cX11_opens 42 = .ok (.invokevirtual 114, 3) := by decide +kernel
theorem dX11_opens_45 : decode cX11_opens 45 = .ok (.aload_n 0, 1) := by decide +kernel
theorem dX11_opens_46 : decode cX11_opens 46 = .ok (.iload_n 2, 1) := by decide +kernel
theorem dX11_opens_47 : decode cX11_opens 47 = .ok (.iconst 5, 1) := by decide +kernel
theorem dX11_opens_48 : decode cX11_opens 48 = .ok (.bipush (-5), 2) := by decide +kernel
theorem dX11_opens_50 : decode cX11_opens 50 = .ok (.invokevirtual 114, 3) := by decide +kernel
theorem dX11_opens_53 : decode cX11_opens 53 = .ok (.aload_n 0, 1) := by decide +kernel
theorem dX11_opens_54 : decode cX11_opens 54 = .ok (.bipush 7, 2) := by decide +kernel
theorem dX11_opens_56 : decode cX11_opens 56 = .ok (.iconst 1, 1) := by decide +kernel
theorem dX11_opens_57 : decode cX11_opens 57 = .ok (.invokevirtual 118, 3) := by decide +kernel
theorem dX11_opens_60 : decode cX11_opens 60 = .ok (.iload_n 2, 1) := by decide +kernel
theorem dX11_opens_61 : decode cX11_opens 61 = .ok (.ireturn, 1) := by decide +kernel
theorem dX11_goesLost_0 : decode cX11_goesLost 0 = .ok (.aload_n 0, 1) := by decide +kernel
theorem dX11_goesLost_1 : decode cX11_goesLost 1 = .ok (.iload_n 1, 1) := by decide +kernel
theorem dX11_goesLost_2 : decode cX11_goesLost 2 = .ok (.iconst 0, 1) := by decide +kernel
theorem dX11_goesLost_3 : decode cX11_goesLost 3 = .ok (.iconst (-1), 1) := by decide +kernel
theorem dX11_goesLost_4 : decode cX11_goesLost 4 = .ok (.invokevirtual 114, 3) := by decide +kernel
theorem dX11_goesLost_7 : decode cX11_goesLost 7 = .ok (.aload_n 0, 1) := by decide +kernel
theorem dX11_goesLost_8 : decode cX11_goesLost 8 = .ok (.iconst 5, 1) := by decide +kernel
theorem dX11_goesLost_9 : decode cX11_goesLost 9 = .ok (.iconst 1, 1) := by decide +kernel
theorem dX11_goesLost_10 : decode cX11_goesLost 10 = .ok (.invokevirtual 118, 3) := by decide +kernel
theorem dX11_goesLost_13 : decode cX11_goesLost 13 = .ok (.aload_n 0, 1) := by decide +kernel
theorem dX11_goesLost_14 : decode cX11_goesLost 14 = .ok (.invokevirtual 157, 3) := by decide +kernel
theorem dX11_goesLost_17 : decode cX11_goesLost 17 = .ok (.ireturn, 1) := by decide +kernel
theorem dX11_turnsBlocked_0 : decode cX11_turnsBlocked 0 = .ok (.aload_n 0, 1) := by decide +kernel
theorem dX11_turnsBlocked_1 : decode cX11_turnsBlocked 1 = .ok (.getfield 9, 3) := by decide +kernel
theorem dX11_turnsBlocked_4 : decode cX11_turnsBlocked 4 = .ok (.bipush 72, 2) := by decide +kernel
theorem dX11_turnsBlocked_6 : decode cX11_turnsBlocked 6 = .ok (.iload_n 1, 1) := by decide +kernel
theorem dX11_turnsBlocked_7 : decode cX11_turnsBlocked 7 = .ok (.iadd, 1) := by decide +kernel
theorem dX11_turnsBlocked_8 : decode cX11_turnsBlocked 8 = .ok (.iconst 1, 1) := by decide +kernel
theorem dX11_turnsBlocked_9 : decode cX11_turnsBlocked 9 = .ok (.aload_n 0, 1) := by decide +kernel
theorem dX11_turnsBlocked_10 : decode cX11_turnsBlocked 10 = .ok (.getfield 9, 3) := by decide +kernel
theorem dX11_turnsBlocked_13 : decode cX11_turnsBlocked 13 = .ok (.bipush 72, 2) := by decide +kernel
theorem dX11_turnsBlocked_15 : decode cX11_turnsBlocked 15 = .ok (.iload_n 1, 1) := by decide +kernel
theorem dX11_turnsBlocked_16 : decode cX11_turnsBlocked 16 = .ok (.iadd, 1) := by decide +kernel
theorem dX11_turnsBlocked_17 : decode cX11_turnsBlocked 17 = .ok (.iaload, 1) := by decide +kernel
theorem dX11_turnsBlocked_18 : decode cX11_turnsBlocked 18 = .ok (.isub, 1) := by decide +kernel
theorem dX11_turnsBlocked_19 : decode cX11_turnsBlocked 19 = .ok (.iastore, 1) := by decide +kernel
theorem dX11_turnsBlocked_20 : decode cX11_turnsBlocked 20 = .ok (.aload_n 0, 1) := by decide +kernel
theorem dX11_turnsBlocked_21 : decode cX11_turnsBlocked 21 = .ok (.getfield 9, 3) := by decide +kernel
theorem dX11_turnsBlocked_24 : decode cX11_turnsBlocked 24 = .ok (.bipush 72, 2) := by decide +kernel
theorem dX11_turnsBlocked_26 : decode cX11_turnsBlocked 26 = .ok (.iload_n 1, 1) := by decide +kernel
theorem dX11_turnsBlocked_27 : decode cX11_turnsBlocked 27 = .ok (.iadd, 1) := by decide +kernel
theorem dX11_turnsBlocked_28 : decode cX11_turnsBlocked 28 = .ok (.iaload, 1) := by decide +kernel
theorem dX11_turnsBlocked_29 : decode cX11_turnsBlocked 29 = .ok (.ireturn, 1) := by decide +kernel
theorem dX11_add_0 : decode cX11_add 0 = .ok (.iload_n 1, 1) := by decide +kernel
theorem dX11_add_1 : decode cX11_add 1 = .ok (.iconst 0, 1) := by decide +kernel
theorem dX11_add_2 : decode cX11_add 2 = .ok (.bipush 11, 2) := by decide +kernel
theorem dX11_add_4 : decode cX11_add 4 = .ok (.invokestatic 57, 3) := by decide +kernel
theorem dX11_add_7 : decode cX11_add 7 = .ok (.ifCond .eq 13, 3) := by decide +kernel
theorem dX11_add_10 : decode cX11_add 10 = .ok (.iload_n 2, 1) := by decide +kernel
theorem dX11_add_11 : decode cX11_add 11 = .ok (.iconst 0, 1) := by decide +kernel
theorem dX11_add_12 : decode cX11_add 12 = .ok (.bipush 9, 2) := by decide +kernel
theorem dX11_add_14 : decode cX11_add 14 = .ok (.invokestatic 57, 3) := by decide +kernel
theorem dX11_add_17 : decode cX11_add 17 = .ok (.ifCond .ne 6, 3) := by decide +kernel
theorem dX11_add_20 : decode cX11_add 20 = .ok (.bipush (-2), 2) := by decide +kernel
theorem dX11_add_22 : decode cX11_add 22 = .ok (.ireturn, 1) := by decide +kernel
theorem dX11_add_23 : decode cX11_add 23 = .ok (.bipush 12, 2) := by decide +kernel
theorem dX11_add_25 : decode cX11_add 25 = .ok (.iload_n 2, 1) := by decide +kernel
theorem dX11_add_26 : decode cX11_add 26 = .ok (.imul, 1) := by decide +kernel
theorem dX11_add_27 : decode cX11_add 27 = .ok (.iload_n 1, 1) := by decide +kernel
theorem dX11_add_28 : decode cX11_add 28 = .ok (.iadd, 1) := by decide +kernel
theorem dX11_add_29 : decode cX11_add 29 = .ok (.istore_n 3, 1) := by decide +kernel
theorem dX11_add_30 : decode cX11_add 30 = .ok (.aload_n 0, 1) := by decide +kernel
theorem dX11_add_31 : decode cX11_add 31 = .ok (.iload_n 3, 1) := by decide +kernel
theorem dX11_add_32 : decode cX11_add 32 = .ok (.invokevirtual 69, 3) := by decide +kernel
theorem dX11_add_35 : decode cX11_add 35 = .ok (.ifCond .ne 11, 3) := by decide +kernel
theorem dX11_add_38 : decode cX11_add 38 = .ok (.aload_n 0, 1) := by decide +kernel
theorem dX11_add_39 : decode cX11_add 39 = .ok (.iload_n 3, 1) := by decide +kernel
theorem dX11_add_40 : decode cX11_add 40 = .ok (.invokevirtual 121, 3) := by decide +kernel
theorem dX11_add_43 : decode cX11_add 43 = .ok (.ifCond .lt 6, 3) := by decide +kernel
theorem dX11_add_46 : decode cX11_add 46 = .ok (.bipush (-3), 2) := by decide +kernel
theorem dX11_add_48 : decode cX11_add 48 = .ok (.ireturn, 1) := by decide +kernel
theorem dX11_add_49 : decode cX11_add 49 = .ok (.aload_n 0, 1) := by decide +kernel
theorem dX11_add_50 : decode cX11_add 50 = .ok (.getfield 9, 3) := by decide +kernel
theorem dX11_add_53 : decode cX11_add 53 = .ok (.iconst 0, 1) := by decide +kernel
theorem dX11_add_54 : decode cX11_add 54 = .ok (.iaload, 1) := by decide +kernel
theorem dX11_add_55 : decode cX11_add 55 = .ok (.bipush 10, 2) := by decide +kernel
theorem dX11_add_57 : decode cX11_add 57 = .ok (.if_icmp .ne 6, 3) := by decide +kernel
theorem dX11_add_60 : decode cX11_add 60 = .ok (.bipush (-4), 2) := by decide +kernel
theorem dX11_add_62 : decode cX11_add 62 = .ok (.ireturn, 1) := by decide +kernel
theorem dX11_add_63 : decode cX11_add 63 = .ok (.aload_n 0, 1) := by decide +kernel
theorem dX11_add_64 : decode cX11_add 64 = .ok (.invokevirtual 151, 3) := by decide +kernel
theorem dX11_add_67 : decode cX11_add 67 = .ok (.aload_n 0, 1) := by decide +kernel
theorem dX11_add_68 : decode cX11_add 68 = .ok (.iload_n 3, 1) := by decide +kernel
theorem dX11_add_69 : decode cX11_add 69 = .ok (.invokevirtual 160, 3) := by decide +kernel
theorem dX11_add_72 : decode cX11_add 72 = .ok (.ireturn, 1) := by decide +kernel
theorem dX11_lose_0 : decode cX11_lose 0 = .ok (.aload_n 0, 1) := by decide +kernel
theorem dX11_lose_1 : decode cX11_lose 1 = .ok (.iload_n 1, 1) := by decide +kernel
theorem dX11_lose_2 : decode cX11_lose 2 = .ok (.invokevirtual 65, 3) := by decide +kernel
theorem dX11_lose_5 : decode cX11_lose 5 = .ok (.ifCond .ne 5, 3) := by decide +kernel
theorem dX11_lose_8 : decode cX11_lose 8 = .ok (.iconst (-1), 1) := by decide +kernel
theorem dX11_lose_9 : decode cX11_lose 9 = .ok (.ireturn, 1) := by decide +kernel
theorem dX11_lose_10 : decode cX11_lose 10 = .ok (.aload_n 0, 1) := by decide +kernel
theorem dX11_lose_11 : decode cX11_lose 11 = .ok (.invokevirtual 151, 3) := by decide +kernel
theorem dX11_lose_14 : decode cX11_lose 14 = .ok (.aload_n 0, 1) := by decide +kernel
theorem dX11_lose_15 : decode cX11_lose 15 = .ok (.iload_n 1, 1) := by decide +kernel
theorem dX11_lose_16 : decode cX11_lose 16 = .ok (.invokevirtual 163, 3) := by decide +kernel
theorem dX11_lose_19 : decode cX11_lose 19 = .ok (.ireturn, 1) := by decide +kernel
theorem dX11_lead_0 : decode cX11_lead 0 = .ok (.aload_n 0, 1) := by decide +kernel
theorem dX11_lead_1 : decode cX11_lead 1 = .ok (.iload_n 1, 1) := by decide +kernel
theorem dX11_lead_2 : decode cX11_lead 2 = .ok (.invokevirtual 65, 3) := by decide +kernel
theorem dX11_lead_5 : decode cX11_lead 5 = .ok (.ifCond .ne 5, 3) := by decide +kernel
theorem dX11_lead_8 : decode cX11_lead 8 = .ok (.iconst (-1), 1) := by decide +kernel
theorem dX11_lead_9 : decode cX11_lead 9 = .ok (.ireturn, 1) := by decide +kernel
theorem dX11_lead_10 : decode cX11_lead 10 = .ok (.aload_n 0, 1) := by decide +kernel
theorem dX11_lead_11 : decode cX11_lead 11 = .ok (.invokevirtual 151, 3) := by decide +kernel
theorem dX11_lead_14 : decode cX11_lead 14 = .ok (.aload_n 0, 1) := by decide +kernel
theorem dX11_lead_15 : decode cX11_lead 15 = .ok (.invokevirtual 85, 3) := by decide +kernel
theorem dX11_lead_18 : decode cX11_lead 18 = .ok (.istore_n 2, 1) := by decide +kernel
theorem dX11_lead_19 : decode cX11_lead 19 = .ok (.aload_n 0, 1) := by decide +kernel
theorem dX11_lead_20 : decode cX11_lead 20 = .ok (.getfield 9, 3) := by decide +kernel
theorem dX11_lead_23 : decode cX11_lead 23 = .ok (.iconst 1, 1) := by decide +kernel
theorem dX11_lead_24 : decode cX11_lead 24 = .ok (.iload_n 1, 1) := by decide +kernel
theorem dX11_lead_25 : decode cX11_lead 25 = .ok (.iastore, 1) := by decide +kernel
theorem dX11_lead_26 : decode cX11_lead 26 = .ok (.iload_n 2, 1) := by decide +kernel
theorem dX11_lead_27 : decode cX11_lead 27 = .ok (.ireturn, 1) := by decide +kernel
theorem dX11_target_0 : decode cX11_target 0 = .ok (.iload_n 1, 1) := by decide +kernel
theorem dX11_target_1 : decode cX11_target 1 = .ok (.iconst (-1), 1) := by decide +kernel
theorem dX11_target_2 : decode cX11_target 2 = .ok (.bipush 119, 2) := by decide +kernel
theorem dX11_target_4 : decode cX11_target 4 = .ok (.invokestatic 57, 3) := by decide +kernel
theorem dX11_target_7 : decode cX11_target 7 = .ok (.ifCond .ne 6, 3) := by decide +kernel
theorem dX11_target_10 : decode cX11_target 10 = .ok (.bipush (-2), 2) := by decide +kernel
theorem dX11_target_12 : decode cX11_target 12 = .ok (.ireturn, 1) := by decide +kernel
theorem dX11_target_13 : decode cX11_target 13 = .ok (.aload_n 0, 1) := by decide +kernel
theorem dX11_target_14 : decode cX11_target 14 = .ok (.invokevirtual 151, 3) := by decide +kernel
theorem dX11_target_17 : decode cX11_target 17 = .ok (.aload_n 0, 1) := by decide +kernel
theorem dX11_target_18 : decode cX11_target 18 = .ok (.getfield 9, 3) := by decide +kernel
theorem dX11_target_21 : decode cX11_target 21 = .ok (.iconst 2, 1) := by decide +kernel
theorem dX11_target_22 : decode cX11_target 22 = .ok (.iaload, 1) := by decide +kernel
theorem dX11_target_23 : decode cX11_target 23 = .ok (.istore_n 2, 1) := by decide +kernel
theorem dX11_target_24 : decode cX11_target 24 = .ok (.aload_n 0, 1) := by decide +kernel
theorem dX11_target_25 : decode cX11_target 25 = .ok (.getfield 9, 3) := by decide +kernel
theorem dX11_target_28 : decode cX11_target 28 = .ok (.iconst 2, 1) := by decide +kernel
theorem dX11_target_29 : decode cX11_target 29 = .ok (.iload_n 1, 1) := by decide +kernel
theorem dX11_target_30 : decode cX11_target 30 = .ok (.iastore, 1) := by decide +kernel
theorem dX11_target_31 : decode cX11_target 31 = .ok (.iload_n 2, 1) := by decide +kernel
theorem dX11_target_32 : decode cX11_target 32 = .ok (.ifCond .ge 8, 3) := by decide +kernel
theorem dX11_target_35 : decode cX11_target 35 = .ok (.bipush (-5), 2) := by decide +kernel
theorem dX11_target_37 : decode cX11_target 37 = .ok (.goto 4, 3) := by decide +kernel
theorem dX11_target_40 : decode cX11_target 40 = .ok (.iload_n 2, 1) := by decide +kernel
theorem dX11_target_41 : decode cX11_target 41 = .ok (.ireturn, 1) := by decide +kernel
theorem dX11_obstacle_0 : decode cX11_obstacle 0 = .ok (.iload_n 1, 1) := by decide +kernel
theorem dX11_obstacle_1 : decode cX11_obstacle 1 = .ok (.invokestatic 166, 3) := by decide +kernel
theorem dX11_obstacle_4 : decode cX11_obstacle 4 = .ok (.ifCond .ne 5, 3) := by decide +kernel
theorem dX11_obstacle_7 : decode cX11_obstacle 7 = .ok (.iconst (-1), 1) := by decide +kernel
theorem dX11_obstacle_8 : decode cX11_obstacle 8 = .ok (.ireturn, 1) := by decide +kernel
theorem dX11_obstacle_9 : decode cX11_obstacle 9 = .ok (.aload_n 0, 1) := by decide +kernel
theorem dX11_obstacle_10 : decode cX11_obstacle 10 = .ok (.iload_n 1, 1) := by decide +kernel
theorem dX11_obstacle_11 : decode cX11_obstacle 11 = .ok (.invokevirtual 121, 3) := by decide +kernel
theorem dX11_obstacle_14 : decode cX11_obstacle 14 = .ok (.ifCond .lt 6, 3) := by decide +kernel
theorem dX11_obstacle_17 : decode cX11_obstacle 17 = .ok (.bipush (-3), 2) := by decide +kernel
theorem dX11_obstacle_19 : decode cX11_obstacle 19 = .ok (.ireturn, 1) := by decide +kernel
theorem dX11_obstacle_20 : decode cX11_obstacle 20 = .ok (.aload_n 0, 1) := by decide +kernel
theorem dX11_obstacle_21 : decode cX11_obstacle 21 = .ok (.invokevirtual 151, 3) := by decide +kernel
theorem dX11_obstacle_24 : decode cX11_obstacle 24 = .ok (.aload_n 0, 1) := by decide +kernel
theorem dX11_obstacle_25 : decode cX11_obstacle 25 = .ok (.iload_n 1, 1) := by decide +kernel
theorem dX11_obstacle_26 : decode cX11_obstacle 26 = .ok (.invokevirtual 169, 3) := by decide +kernel
theorem dX11_obstacle_29 : decode cX11_obstacle 29 = .ok (.ireturn, 1) := by decide +kernel
theorem dX11_feed_0 : decode cX11_feed 0 = .ok (.iload_n 1, 1) := by decide +kernel
theorem dX11_feed_1 : decode cX11_feed 1 = .ok (.iconst 1, 1) := by decide +kernel
theorem dX11_feed_2 : decode cX11_feed 2 = .ok (.iconst 5, 1) := by decide +kernel
theorem dX11_feed_3 : decode cX11_feed 3 = .ok (.invokestatic 57, 3) := by decide +kernel
theorem dX11_feed_6 : decode cX11_feed 6 = .ok (.ifCond .eq 56, 3) := by decide +kernel
theorem dX11_feed_9 : decode cX11_feed 9 = .ok (.iload_n 2, 1) := by decide +kernel
theorem dX11_feed_10 : decode cX11_feed 10 = .ok (.iconst 0, 1) := by decide +kernel
theorem dX11_feed_11 : decode cX11_feed 11 = .ok (.bipush 127, 2) := by decide +kernel
theorem dX11_feed_13 : decode cX11_feed 13 = .ok (.invokestatic 57, 3) := by decide +kernel
theorem dX11_feed_16 : decode cX11_feed 16 = .ok (.ifCond .eq 46, 3) := by decide +kernel
theorem dX11_feed_19 : decode cX11_feed 19 = .ok (.iload_n 3, 1) := by decide +kernel
theorem dX11_feed_20 : decode cX11_feed 20 = .ok (.iconst 0, 1) := by decide +kernel
theorem dX11_feed_21 : decode cX11_feed 21 = .ok (.bipush 127, 2) := by decide +kernel
theorem dX11_feed_23 : decode cX11_feed 23 = .ok (.invokestatic 57, 3) := by decide +kernel
theorem dX11_feed_26 : decode cX11_feed 26 = .ok (.ifCond .eq 36, 3) := by decide +kernel
theorem dX11_feed_29 : decode cX11_feed 29 = .ok (.iload 4, 2) := by decide +kernel
theorem dX11_feed_31 : decode cX11_feed 31 = .ok (.iconst 0, 1) := by decide +kernel
theorem dX11_feed_32 : decode cX11_feed 32 = .ok (.bipush 127, 2) := by decide +kernel
theorem dX11_feed_34 : decode cX11_feed 34 = .ok (.invokestatic 57, 3) := by decide +kernel
theorem dX11_feed_37 : decode cX11_feed 37 = .ok (.ifCond .eq 25, 3) := by decide +kernel
theorem dX11_feed_40 : decode cX11_feed 40 = .ok (.iload 5, 2) := by decide +kernel
theorem dX11_feed_42 : decode cX11_feed 42 = .ok (.iconst 0, 1) := by decide +kernel
theorem dX11_feed_43 : decode cX11_feed 43 = .ok (.bipush 127, 2) := by decide +kernel
theorem dX11_feed_45 : decode cX11_feed 45 = .ok (.invokestatic 57, 3) := by decide +kernel
theorem dX11_feed_48 : decode cX11_feed 48 = .ok (.ifCond .eq 14, 3) := by decide +kernel
theorem dX11_feed_51 : decode cX11_feed 51 = .ok (.iload 6, 2) := by decide +kernel
theorem dX11_feed_53 : decode cX11_feed 53 = .ok (.iconst 0, 1) := by decide +kernel
theorem dX11_feed_54 : decode cX11_feed 54 = .ok (.bipush 127, 2) := by decide +kernel
theorem dX11_feed_56 : decode cX11_feed 56 = .ok (.invokestatic 57, 3) := by decide +kernel
theorem dX11_feed_59 : decode cX11_feed 59 = .ok (.ifCond .ne 6, 3) := by decide +kernel
theorem dX11_feed_62 : decode cX11_feed 62 = .ok (.bipush (-2), 2) := by decide +kernel
theorem dX11_feed_64 : decode cX11_feed 64 = .ok (.ireturn, 1) := by decide +kernel
theorem dX11_feed_65 : decode cX11_feed 65 = .ok (.aload_n 0, 1) := by decide +kernel
theorem dX11_feed_66 : decode cX11_feed 66 = .ok (.getfield 172, 3) := by decide +kernel
theorem dX11_feed_69 : decode cX11_feed 69 = .ok (.iload_n 1, 1) := by decide +kernel
theorem dX11_feed_70 : decode cX11_feed 70 = .ok (.iadd, 1) := by decide +kernel
theorem dX11_feed_71 : decode cX11_feed 71 = .ok (.bipush 60, 2) := by decide +kernel
theorem dX11_feed_73 : decode cX11_feed 73 = .ok (.if_icmp .le 6, 3) := by decide +kernel
theorem dX11_feed_76 : decode cX11_feed 76 = .ok (.bipush (-4), 2) := by decide +kernel
theorem dX11_feed_78 : decode cX11_feed 78 = .ok (.ireturn, 1) := by decide +kernel
theorem dX11_feed_79 : decode cX11_feed 79 = .ok (.iconst 0, 1) := by decide +kernel
theorem dX11_feed_80 : decode cX11_feed 80 = .ok (.istore 7, 2) := by decide +kernel
theorem dX11_feed_82 : decode cX11_feed 82 = .ok (.iload 7, 2) := by decide +kernel
theorem dX11_feed_84 : decode cX11_feed 84 = .ok (.iload_n 1, 1) := by decide +kernel
theorem dX11_feed_85 : decode cX11_feed 85 = .ok (.if_icmp .ge 71, 3) := by decide +kernel
theorem dX11_feed_88 : decode cX11_feed 88 = .ok (.aload_n 0, 1) := by decide +kernel
theorem dX11_feed_89 : decode cX11_feed 89 = .ok (.getfield 40, 3) := by decide +kernel
theorem dX11_feed_92 : decode cX11_feed 92 = .ok (.aload_n 0, 1) := by decide +kernel
theorem dX11_feed_93 : decode cX11_feed 93 = .ok (.getfield 172, 3) := by decide +kernel
theorem dX11_feed_96 : decode cX11_feed 96 = .ok (.iload 7, 2) := by decide +kernel
theorem dX11_feed_98 : decode cX11_feed 98 = .ok (.ifCond .ne 7, 3) := by decide +kernel
theorem dX11_feed_101 : decode cX11_feed 101 = .ok (.iload_n 2, 1) := by decide +kernel
theorem dX11_feed_102 : decode cX11_feed 102 = .ok (.goto 37, 3) := by decide +kernel
theorem dX11_feed_105 : decode cX11_feed 105 = .ok (.iload 7, 2) := by decide +kernel
theorem dX11_feed_107 : decode cX11_feed 107 = .ok (.iconst 1, 1) := by decide +kernel
theorem dX11_feed_108 : decode cX11_feed 108 = .ok (.if_icmp .ne 7, 3) := by decide +kernel
theorem dX11_feed_111 : decode cX11_feed 111 = .ok (.iload_n 3, 1) := by decide +kernel
theorem dX11_feed_112 : decode cX11_feed 112 = .ok (.goto 27, 3) := by decide +kernel
theorem dX11_feed_115 : decode cX11_feed 115 = .ok (.iload 7, 2) := by decide +kernel
theorem dX11_feed_117 : decode cX11_feed 117 = .ok (.iconst 2, 1) := by decide +kernel
theorem dX11_feed_118 : decode cX11_feed 118 = .ok (.if_icmp .ne 8, 3) := by decide +kernel
theorem dX11_feed_121 : decode cX11_feed 121 = .ok (.iload 4, 2) := by decide +kernel
theorem dX11_feed_123 : decode cX11_feed 123 = .ok (.goto 16, 3) := by decide +kernel
theorem dX11_feed_126 : decode cX11_feed 126 = .ok (.iload 7, 2) := by decide +kernel
theorem dX11_feed_128 : decode cX11_feed 128 = .ok (.iconst 3, 1) := by decide +kernel
theorem dX11_feed_129 : decode cX11_feed 129 = .ok (.if_icmp .ne 8, 3) := by decide +kernel
theorem dX11_feed_132 : decode cX11_feed 132 = .ok (.iload 5, 2) := by decide +kernel
theorem dX11_feed_134 : decode cX11_feed 134 = .ok (.goto 5, 3) := by decide +kernel
theorem dX11_feed_137 : decode cX11_feed 137 = .ok (.iload 6, 2) := by decide +kernel
theorem dX11_feed_139 : decode cX11_feed 139 = .ok (.iastore, 1) := by decide +kernel
theorem dX11_feed_140 : decode cX11_feed 140 = .ok (.aload_n 0, 1) := by decide +kernel
theorem dX11_feed_141 : decode cX11_feed 141 = .ok (.dup, 1) := by decide +kernel
theorem dX11_feed_142 : decode cX11_feed 142 = .ok (.getfield 172, 3) := by decide +kernel
theorem dX11_feed_145 : decode cX11_feed 145 = .ok (.iconst 1, 1) := by decide +kernel
theorem dX11_feed_146 : decode cX11_feed 146 = .ok (.iadd, 1) := by decide +kernel
theorem dX11_feed_147 : decode cX11_feed 147 = .ok (.putfield 172, 3) := by decide +kernel
theorem dX11_feed_150 : decode cX11_feed 150 = .ok (.iinc 7 1, 3) := by decide +kernel
theorem dX11_feed_153 : decode cX11_feed 153 = .ok (.goto (-71), 3) := by decide +kernel
theorem dX11_feed_156 : decode cX11_feed 156 = .ok (.aload_n 0, 1) := by decide +kernel
theorem dX11_feed_157 : decode cX11_feed 157 = .ok (.getfield 172, 3) := by decide +kernel
theorem dX11_feed_160 : decode cX11_feed 160 = .ok (.ireturn, 1) := by decide +kernel
theorem dX11_here_0 : decode cX11_here 0 = .ok (.aload_n 0, 1) := by decide +kernel
theorem dX11_here_1 : decode cX11_here 1 = .ok (.getfield 175, 3) := by decide +kernel
theorem dX11_here_4 : decode cX11_here 4 = .ok (.aload_n 0, 1) := by decide +kernel
theorem dX11_here_5 : decode cX11_here 5 = .ok (.getfield 172, 3) := by decide +kernel
theorem dX11_here_8 : decode cX11_here 8 = .ok (.if_icmp .ge 15, 3) := by decide +kernel
theorem dX11_here_11 : decode cX11_here 11 = .ok (.aload_n 0, 1) := by decide +kernel
theorem dX11_here_12 : decode cX11_here 12 = .ok (.getfield 40, 3) := by decide +kernel
theorem dX11_here_15 : decode cX11_here 15 = .ok (.aload_n 0, 1) := by decide +kernel
theorem dX11_here_16 : decode cX11_here 16 = .ok (.getfield 175, 3) := by decide +kernel
theorem dX11_here_19 : decode cX11_here 19 = .ok (.iaload, 1) := by decide +kernel
theorem dX11_here_20 : decode cX11_here 20 = .ok (.goto 4, 3) := by decide +kernel
theorem dX11_here_23 : decode cX11_here 23 = .ok (.iconst (-1), 1) := by decide +kernel
theorem dX11_here_24 : decode cX11_here 24 = .ok (.ireturn, 1) := by decide +kernel
theorem dX11_readsShape_0 : decode cX11_readsShape 0 = .ok (.iconst 0, 1) := by decide +kernel
theorem dX11_readsShape_1 : decode cX11_readsShape 1 = .ok (.istore_n 1, 1) := by decide +kernel
theorem dX11_readsShape_2 : decode cX11_readsShape 2 = .ok (.iconst 0, 1) := by decide +kernel
theorem dX11_readsShape_3 : decode cX11_readsShape 3 = .ok (.istore_n 2, 1) := by decide +kernel
theorem dX11_readsShape_4 : decode cX11_readsShape 4 = .ok (.aload_n 0, 1) := by decide +kernel
theorem dX11_readsShape_5 : decode cX11_readsShape 5 = .ok (.getfield 43, 3) := by decide +kernel
theorem dX11_readsShape_8 : decode cX11_readsShape 8 = .ok (.iconst 0, 1) := by decide +kernel
theorem dX11_readsShape_9 : decode cX11_readsShape 9 = .ok (.iconst 0, 1) := by decide +kernel
theorem dX11_readsShape_10 : decode cX11_readsShape 10 = .ok (.iastore, 1) := by decide +kernel
theorem dX11_readsShape_11 : decode cX11_readsShape 11 = .ok (.aload_n 0, 1) := by decide +kernel
theorem dX11_readsShape_12 : decode cX11_readsShape 12 = .ok (.getfield 43, 3) := by decide +kernel
theorem dX11_readsShape_15 : decode cX11_readsShape 15 = .ok (.iconst 1, 1) := by decide +kernel
theorem dX11_readsShape_16 : decode cX11_readsShape 16 = .ok (.iconst (-1), 1) := by decide +kernel
theorem dX11_readsShape_17 : decode cX11_readsShape 17 = .ok (.iastore, 1) := by decide +kernel
theorem dX11_readsShape_18 : decode cX11_readsShape 18 = .ok (.aload_n 0, 1) := by decide +kernel
theorem dX11_readsShape_19 : decode cX11_readsShape 19 = .ok (.iconst 0, 1) := by decide +kernel
theorem dX11_readsShape_20 : decode cX11_readsShape 20 = .ok (.putfield 175, 3) := by decide +kernel
theorem dX11_readsShape_23 : decode cX11_readsShape 23 = .ok (.aload_n 0, 1) := by decide +kernel
theorem dX11_readsShape_24 : decode cX11_readsShape 24 = .ok (.iconst (-1), 1) := by decide +kernel
theorem dX11_readsShape_25 : decode cX11_readsShape 25 = .ok (.putfield 178, 3) := by decide +kernel
theorem dX11_readsShape_28 : decode cX11_readsShape 28 = .ok (.aload_n 0, 1) := by decide +kernel
theorem dX11_readsShape_29 : decode cX11_readsShape 29 = .ok (.getfield 178, 3) := by decide +kernel
theorem dX11_readsShape_32 : decode cX11_readsShape 32 = .ok (.ifCond .ge 234, 3) := by decide +kernel
theorem dX11_readsShape_35 : decode cX11_readsShape 35 = .ok (.aload_n 0, 1) := by decide +kernel
theorem dX11_readsShape_36 : decode cX11_readsShape 36 = .ok (.getfield 175, 3) := by decide +kernel
theorem dX11_readsShape_39 : decode cX11_readsShape 39 = .ok (.aload_n 0, 1) := by decide +kernel
theorem dX11_readsShape_40 : decode cX11_readsShape 40 = .ok (.getfield 172, 3) := by decide +kernel
theorem dX11_readsShape_43 : decode cX11_readsShape 43 = .ok (.if_icmp .lt 7, 3) := by decide +kernel
theorem dX11_readsShape_46 : decode cX11_readsShape 46 = .ok (.iload_n 2, 1) := by decide +kernel
theorem dX11_readsShape_47 : decode cX11_readsShape 47 = .ok (.ifCond .ne 219, 3) := by decide +kernel
theorem dX11_readsShape_50 : decode cX11_readsShape 50 = .ok (.aload_n 0, 1) := by decide +kernel
theorem dX11_readsShape_51 : decode cX11_readsShape 51 = .ok (.invokevirtual 181, 3) := by decide +kernel
theorem dX11_readsShape_54 : decode cX11_readsShape 54 = .ok (.istore_n 3, 1) := by decide +kernel
theorem dX11_readsShape_55 : decode cX11_readsShape 55 = .ok (.iload_n 3, 1) := by decide +kernel
theorem dX11_readsShape_56 : decode cX11_readsShape 56 = .ok (.bipush 35, 2) := by decide +kernel
theorem dX11_readsShape_58 : decode cX11_readsShape 58 = .ok (.if_icmp .eq 9, 3) := by decide +kernel
theorem dX11_readsShape_61 : decode cX11_readsShape 61 = .ok (.iload_n 3, 1) := by decide +kernel
theorem dX11_readsShape_62 : decode cX11_readsShape 62 = .ok (.bipush 42, 2) := by decide +kernel
theorem dX11_readsShape_64 : decode cX11_readsShape 64 = .ok (.if_icmp .ne 7, 3) := by decide +kernel
theorem dX11_readsShape_67 : decode cX11_readsShape 67 = .ok (.iconst 1, 1) := by decide +kernel
theorem dX11_readsShape_68 : decode cX11_readsShape 68 = .ok (.goto 4, 3) := by decide +kernel
theorem dX11_readsShape_71 : decode cX11_readsShape 71 = .ok (.iconst 0, 1) := by decide +kernel
theorem dX11_readsShape_72 : decode cX11_readsShape 72 = .ok (.istore 4, 2) := by decide +kernel
theorem dX11_readsShape_74 : decode cX11_readsShape 74 = .ok (.iload_n 3, 1) := by decide +kernel
theorem dX11_readsShape_75 : decode cX11_readsShape 75 = .ok (.bipush 47, 2) := by decide +kernel
theorem dX11_readsShape_77 : decode cX11_readsShape 77 = .ok (.if_icmp .ne 42, 3) := by decide +kernel
theorem dX11_readsShape_80 : decode cX11_readsShape 80 = .ok (.aload_n 0, 1) := by decide +kernel
theorem dX11_readsShape_81 : decode cX11_readsShape 81 = .ok (.iload_n 2, 1) := by decide +kernel
theorem dX11_readsShape_82 : decode cX11_readsShape 82 = .ok (.ifCond .eq 8, 3) := by decide +kernel
theorem dX11_readsShape_85 : decode cX11_readsShape 85 = .ok (.iload_n 1, 1) := by decide +kernel
theorem dX11_readsShape_86 : decode cX11_readsShape 86 = .ok (.iconst 5, 1) := by decide +kernel
theorem dX11_readsShape_87 : decode cX11_readsShape 87 = .ok (.if_icmp .ne 10, 3) := by decide +kernel
theorem dX11_readsShape_90 : decode cX11_readsShape 90 = .ok (.aload_n 0, 1) := by decide +kernel
theorem dX11_readsShape_91 : decode cX11_readsShape 91 = .ok (.getfield 175, 3) := by decide +kernel
theorem dX11_readsShape_94 : decode cX11_readsShape 94 = .ok (.goto 4, 3) := by decide +kernel
theorem dX11_readsShape_97 : decode cX11_readsShape 97 = .ok (.iconst (-1), 1) := by decide +kernel
theorem dX11_readsShape_98 : decode cX11_readsShape 98 = .ok (.putfield 178, 3) := by decide +kernel
theorem dX11_readsShape_101 : decode cX11_readsShape 101 = .ok (.iinc 1 1, 3) := by decide +kernel
theorem dX11_readsShape_104 : decode cX11_readsShape 104 = .ok (.iconst 0, 1) := by decide +kernel
theorem dX11_readsShape_105 : decode cX11_readsShape 105 = .ok (.istore_n 2, 1) := by decide +kernel
theorem dX11_readsShape_106 : decode cX11_readsShape 106 = .ok (.aload_n 0, 1) := by decide +kernel
theorem dX11_readsShape_107 : decode cX11_readsShape 107 = .ok (.dup, 1) := by decide +kernel
theorem dX11_readsShape_108 : decode cX11_readsShape 108 = .ok (.getfield 175, 3) := by decide +kernel
theorem dX11_readsShape_111 : decode cX11_readsShape 111 = .ok (.iconst 1, 1) := by decide +kernel
theorem dX11_readsShape_112 : decode cX11_readsShape 112 = .ok (.iadd, 1) := by decide +kernel
theorem dX11_readsShape_113 : decode cX11_readsShape 113 = .ok (.putfield 175, 3) := by decide +kernel
theorem dX11_readsShape_116 : decode cX11_readsShape 116 = .ok (.goto (-88), 3) := by decide +kernel
theorem dX11_readsShape_119 : decode cX11_readsShape 119 = .ok (.iload 4, 2) := by decide +kernel
theorem dX11_readsShape_121 : decode cX11_readsShape 121 = .ok (.ifCond .ne 9, 3) := by decide +kernel
theorem dX11_readsShape_124 : decode cX11_readsShape 124 = .ok (.iload_n 3, 1) := by decide +kernel
theorem dX11_readsShape_125 : decode cX11_readsShape 125 = .ok (.bipush 46, 2) := by decide +kernel
theorem dX11_readsShape_127 : decode cX11_readsShape 127 = .ok (.if_icmp .ne 40, 3) := by decide +kernel
theorem dX11_readsShape_130 : decode cX11_readsShape 130 = .ok (.iload_n 2, 1) := by decide +kernel
theorem dX11_readsShape_131 : decode cX11_readsShape 131 = .ok (.bipush 6, 2) := by decide +kernel
theorem dX11_readsShape_133 : decode cX11_readsShape 133 = .ok (.if_icmp .eq 34, 3) := by decide +kernel
theorem dX11_readsShape_136 : decode cX11_readsShape 136 = .ok (.iload 4, 2) := by decide +kernel
theorem dX11_readsShape_138 : decode cX11_readsShape 138 = .ok (.ifCond .eq 14, 3) := by decide +kernel
theorem dX11_readsShape_141 : decode cX11_readsShape 141 = .ok (.aload_n 0, 1) := by decide +kernel
theorem dX11_readsShape_142 : decode cX11_readsShape 142 = .ok (.getfield 43, 3) := by decide +kernel
theorem dX11_readsShape_145 : decode cX11_readsShape 145 = .ok (.iconst 0, 1) := by decide +kernel
theorem dX11_readsShape_146 : decode cX11_readsShape 146 = .ok (.iaload, 1) := by decide +kernel
theorem dX11_readsShape_147 : decode cX11_readsShape 147 = .ok (.bipush 10, 2) := by decide +kernel
theorem dX11_readsShape_149 : decode cX11_readsShape 149 = .ok (.if_icmp .eq 18, 3) := by decide +kernel
theorem dX11_readsShape_152 : decode cX11_readsShape 152 = .ok (.iload_n 3, 1) := by decide +kernel
theorem dX11_readsShape_153 : decode cX11_readsShape 153 = .ok (.bipush 42, 2) := by decide +kernel
theorem dX11_readsShape_155 : decode cX11_readsShape 155 = .ok (.if_icmp .ne 21, 3) := by decide +kernel
theorem dX11_readsShape_158 : decode cX11_readsShape 158 = .ok (.aload_n 0, 1) := by decide +kernel
theorem dX11_readsShape_159 : decode cX11_readsShape 159 = .ok (.getfield 43, 3) := by decide +kernel
theorem dX11_readsShape_162 : decode cX11_readsShape 162 = .ok (.iconst 1, 1) := by decide +kernel
theorem dX11_readsShape_163 : decode cX11_readsShape 163 = .ok (.iaload, 1) := by decide +kernel
theorem dX11_readsShape_164 : decode cX11_readsShape 164 = .ok (.ifCond .lt 12, 3) := by decide +kernel
theorem dX11_readsShape_167 : decode cX11_readsShape 167 = .ok (.aload_n 0, 1) := by decide +kernel
theorem dX11_readsShape_168 : decode cX11_readsShape 168 = .ok (.aload_n 0, 1) := by decide +kernel
theorem dX11_readsShape_169 : decode cX11_readsShape 169 = .ok (.getfield 175, 3) := by decide +kernel
theorem dX11_readsShape_172 : decode cX11_readsShape 172 = .ok (.putfield 178, 3) := by decide +kernel
theorem dX11_readsShape_175 : decode cX11_readsShape 175 = .ok (.return_, 1) := by decide +kernel
theorem dX11_readsShape_176 : decode cX11_readsShape 176 = .ok (.iload 4, 2) := by decide +kernel
theorem dX11_readsShape_178 : decode cX11_readsShape 178 = .ok (.ifCond .eq 72, 3) := by decide +kernel
theorem dX11_readsShape_181 : decode cX11_readsShape 181 = .ok (.aload_n 0, 1) := by decide +kernel
theorem dX11_readsShape_182 : decode cX11_readsShape 182 = .ok (.getfield 43, 3) := by decide +kernel
theorem dX11_readsShape_185 : decode cX11_readsShape 185 = .ok (.iconst 1, 1) := by decide +kernel
theorem dX11_readsShape_186 : decode cX11_readsShape 186 = .ok (.iload_n 3, 1) := by decide +kernel
theorem dX11_readsShape_187 : decode cX11_readsShape 187 = .ok (.bipush 42, 2) := by decide +kernel
theorem dX11_readsShape_189 : decode cX11_readsShape 189 = .ok (.if_icmp .ne 12, 3) := by decide +kernel
theorem dX11_readsShape_192 : decode cX11_readsShape 192 = .ok (.aload_n 0, 1) := by decide +kernel
theorem dX11_readsShape_193 : decode cX11_readsShape 193 = .ok (.getfield 43, 3) := by decide +kernel
theorem dX11_readsShape_196 : decode cX11_readsShape 196 = .ok (.iconst 0, 1) := by decide +kernel
theorem dX11_readsShape_197 : decode cX11_readsShape 197 = .ok (.iaload, 1) := by decide +kernel
theorem dX11_readsShape_198 : decode cX11_readsShape 198 = .ok (.goto 9, 3) := by decide +kernel
theorem dX11_readsShape_201 : decode cX11_readsShape 201 = .ok (.aload_n 0, 1) := by decide +kernel
theorem dX11_readsShape_202 : decode cX11_readsShape 202 = .ok (.getfield 43, 3) := by decide +kernel
theorem dX11_readsShape_205 : decode cX11_readsShape 205 = .ok (.iconst 1, 1) := by decide +kernel
theorem dX11_readsShape_206 : decode cX11_readsShape 206 = .ok (.iaload, 1) := by decide +kernel
theorem dX11_readsShape_207 : decode cX11_readsShape 207 = .ok (.iastore, 1) := by decide +kernel
theorem dX11_readsShape_208 : decode cX11_readsShape 208 = .ok (.aload_n 0, 1) := by decide +kernel
theorem dX11_readsShape_209 : decode cX11_readsShape 209 = .ok (.getfield 43, 3) := by decide +kernel
theorem dX11_readsShape_212 : decode cX11_readsShape 212 = .ok (.iconst 2, 1) := by decide +kernel
theorem dX11_readsShape_213 : decode cX11_readsShape 213 = .ok (.iconst 2, 1) := by decide +kernel
theorem dX11_readsShape_214 : decode cX11_readsShape 214 = .ok (.aload_n 0, 1) := by decide +kernel
theorem dX11_readsShape_215 : decode cX11_readsShape 215 = .ok (.getfield 43, 3) := by decide +kernel
theorem dX11_readsShape_218 : decode cX11_readsShape 218 = .ok (.iconst 0, 1) := by decide +kernel
theorem dX11_readsShape_219 : decode cX11_readsShape 219 = .ok (.iaload, 1) := by decide +kernel
theorem dX11_readsShape_220 : decode cX11_readsShape 220 = .ok (.imul, 1) := by decide +kernel
theorem dX11_readsShape_221 : decode cX11_readsShape 221 = .ok (.iadd, 1) := by decide +kernel
theorem dX11_readsShape_222 : decode cX11_readsShape 222 = .ok (.iload_n 2, 1) := by decide +kernel
theorem dX11_readsShape_223 : decode cX11_readsShape 223 = .ok (.iastore, 1) := by decide +kernel
theorem dX11_readsShape_224 : decode cX11_readsShape 224 = .ok (.aload_n 0, 1) := by decide +kernel
theorem dX11_readsShape_225 : decode cX11_readsShape 225 = .ok (.getfield 43, 3) := by decide +kernel
theorem dX11_readsShape_228 : decode cX11_readsShape 228 = .ok (.iconst 3, 1) := by decide +kernel
theorem dX11_readsShape_229 : decode cX11_readsShape 229 = .ok (.iconst 2, 1) := by decide +kernel
theorem dX11_readsShape_230 : decode cX11_readsShape 230 = .ok (.aload_n 0, 1) := by decide +kernel
theorem dX11_readsShape_231 : decode cX11_readsShape 231 = .ok (.getfield 43, 3) := by decide +kernel
theorem dX11_readsShape_234 : decode cX11_readsShape 234 = .ok (.iconst 0, 1) := by decide +kernel
theorem dX11_readsShape_235 : decode cX11_readsShape 235 = .ok (.iaload, 1) := by decide +kernel
theorem dX11_readsShape_236 : decode cX11_readsShape 236 = .ok (.imul, 1) := by decide +kernel
theorem dX11_readsShape_237 : decode cX11_readsShape 237 = .ok (.iadd, 1) := by decide +kernel
theorem dX11_readsShape_238 : decode cX11_readsShape 238 = .ok (.iload_n 1, 1) := by decide +kernel
theorem dX11_readsShape_239 : decode cX11_readsShape 239 = .ok (.iastore, 1) := by decide +kernel
theorem dX11_readsShape_240 : decode cX11_readsShape 240 = .ok (.aload_n 0, 1) := by decide +kernel
theorem dX11_readsShape_241 : decode cX11_readsShape 241 = .ok (.getfield 43, 3) := by decide +kernel
theorem dX11_readsShape_244 : decode cX11_readsShape 244 = .ok (.iconst 0, 1) := by decide +kernel
theorem dX11_readsShape_245 : decode cX11_readsShape 245 = .ok (.dup2, 1) := by decide +kernel
theorem dX11_readsShape_246 : decode cX11_readsShape 246 = .ok (.iaload, 1) := by decide +kernel
theorem dX11_readsShape_247 : decode cX11_readsShape 247 = .ok (.iconst 1, 1) := by decide +kernel
theorem dX11_readsShape_248 : decode cX11_readsShape 248 = .ok (.iadd, 1) := by decide +kernel
theorem dX11_readsShape_249 : decode cX11_readsShape 249 = .ok (.iastore, 1) := by decide +kernel
theorem dX11_readsShape_250 : decode cX11_readsShape 250 = .ok (.iinc 2 1, 3) := by decide +kernel
theorem dX11_readsShape_253 : decode cX11_readsShape 253 = .ok (.aload_n 0, 1) := by decide +kernel
theorem dX11_readsShape_254 : decode cX11_readsShape 254 = .ok (.dup, 1) := by decide +kernel
theorem dX11_readsShape_255 : decode cX11_readsShape 255 = .ok (.getfield 175, 3) := by decide +kernel
theorem dX11_readsShape_258 : decode cX11_readsShape 258 = .ok (.iconst 1, 1) := by decide +kernel
theorem dX11_readsShape_259 : decode cX11_readsShape 259 = .ok (.iadd, 1) := by decide +kernel
theorem dX11_readsShape_260 : decode cX11_readsShape 260 = .ok (.putfield 175, 3) := by decide +kernel
theorem dX11_readsShape_263 : decode cX11_readsShape 263 = .ok (.goto (-235), 3) := by decide +kernel
theorem dX11_readsShape_266 : decode cX11_readsShape 266 = .ok (.aload_n 0, 1) := by decide +kernel
theorem dX11_readsShape_267 : decode cX11_readsShape 267 = .ok (.getfield 178, 3) := by decide +kernel
theorem dX11_readsShape_270 : decode cX11_readsShape 270 = .ok (.ifCond .ge 20, 3) := by decide +kernel
theorem dX11_readsShape_273 : decode cX11_readsShape 273 = .ok (.aload_n 0, 1) := by decide +kernel
theorem dX11_readsShape_274 : decode cX11_readsShape 274 = .ok (.getfield 43, 3) := by decide +kernel
theorem dX11_readsShape_277 : decode cX11_readsShape 277 = .ok (.iconst 1, 1) := by decide +kernel
theorem dX11_readsShape_278 : decode cX11_readsShape 278 = .ok (.iaload, 1) := by decide +kernel
theorem dX11_readsShape_279 : decode cX11_readsShape 279 = .ok (.ifCond .ge 11, 3) := by decide +kernel
theorem dX11_readsShape_282 : decode cX11_readsShape 282 = .ok (.aload_n 0, 1) := by decide +kernel
theorem dX11_readsShape_283 : decode cX11_readsShape 283 = .ok (.aload_n 0, 1) := by decide +kernel
theorem dX11_readsShape_284 : decode cX11_readsShape 284 = .ok (.getfield 172, 3) := by decide +kernel
theorem dX11_readsShape_287 : decode cX11_readsShape 287 = .ok (.putfield 178, 3) := by decide +kernel
theorem dX11_readsShape_290 : decode cX11_readsShape 290 = .ok (.return_, 1) := by decide +kernel
theorem dX11_shape_0 : decode cX11_shape 0 = .ok (.iload_n 1, 1) := by decide +kernel
theorem dX11_shape_1 : decode cX11_shape 1 = .ok (.iconst 0, 1) := by decide +kernel
theorem dX11_shape_2 : decode cX11_shape 2 = .ok (.iconst 2, 1) := by decide +kernel
theorem dX11_shape_3 : decode cX11_shape 3 = .ok (.invokestatic 57, 3) := by decide +kernel
theorem dX11_shape_6 : decode cX11_shape 6 = .ok (.ifCond .ne 5, 3) := by decide +kernel
theorem dX11_shape_9 : decode cX11_shape 9 = .ok (.iconst (-1), 1) := by decide +kernel
theorem dX11_shape_10 : decode cX11_shape 10 = .ok (.ireturn, 1) := by decide +kernel
theorem dX11_shape_11 : decode cX11_shape 11 = .ok (.aload_n 0, 1) := by decide +kernel
theorem dX11_shape_12 : decode cX11_shape 12 = .ok (.invokevirtual 184, 3) := by decide +kernel
theorem dX11_shape_15 : decode cX11_shape 15 = .ok (.aload_n 0, 1) := by decide +kernel
theorem dX11_shape_16 : decode cX11_shape 16 = .ok (.iconst 0, 1) := by decide +kernel
theorem dX11_shape_17 : decode cX11_shape 17 = .ok (.putfield 172, 3) := by decide +kernel
theorem dX11_shape_20 : decode cX11_shape 20 = .ok (.aload_n 0, 1) := by decide +kernel
theorem dX11_shape_21 : decode cX11_shape 21 = .ok (.getfield 178, 3) := by decide +kernel
theorem dX11_shape_24 : decode cX11_shape 24 = .ok (.ifCond .lt 11, 3) := by decide +kernel
theorem dX11_shape_27 : decode cX11_shape 27 = .ok (.bipush (-100), 2) := by decide +kernel
theorem dX11_shape_29 : decode cX11_shape 29 = .ok (.aload_n 0, 1) := by decide +kernel
theorem dX11_shape_30 : decode cX11_shape 30 = .ok (.getfield 178, 3) := by decide +kernel
theorem dX11_shape_33 : decode cX11_shape 33 = .ok (.isub, 1) := by decide +kernel
theorem dX11_shape_34 : decode cX11_shape 34 = .ok (.ireturn, 1) := by decide +kernel
theorem dX11_shape_35 : decode cX11_shape 35 = .ok (.aload_n 0, 1) := by decide +kernel
theorem dX11_shape_36 : decode cX11_shape 36 = .ok (.invokevirtual 151, 3) := by decide +kernel
theorem dX11_shape_39 : decode cX11_shape 39 = .ok (.iconst 0, 1) := by decide +kernel
theorem dX11_shape_40 : decode cX11_shape 40 = .ok (.istore_n 2, 1) := by decide +kernel
theorem dX11_shape_41 : decode cX11_shape 41 = .ok (.iload_n 2, 1) := by decide +kernel
theorem dX11_shape_42 : decode cX11_shape 42 = .ok (.iconst 2, 1) := by decide +kernel
theorem dX11_shape_43 : decode cX11_shape 43 = .ok (.iconst 2, 1) := by decide +kernel
theorem dX11_shape_44 : decode cX11_shape 44 = .ok (.aload_n 0, 1) := by decide +kernel
theorem dX11_shape_45 : decode cX11_shape 45 = .ok (.getfield 43, 3) := by decide +kernel
theorem dX11_shape_48 : decode cX11_shape 48 = .ok (.iconst 0, 1) := by decide +kernel
theorem dX11_shape_49 : decode cX11_shape 49 = .ok (.iaload, 1) := by decide +kernel
theorem dX11_shape_50 : decode cX11_shape 50 = .ok (.imul, 1) := by decide +kernel
theorem dX11_shape_51 : decode cX11_shape 51 = .ok (.iadd, 1) := by decide +kernel
theorem dX11_shape_52 : decode cX11_shape 52 = .ok (.if_icmp .ge 26, 3) := by decide +kernel
theorem dX11_shape_55 : decode cX11_shape 55 = .ok (.aload_n 0, 1) := by decide +kernel
theorem dX11_shape_56 : decode cX11_shape 56 = .ok (.getfield 9, 3) := by decide +kernel
theorem dX11_shape_59 : decode cX11_shape 59 = .ok (.iload_n 1, 1) := by decide +kernel
theorem dX11_shape_60 : decode cX11_shape 60 = .ok (.invokestatic 78, 3) := by decide +kernel
theorem dX11_shape_63 : decode cX11_shape 63 = .ok (.iload_n 2, 1) := by decide +kernel
theorem dX11_shape_64 : decode cX11_shape 64 = .ok (.iadd, 1) := by decide +kernel
theorem dX11_shape_65 : decode cX11_shape 65 = .ok (.aload_n 0, 1) := by decide +kernel
theorem dX11_shape_66 : decode cX11_shape 66 = .ok (.getfield 43, 3) := by decide +kernel
theorem dX11_shape_69 : decode cX11_shape 69 = .ok (.iload_n 2, 1) := by decide +kernel
theorem dX11_shape_70 : decode cX11_shape 70 = .ok (.iaload, 1) := by decide +kernel
theorem dX11_shape_71 : decode cX11_shape 71 = .ok (.iastore, 1) := by decide +kernel
theorem dX11_shape_72 : decode cX11_shape 72 = .ok (.iinc 2 1, 3) := by decide +kernel
theorem dX11_shape_75 : decode cX11_shape 75 = .ok (.goto (-34), 3) := by decide +kernel
theorem dX11_shape_78 : decode cX11_shape 78 = .ok (.aload_n 0, 1) := by decide +kernel
theorem dX11_shape_79 : decode cX11_shape 79 = .ok (.getfield 43, 3) := by decide +kernel
theorem dX11_shape_82 : decode cX11_shape 82 = .ok (.iconst 0, 1) := by decide +kernel
theorem dX11_shape_83 : decode cX11_shape 83 = .ok (.iaload, 1) := by decide +kernel
theorem dX11_shape_84 : decode cX11_shape 84 = .ok (.ireturn, 1) := by decide +kernel
theorem dX11_choose_0 : decode cX11_choose 0 = .ok (.iload_n 1, 1) := by decide +kernel
theorem dX11_choose_1 : decode cX11_choose 1 = .ok (.iconst 0, 1) := by decide +kernel
theorem dX11_choose_2 : decode cX11_choose 2 = .ok (.iconst 2, 1) := by decide +kernel
theorem dX11_choose_3 : decode cX11_choose 3 = .ok (.invokestatic 57, 3) := by decide +kernel
theorem dX11_choose_6 : decode cX11_choose 6 = .ok (.ifCond .ne 5, 3) := by decide +kernel
theorem dX11_choose_9 : decode cX11_choose 9 = .ok (.iconst (-1), 1) := by decide +kernel
theorem dX11_choose_10 : decode cX11_choose 10 = .ok (.ireturn, 1) := by decide +kernel
theorem dX11_choose_11 : decode cX11_choose 11 = .ok (.aload_n 0, 1) := by decide +kernel
theorem dX11_choose_12 : decode cX11_choose 12 = .ok (.invokevirtual 151, 3) := by decide +kernel
theorem dX11_choose_15 : decode cX11_choose 15 = .ok (.aload_n 0, 1) := by decide +kernel
theorem dX11_choose_16 : decode cX11_choose 16 = .ok (.getfield 9, 3) := by decide +kernel
theorem dX11_choose_19 : decode cX11_choose 19 = .ok (.iconst 3, 1) := by decide +kernel
theorem dX11_choose_20 : decode cX11_choose 20 = .ok (.iaload, 1) := by decide +kernel
theorem dX11_choose_21 : decode cX11_choose 21 = .ok (.istore_n 2, 1) := by decide +kernel
theorem dX11_choose_22 : decode cX11_choose 22 = .ok (.aload_n 0, 1) := by decide +kernel
theorem dX11_choose_23 : decode cX11_choose 23 = .ok (.getfield 9, 3) := by decide +kernel
theorem dX11_choose_26 : decode cX11_choose 26 = .ok (.iconst 3, 1) := by decide +kernel
theorem dX11_choose_27 : decode cX11_choose 27 = .ok (.iload_n 1, 1) := by decide +kernel
theorem dX11_choose_28 : decode cX11_choose 28 = .ok (.iastore, 1) := by decide +kernel
theorem dX11_choose_29 : decode cX11_choose 29 = .ok (.iload_n 2, 1) := by decide +kernel
theorem dX11_choose_30 : decode cX11_choose 30 = .ok (.ireturn, 1) := by decide +kernel
theorem dX11_number_0 : decode cX11_number 0 = .ok (.aload_n 0, 1) := by decide +kernel
theorem dX11_number_1 : decode cX11_number 1 = .ok (.getfield 178, 3) := by decide +kernel
theorem dX11_number_4 : decode cX11_number 4 = .ok (.ifCond .ge 25, 3) := by decide +kernel
theorem dX11_number_7 : decode cX11_number 7 = .ok (.aload_n 0, 1) := by decide +kernel
theorem dX11_number_8 : decode cX11_number 8 = .ok (.invokevirtual 181, 3) := by decide +kernel
theorem dX11_number_11 : decode cX11_number 11 = .ok (.bipush 48, 2) := by decide +kernel
theorem dX11_number_13 : decode cX11_number 13 = .ok (.bipush 57, 2) := by decide +kernel
theorem dX11_number_15 : decode cX11_number 15 = .ok (.invokestatic 57, 3) := by decide +kernel
theorem dX11_number_18 : decode cX11_number 18 = .ok (.ifCond .ne 11, 3) := by decide +kernel
theorem dX11_number_21 : decode cX11_number 21 = .ok (.aload_n 0, 1) := by decide +kernel
theorem dX11_number_22 : decode cX11_number 22 = .ok (.aload_n 0, 1) := by decide +kernel
theorem dX11_number_23 : decode cX11_number 23 = .ok (.getfield 175, 3) := by decide +kernel
theorem dX11_number_26 : decode cX11_number 26 = .ok (.putfield 178, 3) := by decide +kernel
theorem dX11_number_29 : decode cX11_number 29 = .ok (.iconst 0, 1) := by decide +kernel
theorem dX11_number_30 : decode cX11_number 30 = .ok (.istore_n 1, 1) := by decide +kernel
theorem dX11_number_31 : decode cX11_number 31 = .ok (.iconst 0, 1) := by decide +kernel
theorem dX11_number_32 : decode cX11_number 32 = .ok (.istore_n 2, 1) := by decide +kernel
theorem dX11_number_33 : decode cX11_number 33 = .ok (.iload_n 2, 1) := by decide +kernel
theorem dX11_number_34 : decode cX11_number 34 = .ok (.iconst 2, 1) := by decide +kernel
theorem dX11_number_35 : decode cX11_number 35 = .ok (.if_icmp .ge 53, 3) := by decide +kernel
theorem dX11_number_38 : decode cX11_number 38 = .ok (.aload_n 0, 1) := by decide +kernel
theorem dX11_number_39 : decode cX11_number 39 = .ok (.getfield 178, 3) := by decide +kernel
theorem dX11_number_42 : decode cX11_number 42 = .ok (.ifCond .ge 46, 3) := by decide +kernel
theorem dX11_number_45 : decode cX11_number 45 = .ok (.aload_n 0, 1) := by decide +kernel
theorem dX11_number_46 : decode cX11_number 46 = .ok (.invokevirtual 181, 3) := by decide +kernel
theorem dX11_number_49 : decode cX11_number 49 = .ok (.bipush 48, 2) := by decide +kernel
theorem dX11_number_51 : decode cX11_number 51 = .ok (.bipush 57, 2) := by decide +kernel
theorem dX11_number_53 : decode cX11_number 53 = .ok (.invokestatic 57, 3) := by decide +kernel
theorem dX11_number_56 : decode cX11_number 56 = .ok (.ifCond .eq 32, 3) := by decide +kernel
theorem dX11_number_59 : decode cX11_number 59 = .ok (.bipush 10, 2) := by decide +kernel
theorem dX11_number_61 : decode cX11_number 61 = .ok (.iload_n 1, 1) := by decide +kernel
theorem dX11_number_62 : decode cX11_number 62 = .ok (.imul, 1) := by decide +kernel
theorem dX11_number_63 : decode cX11_number 63 = .ok (.aload_n 0, 1) := by decide +kernel
theorem dX11_number_64 : decode cX11_number 64 = .ok (.invokevirtual 181, 3) := by decide +kernel
theorem dX11_number_67 : decode cX11_number 67 = .ok (.iadd, 1) := by decide +kernel
theorem dX11_number_68 : decode cX11_number 68 = .ok (.bipush 48, 2) := by decide +kernel
theorem dX11_number_70 : decode cX11_number 70 = .ok (.isub, 1) := by decide +kernel
theorem dX11_number_71 : decode cX11_number 71 = .ok (.istore_n 1, 1) := by decide +kernel
theorem dX11_number_72 : decode cX11_number 72 = .ok (.aload_n 0, 1) := by decide +kernel
theorem dX11_number_73 : decode cX11_number 73 = .ok (.dup, 1) := by decide +kernel
theorem dX11_number_74 : decode cX11_number 74 = .ok (.getfield 175, 3) := by decide +kernel
theorem dX11_number_77 : decode cX11_number 77 = .ok (.iconst 1, 1) := by decide +kernel
theorem dX11_number_78 : decode cX11_number 78 = .ok (.iadd, 1) := by decide +kernel
theorem dX11_number_79 : decode cX11_number 79 = .ok (.putfield 175, 3) := by decide +kernel
theorem dX11_number_82 : decode cX11_number 82 = .ok (.iinc 2 1, 3) := by decide +kernel
theorem dX11_number_85 : decode cX11_number 85 = .ok (.goto (-52), 3) := by decide +kernel
theorem dX11_number_88 : decode cX11_number 88 = .ok (.iload_n 1, 1) := by decide +kernel
theorem dX11_number_89 : decode cX11_number 89 = .ok (.ireturn, 1) := by decide +kernel
theorem dX11_order_0 : decode cX11_order 0 = .ok (.aload_n 0, 1) := by decide +kernel
theorem dX11_order_1 : decode cX11_order 1 = .ok (.invokevirtual 181, 3) := by decide +kernel
theorem dX11_order_4 : decode cX11_order 4 = .ok (.istore_n 1, 1) := by decide +kernel
theorem dX11_order_5 : decode cX11_order 5 = .ok (.iload_n 1, 1) := by decide +kernel
theorem dX11_order_6 : decode cX11_order 6 = .ok (.bipush 97, 2) := by decide +kernel
theorem dX11_order_8 : decode cX11_order 8 = .ok (.if_icmp .eq 15, 3) := by decide +kernel
theorem dX11_order_11 : decode cX11_order 11 = .ok (.iload_n 1, 1) := by decide +kernel
theorem dX11_order_12 : decode cX11_order 12 = .ok (.bipush 111, 2) := by decide +kernel
theorem dX11_order_14 : decode cX11_order 14 = .ok (.if_icmp .eq 9, 3) := by decide +kernel
theorem dX11_order_17 : decode cX11_order 17 = .ok (.iload_n 1, 1) := by decide +kernel
theorem dX11_order_18 : decode cX11_order 18 = .ok (.bipush 116, 2) := by decide +kernel
theorem dX11_order_20 : decode cX11_order 20 = .ok (.if_icmp .ne 7, 3) := by decide +kernel
theorem dX11_order_23 : decode cX11_order 23 = .ok (.iconst 1, 1) := by decide +kernel
theorem dX11_order_24 : decode cX11_order 24 = .ok (.goto 4, 3) := by decide +kernel
theorem dX11_order_27 : decode cX11_order 27 = .ok (.iconst 0, 1) := by decide +kernel
theorem dX11_order_28 : decode cX11_order 28 = .ok (.istore_n 2, 1) := by decide +kernel
theorem dX11_order_29 : decode cX11_order 29 = .ok (.iload_n 2, 1) := by decide +kernel
theorem dX11_order_30 : decode cX11_order 30 = .ok (.ifCond .ne 30, 3) := by decide +kernel
theorem dX11_order_33 : decode cX11_order 33 = .ok (.iload_n 1, 1) := by decide +kernel
theorem dX11_order_34 : decode cX11_order 34 = .ok (.bipush 108, 2) := by decide +kernel
theorem dX11_order_36 : decode cX11_order 36 = .ok (.if_icmp .eq 24, 3) := by decide +kernel
theorem dX11_order_39 : decode cX11_order 39 = .ok (.iload_n 1, 1) := by decide +kernel
theorem dX11_order_40 : decode cX11_order 40 = .ok (.bipush 120, 2) := by decide +kernel
theorem dX11_order_42 : decode cX11_order 42 = .ok (.if_icmp .eq 18, 3) := by decide +kernel
theorem dX11_order_45 : decode cX11_order 45 = .ok (.iload_n 1, 1) := by decide +kernel
theorem dX11_order_46 : decode cX11_order 46 = .ok (.bipush 103, 2) := by decide +kernel
theorem dX11_order_48 : decode cX11_order 48 = .ok (.if_icmp .eq 12, 3) := by decide +kernel
theorem dX11_order_51 : decode cX11_order 51 = .ok (.aload_n 0, 1) := by decide +kernel
theorem dX11_order_52 : decode cX11_order 52 = .ok (.aload_n 0, 1) := by decide +kernel
theorem dX11_order_53 : decode cX11_order 53 = .ok (.getfield 175, 3) := by decide +kernel
theorem dX11_order_56 : decode cX11_order 56 = .ok (.putfield 178, 3) := by decide +kernel
theorem dX11_order_59 : decode cX11_order 59 = .ok (.return_, 1) := by decide +kernel
theorem dX11_order_60 : decode cX11_order 60 = .ok (.aload_n 0, 1) := by decide +kernel
theorem dX11_order_61 : decode cX11_order 61 = .ok (.dup, 1) := by decide +kernel
theorem dX11_order_62 : decode cX11_order 62 = .ok (.getfield 175, 3) := by decide +kernel
theorem dX11_order_65 : decode cX11_order 65 = .ok (.iconst 1, 1) := by decide +kernel
theorem dX11_order_66 : decode cX11_order 66 = .ok (.iadd, 1) := by decide +kernel
theorem dX11_order_67 : decode cX11_order 67 = .ok (.putfield 175, 3) := by decide +kernel
theorem dX11_order_70 : decode cX11_order 70 = .ok (.aload_n 0, 1) := by decide +kernel
theorem dX11_order_71 : decode cX11_order 71 = .ok (.getfield 46, 3) := by decide +kernel
theorem dX11_order_74 : decode cX11_order 74 = .ok (.iconst 3, 1) := by decide +kernel
theorem dX11_order_75 : decode cX11_order 75 = .ok (.aload_n 0, 1) := by decide +kernel
theorem dX11_order_76 : decode cX11_order 76 = .ok (.getfield 187, 3) := by decide +kernel
theorem dX11_order_79 : decode cX11_order 79 = .ok (.imul, 1) := by decide +kernel
theorem dX11_order_80 : decode cX11_order 80 = .ok (.iload_n 1, 1) := by decide +kernel
theorem dX11_order_81 : decode cX11_order 81 = .ok (.iastore, 1) := by decide +kernel
theorem dX11_order_82 : decode cX11_order 82 = .ok (.aload_n 0, 1) := by decide +kernel
theorem dX11_order_83 : decode cX11_order 83 = .ok (.getfield 46, 3) := by decide +kernel
theorem dX11_order_86 : decode cX11_order 86 = .ok (.iconst 3, 1) := by decide +kernel
theorem dX11_order_87 : decode cX11_order 87 = .ok (.aload_n 0, 1) := by decide +kernel
theorem dX11_order_88 : decode cX11_order 88 = .ok (.getfield 187, 3) := by decide +kernel
theorem dX11_order_91 : decode cX11_order 91 = .ok (.imul, 1) := by decide +kernel
theorem dX11_order_92 : decode cX11_order 92 = .ok (.iconst 1, 1) := by decide +kernel
theorem dX11_order_93 : decode cX11_order 93 = .ok (.iadd, 1) := by decide +kernel
theorem dX11_order_94 : decode cX11_order 94 = .ok (.aload_n 0, 1) := by decide +kernel
theorem dX11_order_95 : decode cX11_order 95 = .ok (.invokevirtual 190, 3) := by decide +kernel
theorem dX11_order_98 : decode cX11_order 98 = .ok (.iastore, 1) := by decide +kernel
theorem dX11_order_99 : decode cX11_order 99 = .ok (.iload_n 2, 1) := by decide +kernel
theorem dX11_order_100 : decode cX11_order 100 = .ok (.ifCond .eq 62, 3) := by decide +kernel
theorem dX11_order_103 : decode cX11_order 103 = .ok (.aload_n 0, 1) := by decide +kernel
theorem dX11_order_104 : decode cX11_order 104 = .ok (.getfield 178, 3) := by decide +kernel
theorem dX11_order_107 : decode cX11_order 107 = .ok (.ifCond .ge 20, 3) := by decide +kernel
theorem dX11_order_110 : decode cX11_order 110 = .ok (.aload_n 0, 1) := by decide +kernel
theorem dX11_order_111 : decode cX11_order 111 = .ok (.invokevirtual 181, 3) := by decide +kernel
theorem dX11_order_114 : decode cX11_order 114 = .ok (.bipush 44, 2) := by decide +kernel
theorem dX11_order_116 : decode cX11_order 116 = .ok (.if_icmp .eq 11, 3) := by decide +kernel
theorem dX11_order_119 : decode cX11_order 119 = .ok (.aload_n 0, 1) := by decide +kernel
theorem dX11_order_120 : decode cX11_order 120 = .ok (.aload_n 0, 1) := by decide +kernel
theorem dX11_order_121 : decode cX11_order 121 = .ok (.getfield 175, 3) := by decide +kernel
theorem dX11_order_124 : decode cX11_order 124 = .ok (.putfield 178, 3) := by decide +kernel
theorem dX11_order_127 : decode cX11_order 127 = .ok (.aload_n 0, 1) := by decide +kernel
theorem dX11_order_128 : decode cX11_order 128 = .ok (.getfield 178, 3) := by decide +kernel
theorem dX11_order_131 : decode cX11_order 131 = .ok (.ifCond .lt 4, 3) := by decide +kernel
theorem dX11_order_134 : decode cX11_order 134 = .ok (.return_, 1) := by decide +kernel
theorem dX11_order_135 : decode cX11_order 135 = .ok (.aload_n 0, 1) := by decide +kernel
theorem dX11_order_136 : decode cX11_order 136 = .ok (.dup, 1) := by decide +kernel
theorem dX11_order_137 : decode cX11_order 137 = .ok (.getfield 175, 3) := by decide +kernel
theorem dX11_order_140 : decode cX11_order 140 = .ok (.iconst 1, 1) := by decide +kernel
theorem dX11_order_141 : decode cX11_order 141 = .ok (.iadd, 1) := by decide +kernel
theorem dX11_order_142 : decode cX11_order 142 = .ok (.putfield 175, 3) := by decide +kernel
theorem dX11_order_145 : decode cX11_order 145 = .ok (.aload_n 0, 1) := by decide +kernel
theorem dX11_order_146 : decode cX11_order 146 = .ok (.getfield 46, 3) := by decide +kernel
theorem dX11_order_149 : decode cX11_order 149 = .ok (.iconst 3, 1) := by decide +kernel
theorem dX11_order_150 : decode cX11_order 150 = .ok (.aload_n 0, 1) := by decide +kernel
theorem dX11_order_151 : decode cX11_order 151 = .ok (.getfield 187, 3) := by decide +kernel
theorem dX11_order_154 : decode cX11_order 154 = .ok (.imul, 1) := by decide +kernel
theorem dX11_order_155 : decode cX11_order 155 = .ok (.iconst 2, 1) := by decide +kernel
theorem dX11_order_156 : decode cX11_order 156 = .ok (.iadd, 1) := by decide +kernel
theorem dX11_order_157 : decode cX11_order 157 = .ok (.aload_n 0, 1) := by decide +kernel
theorem dX11_order_158 : decode cX11_order 158 = .ok (.invokevirtual 190, 3) := by decide +kernel
theorem dX11_order_161 : decode cX11_order 161 = .ok (.iastore, 1) := by decide +kernel
theorem dX11_order_162 : decode cX11_order 162 = .ok (.aload_n 0, 1) := by decide +kernel
theorem dX11_order_163 : decode cX11_order 163 = .ok (.dup, 1) := by decide +kernel
theorem dX11_order_164 : decode cX11_order 164 = .ok (.getfield 187, 3) := by decide +kernel
theorem dX11_order_167 : decode cX11_order 167 = .ok (.iconst 1, 1) := by decide +kernel
theorem dX11_order_168 : decode cX11_order 168 = .ok (.iadd, 1) := by decide +kernel
theorem dX11_order_169 : decode cX11_order 169 = .ok (.putfield 187, 3) := by decide +kernel
theorem dX11_order_172 : decode cX11_order 172 = .ok (.return_, 1) := by decide +kernel
theorem dX11_refusal_0 : decode cX11_refusal 0 = .ok (.iload_n 1, 1) := by decide +kernel
theorem dX11_refusal_1 : decode cX11_refusal 1 = .ok (.bipush 103, 2) := by decide +kernel
theorem dX11_refusal_3 : decode cX11_refusal 3 = .ok (.if_icmp .ne 31, 3) := by decide +kernel
theorem dX11_refusal_6 : decode cX11_refusal 6 = .ok (.aload_n 0, 1) := by decide +kernel
theorem dX11_refusal_7 : decode cX11_refusal 7 = .ok (.invokevirtual 85, 3) := by decide +kernel
theorem dX11_refusal_10 : decode cX11_refusal 10 = .ok (.ifCond .ge 7, 3) := by decide +kernel
theorem dX11_refusal_13 : decode cX11_refusal 13 = .ok (.iconst 5, 1) := by decide +kernel
theorem dX11_refusal_14 : decode cX11_refusal 14 = .ok (.goto 19, 3) := by decide +kernel
theorem dX11_refusal_17 : decode cX11_refusal 17 = .ok (.iload_n 2, 1) := by decide +kernel
theorem dX11_refusal_18 : decode cX11_refusal 18 = .ok (.iconst 1, 1) := by decide +kernel
theorem dX11_refusal_19 : decode cX11_refusal 19 = .ok (.bipush 40, 2) := by decide +kernel
theorem dX11_refusal_21 : decode cX11_refusal 21 = .ok (.invokestatic 57, 3) := by decide +kernel
theorem dX11_refusal_24 : decode cX11_refusal 24 = .ok (.ifCond .eq 7, 3) := by decide +kernel
theorem dX11_refusal_27 : decode cX11_refusal 27 = .ok (.iconst 0, 1) := by decide +kernel
theorem dX11_refusal_28 : decode cX11_refusal 28 = .ok (.goto 5, 3) := by decide +kernel
theorem dX11_refusal_31 : decode cX11_refusal 31 = .ok (.bipush 6, 2) := by decide +kernel
theorem dX11_refusal_33 : decode cX11_refusal 33 = .ok (.ireturn, 1) := by decide +kernel
theorem dX11_refusal_34 : decode cX11_refusal 34 = .ok (.iload_n 1, 1) := by decide +kernel
theorem dX11_refusal_35 : decode cX11_refusal 35 = .ok (.bipush 108, 2) := by decide +kernel
theorem dX11_refusal_37 : decode cX11_refusal 37 = .ok (.if_icmp .eq 9, 3) := by decide +kernel
theorem dX11_refusal_40 : decode cX11_refusal 40 = .ok (.iload_n 1, 1) := by decide +kernel
theorem dX11_refusal_41 : decode cX11_refusal 41 = .ok (.bipush 120, 2) := by decide +kernel
theorem dX11_refusal_43 : decode cX11_refusal 43 = .ok (.if_icmp .ne 17, 3) := by decide +kernel
theorem dX11_refusal_46 : decode cX11_refusal 46 = .ok (.aload_n 0, 1) := by decide +kernel
theorem dX11_refusal_47 : decode cX11_refusal 47 = .ok (.iload_n 2, 1) := by decide +kernel
theorem dX11_refusal_48 : decode cX11_refusal 48 = .ok (.invokevirtual 65, 3) := by decide +kernel
theorem dX11_refusal_51 : decode cX11_refusal 51 = .ok (.ifCond .eq 7, 3) := by decide +kernel
theorem dX11_refusal_54 : decode cX11_refusal 54 = .ok (.iconst 0, 1) := by decide +kernel
theorem dX11_refusal_55 : decode cX11_refusal 55 = .ok (.goto 4, 3) := by decide +kernel
theorem dX11_refusal_58 : decode cX11_refusal 58 = .ok (.iconst 5, 1) := by decide +kernel
theorem dX11_refusal_59 : decode cX11_refusal 59 = .ok (.ireturn, 1) := by decide +kernel
theorem dX11_refusal_60 : decode cX11_refusal 60 = .ok (.iload_n 2, 1) := by decide +kernel
theorem dX11_refusal_61 : decode cX11_refusal 61 = .ok (.iconst 0, 1) := by decide +kernel
theorem dX11_refusal_62 : decode cX11_refusal 62 = .ok (.bipush 11, 2) := by decide +kernel
theorem dX11_refusal_64 : decode cX11_refusal 64 = .ok (.invokestatic 57, 3) := by decide +kernel
theorem dX11_refusal_67 : decode cX11_refusal 67 = .ok (.ifCond .eq 13, 3) := by decide +kernel
theorem dX11_refusal_70 : decode cX11_refusal 70 = .ok (.iload_n 3, 1) := by decide +kernel
theorem dX11_refusal_71 : decode cX11_refusal 71 = .ok (.iconst 0, 1) := by decide +kernel
theorem dX11_refusal_72 : decode cX11_refusal 72 = .ok (.bipush 9, 2) := by decide +kernel
theorem dX11_refusal_74 : decode cX11_refusal 74 = .ok (.invokestatic 57, 3) := by decide +kernel
theorem dX11_refusal_77 : decode cX11_refusal 77 = .ok (.ifCond .ne 5, 3) := by decide +kernel
theorem dX11_refusal_80 : decode cX11_refusal 80 = .ok (.iconst 1, 1) := by decide +kernel
theorem dX11_refusal_81 : decode cX11_refusal 81 = .ok (.ireturn, 1) := by decide +kernel
theorem dX11_refusal_82 : decode cX11_refusal 82 = .ok (.bipush 12, 2) := by decide +kernel
theorem dX11_refusal_84 : decode cX11_refusal 84 = .ok (.iload_n 3, 1) := by decide +kernel
theorem dX11_refusal_85 : decode cX11_refusal 85 = .ok (.imul, 1) := by decide +kernel
theorem dX11_refusal_86 : decode cX11_refusal 86 = .ok (.iload_n 2, 1) := by decide +kernel
theorem dX11_refusal_87 : decode cX11_refusal 87 = .ok (.iadd, 1) := by decide +kernel
theorem dX11_refusal_88 : decode cX11_refusal 88 = .ok (.istore 4, 2) := by decide +kernel
theorem dX11_refusal_90 : decode cX11_refusal 90 = .ok (.iload_n 1, 1) := by decide +kernel
theorem dX11_refusal_91 : decode cX11_refusal 91 = .ok (.bipush 116, 2) := by decide +kernel
theorem dX11_refusal_93 : decode cX11_refusal 93 = .ok (.if_icmp .ne 5, 3) := by decide +kernel
theorem dX11_refusal_96 : decode cX11_refusal 96 = .ok (.iconst 0, 1) := by decide +kernel
theorem dX11_refusal_97 : decode cX11_refusal 97 = .ok (.ireturn, 1) := by decide +kernel
theorem dX11_refusal_98 : decode cX11_refusal 98 = .ok (.iload_n 1, 1) := by decide +kernel
theorem dX11_refusal_99 : decode cX11_refusal 99 = .ok (.bipush 97, 2) := by decide +kernel
theorem dX11_refusal_101 : decode cX11_refusal 101 = .ok (.if_icmp .ne 14, 3) := by decide +kernel
theorem dX11_refusal_104 : decode cX11_refusal 104 = .ok (.aload_n 0, 1) := by decide +kernel
theorem dX11_refusal_105 : decode cX11_refusal 105 = .ok (.iload 4, 2) := by decide +kernel
theorem dX11_refusal_107 : decode cX11_refusal 107 = .ok (.invokevirtual 69, 3) := by decide +kernel
theorem dX11_refusal_110 : decode cX11_refusal 110 = .ok (.ifCond .eq 5, 3) := by decide +kernel
theorem dX11_refusal_113 : decode cX11_refusal 113 = .ok (.iconst 2, 1) := by decide +kernel
theorem dX11_refusal_114 : decode cX11_refusal 114 = .ok (.ireturn, 1) := by decide +kernel
theorem dX11_refusal_115 : decode cX11_refusal 115 = .ok (.aload_n 0, 1) := by decide +kernel
theorem dX11_refusal_116 : decode cX11_refusal 116 = .ok (.iload 4, 2) := by decide +kernel
theorem dX11_refusal_118 : decode cX11_refusal 118 = .ok (.invokevirtual 121, 3) := by decide +kernel
theorem dX11_refusal_121 : decode cX11_refusal 121 = .ok (.ifCond .lt 7, 3) := by decide +kernel
theorem dX11_refusal_124 : decode cX11_refusal 124 = .ok (.iconst 3, 1) := by decide +kernel
theorem dX11_refusal_125 : decode cX11_refusal 125 = .ok (.goto 25, 3) := by decide +kernel
theorem dX11_refusal_128 : decode cX11_refusal 128 = .ok (.iload_n 1, 1) := by decide +kernel
theorem dX11_refusal_129 : decode cX11_refusal 129 = .ok (.bipush 97, 2) := by decide +kernel
theorem dX11_refusal_131 : decode cX11_refusal 131 = .ok (.if_icmp .ne 18, 3) := by decide +kernel
theorem dX11_refusal_134 : decode cX11_refusal 134 = .ok (.aload_n 0, 1) := by decide +kernel
theorem dX11_refusal_135 : decode cX11_refusal 135 = .ok (.getfield 9, 3) := by decide +kernel
theorem dX11_refusal_138 : decode cX11_refusal 138 = .ok (.iconst 0, 1) := by decide +kernel
theorem dX11_refusal_139 : decode cX11_refusal 139 = .ok (.iaload, 1) := by decide +kernel
theorem dX11_refusal_140 : decode cX11_refusal 140 = .ok (.bipush 10, 2) := by decide +kernel
theorem dX11_refusal_142 : decode cX11_refusal 142 = .ok (.if_icmp .ne 7, 3) := by decide +kernel
theorem dX11_refusal_145 : decode cX11_refusal 145 = .ok (.iconst 4, 1) := by decide +kernel
theorem dX11_refusal_146 : decode cX11_refusal 146 = .ok (.goto 4, 3) := by decide +kernel
theorem dX11_refusal_149 : decode cX11_refusal 149 = .ok (.iconst 0, 1) := by decide +kernel
theorem dX11_refusal_150 : decode cX11_refusal 150 = .ok (.ireturn, 1) := by decide +kernel
theorem dX11_carries_0 : decode cX11_carries 0 = .ok (.bipush 12, 2) := by decide +kernel
theorem dX11_carries_2 : decode cX11_carries 2 = .ok (.iload_n 3, 1) := by decide +kernel
theorem dX11_carries_3 : decode cX11_carries 3 = .ok (.imul, 1) := by decide +kernel
theorem dX11_carries_4 : decode cX11_carries 4 = .ok (.iload_n 2, 1) := by decide +kernel
theorem dX11_carries_5 : decode cX11_carries 5 = .ok (.iadd, 1) := by decide +kernel
theorem dX11_carries_6 : decode cX11_carries 6 = .ok (.istore 4, 2) := by decide +kernel
theorem dX11_carries_8 : decode cX11_carries 8 = .ok (.iload_n 1, 1) := by decide +kernel
theorem dX11_carries_9 : decode cX11_carries 9 = .ok (.bipush 97, 2) := by decide +kernel
theorem dX11_carries_11 : decode cX11_carries 11 = .ok (.if_icmp .ne 12, 3) := by decide +kernel
theorem dX11_carries_14 : decode cX11_carries 14 = .ok (.aload_n 0, 1) := by decide +kernel
theorem dX11_carries_15 : decode cX11_carries 15 = .ok (.iload 4, 2) := by decide +kernel
theorem dX11_carries_17 : decode cX11_carries 17 = .ok (.invokevirtual 160, 3) := by decide +kernel
theorem dX11_carries_20 : decode cX11_carries 20 = .ok (.goto 47, 3) := by decide +kernel
theorem dX11_carries_23 : decode cX11_carries 23 = .ok (.iload_n 1, 1) := by decide +kernel
theorem dX11_carries_24 : decode cX11_carries 24 = .ok (.bipush 111, 2) := by decide +kernel
theorem dX11_carries_26 : decode cX11_carries 26 = .ok (.if_icmp .ne 12, 3) := by decide +kernel
theorem dX11_carries_29 : decode cX11_carries 29 = .ok (.aload_n 0, 1) := by decide +kernel
theorem dX11_carries_30 : decode cX11_carries 30 = .ok (.iload 4, 2) := by decide +kernel
theorem dX11_carries_32 : decode cX11_carries 32 = .ok (.invokevirtual 169, 3) := by decide +kernel
theorem dX11_carries_35 : decode cX11_carries 35 = .ok (.goto 32, 3) := by decide +kernel
theorem dX11_carries_38 : decode cX11_carries 38 = .ok (.iload_n 1, 1) := by decide +kernel
theorem dX11_carries_39 : decode cX11_carries 39 = .ok (.bipush 120, 2) := by decide +kernel
theorem dX11_carries_41 : decode cX11_carries 41 = .ok (.if_icmp .ne 11, 3) := by decide +kernel
theorem dX11_carries_44 : decode cX11_carries 44 = .ok (.aload_n 0, 1) := by decide +kernel
theorem dX11_carries_45 : decode cX11_carries 45 = .ok (.iload_n 2, 1) := by decide +kernel
theorem dX11_carries_46 : decode cX11_carries 46 = .ok (.invokevirtual 163, 3) := by decide +kernel
theorem dX11_carries_49 : decode cX11_carries 49 = .ok (.goto 18, 3) := by decide +kernel
theorem dX11_carries_52 : decode cX11_carries 52 = .ok (.iload_n 1, 1) := by decide +kernel
theorem dX11_carries_53 : decode cX11_carries 53 = .ok (.bipush 103, 2) := by decide +kernel
theorem dX11_carries_55 : decode cX11_carries 55 = .ok (.if_icmp .ne 11, 3) := by decide +kernel
theorem dX11_carries_58 : decode cX11_carries 58 = .ok (.aload_n 0, 1) := by decide +kernel
theorem dX11_carries_59 : decode cX11_carries 59 = .ok (.iload_n 2, 1) := by decide +kernel
theorem dX11_carries_60 : decode cX11_carries 60 = .ok (.invokevirtual 154, 3) := by decide +kernel
theorem dX11_carries_63 : decode cX11_carries 63 = .ok (.goto 4, 3) := by decide +kernel
theorem dX11_carries_66 : decode cX11_carries 66 = .ok (.iconst 0, 1) := by decide +kernel
theorem dX11_carries_67 : decode cX11_carries 67 = .ok (.istore 5, 2) := by decide +kernel
theorem dX11_carries_69 : decode cX11_carries 69 = .ok (.aload_n 0, 1) := by decide +kernel
theorem dX11_carries_70 : decode cX11_carries 70 = .ok (.getfield 9, 3) := by decide +kernel
theorem dX11_carries_73 : decode cX11_carries 73 = .ok (.iconst 2, 1) := by decide +kernel
theorem dX11_carries_74 : decode cX11_carries 74 = .ok (.iload_n 1, 1) := by decide +kernel
theorem dX11_carries_75 : decode cX11_carries 75 = .ok (.bipush 116, 2) := by decide +kernel
theorem dX11_carries_77 : decode cX11_carries 77 = .ok (.if_icmp .ne 8, 3) := by decide +kernel
theorem dX11_carries_80 : decode cX11_carries 80 = .ok (.iload 4, 2) := by decide +kernel
theorem dX11_carries_82 : decode cX11_carries 82 = .ok (.goto 9, 3) := by decide +kernel
theorem dX11_carries_85 : decode cX11_carries 85 = .ok (.aload_n 0, 1) := by decide +kernel
theorem dX11_carries_86 : decode cX11_carries 86 = .ok (.getfield 9, 3) := by decide +kernel
theorem dX11_carries_89 : decode cX11_carries 89 = .ok (.iconst 2, 1) := by decide +kernel
theorem dX11_carries_90 : decode cX11_carries 90 = .ok (.iaload, 1) := by decide +kernel
theorem dX11_carries_91 : decode cX11_carries 91 = .ok (.iastore, 1) := by decide +kernel
theorem dX11_carries_92 : decode cX11_carries 92 = .ok (.aload_n 0, 1) := by decide +kernel
theorem dX11_carries_93 : decode cX11_carries 93 = .ok (.getfield 9, 3) := by decide +kernel
theorem dX11_carries_96 : decode cX11_carries 96 = .ok (.iconst 1, 1) := by decide +kernel
theorem dX11_carries_97 : decode cX11_carries 97 = .ok (.iload_n 1, 1) := by decide +kernel
theorem dX11_carries_98 : decode cX11_carries 98 = .ok (.bipush 108, 2) := by decide +kernel
theorem dX11_carries_100 : decode cX11_carries 100 = .ok (.if_icmp .ne 7, 3) := by decide +kernel
theorem dX11_carries_103 : decode cX11_carries 103 = .ok (.iload_n 2, 1) := by decide +kernel
theorem dX11_carries_104 : decode cX11_carries 104 = .ok (.goto 9, 3) := by decide +kernel
theorem dX11_carries_107 : decode cX11_carries 107 = .ok (.aload_n 0, 1) := by decide +kernel
theorem dX11_carries_108 : decode cX11_carries 108 = .ok (.getfield 9, 3) := by decide +kernel
theorem dX11_carries_111 : decode cX11_carries 111 = .ok (.iconst 1, 1) := by decide +kernel
theorem dX11_carries_112 : decode cX11_carries 112 = .ok (.iaload, 1) := by decide +kernel
theorem dX11_carries_113 : decode cX11_carries 113 = .ok (.iastore, 1) := by decide +kernel
theorem dX11_carries_114 : decode cX11_carries 114 = .ok (.return_, 1) := by decide +kernel
theorem dX11_execute_0 : decode cX11_execute 0 = .ok (.aload_n 0, 1) := by decide +kernel
theorem dX11_execute_1 : decode cX11_execute 1 = .ok (.iconst 0, 1) := by decide +kernel
theorem dX11_execute_2 : decode cX11_execute 2 = .ok (.putfield 175, 3) := by decide +kernel
theorem dX11_execute_5 : decode cX11_execute 5 = .ok (.aload_n 0, 1) := by decide +kernel
theorem dX11_execute_6 : decode cX11_execute 6 = .ok (.iconst (-1), 1) := by decide +kernel
theorem dX11_execute_7 : decode cX11_execute 7 = .ok (.putfield 178, 3) := by decide +kernel
theorem dX11_execute_10 : decode cX11_execute 10 = .ok (.aload_n 0, 1) := by decide +kernel
theorem dX11_execute_11 : decode cX11_execute 11 = .ok (.iconst 0, 1) := by decide +kernel
theorem dX11_execute_12 : decode cX11_execute 12 = .ok (.putfield 187, 3) := by decide +kernel
theorem dX11_execute_15 : decode cX11_execute 15 = .ok (.aload_n 0, 1) := by decide +kernel
theorem dX11_execute_16 : decode cX11_execute 16 = .ok (.invokevirtual 193, 3) := by decide +kernel
theorem dX11_execute_19 : decode cX11_execute 19 = .ok (.aload_n 0, 1) := by decide +kernel
theorem dX11_execute_20 : decode cX11_execute 20 = .ok (.getfield 178, 3) := by decide +kernel
theorem dX11_execute_23 : decode cX11_execute 23 = .ok (.ifCond .ge 29, 3) := by decide +kernel
theorem dX11_execute_26 : decode cX11_execute 26 = .ok (.aload_n 0, 1) := by decide +kernel
theorem dX11_execute_27 : decode cX11_execute 27 = .ok (.invokevirtual 181, 3) := by decide +kernel
theorem dX11_execute_30 : decode cX11_execute 30 = .ok (.bipush 59, 2) := by decide +kernel
theorem dX11_execute_32 : decode cX11_execute 32 = .ok (.if_icmp .ne 20, 3) := by decide +kernel
theorem dX11_execute_35 : decode cX11_execute 35 = .ok (.aload_n 0, 1) := by decide +kernel
theorem dX11_execute_36 : decode cX11_execute 36 = .ok (.dup, 1) := by decide +kernel
theorem dX11_execute_37 : decode cX11_execute 37 = .ok (.getfield 175, 3) := by decide +kernel
theorem dX11_execute_40 : decode cX11_execute 40 = .ok (.iconst 1, 1) := by decide +kernel
theorem dX11_execute_41 : decode cX11_execute 41 = .ok (.iadd, 1) := by decide +kernel
theorem dX11_execute_42 : decode cX11_execute 42 = .ok (.putfield 175, 3) := by decide +kernel
theorem dX11_execute_45 : decode cX11_execute 45 = .ok (.aload_n 0, 1) := by decide +kernel
theorem dX11_execute_46 : decode cX11_execute 46 = .ok (.invokevirtual 193, 3) := by decide +kernel
theorem dX11_execute_49 : decode cX11_execute 49 = .ok (.goto (-30), 3) := by decide +kernel
theorem dX11_execute_52 : decode cX11_execute 52 = .ok (.aload_n 0, 1) := by decide +kernel
theorem dX11_execute_53 : decode cX11_execute 53 = .ok (.getfield 178, 3) := by decide +kernel
theorem dX11_execute_56 : decode cX11_execute 56 = .ok (.ifCond .ge 22, 3) := by decide +kernel
theorem dX11_execute_59 : decode cX11_execute 59 = .ok (.aload_n 0, 1) := by decide +kernel
theorem dX11_execute_60 : decode cX11_execute 60 = .ok (.getfield 175, 3) := by decide +kernel
theorem dX11_execute_63 : decode cX11_execute 63 = .ok (.aload_n 0, 1) := by decide +kernel
theorem dX11_execute_64 : decode cX11_execute 64 = .ok (.getfield 172, 3) := by decide +kernel
theorem dX11_execute_67 : decode cX11_execute 67 = .ok (.if_icmp .ge 11, 3) := by decide +kernel
theorem dX11_execute_70 : decode cX11_execute 70 = .ok (.aload_n 0, 1) := by decide +kernel
theorem dX11_execute_71 : decode cX11_execute 71 = .ok (.aload_n 0, 1) := by decide +kernel
theorem dX11_execute_72 : decode cX11_execute 72 = .ok (.getfield 175, 3) := by decide +kernel
theorem dX11_execute_75 : decode cX11_execute 75 = .ok (.putfield 178, 3) := by decide +kernel
theorem dX11_execute_78 : decode cX11_execute 78 = .ok (.aload_n 0, 1) := by decide +kernel
theorem dX11_execute_79 : decode cX11_execute 79 = .ok (.iconst 0, 1) := by decide +kernel
theorem dX11_execute_80 : decode cX11_execute 80 = .ok (.putfield 172, 3) := by decide +kernel
theorem dX11_execute_83 : decode cX11_execute 83 = .ok (.aload_n 0, 1) := by decide +kernel
theorem dX11_execute_84 : decode cX11_execute 84 = .ok (.getfield 178, 3) := by decide +kernel
theorem dX11_execute_87 : decode cX11_execute 87 = .ok (.ifCond .lt 11, 3) := by decide +kernel
theorem dX11_execute_90 : decode cX11_execute 90 = .ok (.bipush (-100), 2) := by decide +kernel
theorem dX11_execute_92 : decode cX11_execute 92 = .ok (.aload_n 0, 1) := by decide +kernel
theorem dX11_execute_93 : decode cX11_execute 93 = .ok (.getfield 178, 3) := by decide +kernel
theorem dX11_execute_96 : decode cX11_execute 96 = .ok (.isub, 1) := by decide +kernel
theorem dX11_execute_97 : decode cX11_execute 97 = .ok (.ireturn, 1) := by decide +kernel
theorem dX11_execute_98 : decode cX11_execute 98 = .ok (.aload_n 0, 1) := by decide +kernel
theorem dX11_execute_99 : decode cX11_execute 99 = .ok (.iconst 0, 1) := by decide +kernel
theorem dX11_execute_100 : decode cX11_execute 100 = .ok (.bipush 10, 2) := by decide +kernel
theorem dX11_execute_102 : decode cX11_execute 102 = .ok (.invokevirtual 53, 3) := by decide +kernel
theorem dX11_execute_105 : decode cX11_execute 105 = .ok (.iconst 0, 1) := by decide +kernel
theorem dX11_execute_106 : decode cX11_execute 106 = .ok (.istore_n 1, 1) := by decide +kernel
theorem dX11_execute_107 : decode cX11_execute 107 = .ok (.iload_n 1, 1) := by decide +kernel
theorem dX11_execute_108 : decode cX11_execute 108 = .ok (.aload_n 0, 1) := by decide +kernel
theorem dX11_execute_109 : decode cX11_execute 109 = .ok (.getfield 187, 3) := by decide +kernel
theorem dX11_execute_112 : decode cX11_execute 112 = .ok (.if_icmp .ge 101, 3) := by decide +kernel
theorem dX11_execute_115 : decode cX11_execute 115 = .ok (.aload_n 0, 1) := by decide +kernel
theorem dX11_execute_116 : decode cX11_execute 116 = .ok (.aload_n 0, 1) := by decide +kernel
theorem dX11_execute_117 : decode cX11_execute 117 = .ok (.getfield 46, 3) := by decide +kernel
theorem dX11_execute_120 : decode cX11_execute 120 = .ok (.iconst 3, 1) := by decide +kernel
theorem dX11_execute_121 : decode cX11_execute 121 = .ok (.iload_n 1, 1) := by decide +kernel
theorem dX11_execute_122 : decode cX11_execute 122 = .ok (.imul, 1) := by decide +kernel
theorem dX11_execute_123 : decode cX11_execute 123 = .ok (.iaload, 1) := by decide +kernel
theorem dX11_execute_124 : decode cX11_execute 124 = .ok (.aload_n 0, 1) := by decide +kernel
theorem dX11_execute_125 : decode cX11_execute 125 = .ok (.getfield 46, 3) := by decide +kernel
theorem dX11_execute_128 : decode cX11_execute 128 = .ok (.iconst 3, 1) := by decide +kernel
theorem dX11_execute_129 : decode cX11_execute 129 = .ok (.iload_n 1, 1) := by decide +kernel
theorem dX11_execute_130 : decode cX11_execute 130 = .ok (.imul, 1) := by decide +kernel
theorem dX11_execute_131 : decode cX11_execute 131 = .ok (.iconst 1, 1) := by decide +kernel
theorem dX11_execute_132 : decode cX11_execute 132 = .ok (.iadd, 1) := by decide +kernel
theorem dX11_execute_133 : decode cX11_execute 133 = .ok (.iaload, 1) := by decide +kernel
theorem dX11_execute_134 : decode cX11_execute 134 = .ok (.aload_n 0, 1) := by decide +kernel
theorem dX11_execute_135 : decode cX11_execute 135 = .ok (.getfield 46, 3) := by decide +kernel
theorem dX11_execute_138 : decode cX11_execute 138 = .ok (.iconst 3, 1) := by decide +kernel
theorem dX11_execute_139 : decode cX11_execute 139 = .ok (.iload_n 1, 1) := by decide +kernel
theorem dX11_execute_140 : decode cX11_execute 140 = .ok (.imul, 1) := by decide +kernel
theorem dX11_execute_141 : decode cX11_execute 141 = .ok (.iconst 2, 1) := by decide +kernel
theorem dX11_execute_142 : decode cX11_execute 142 = .ok (.iadd, 1) := by decide +kernel
theorem dX11_execute_143 : decode cX11_execute 143 = .ok (.iaload, 1) := by decide +kernel
theorem dX11_execute_144 : decode cX11_execute 144 = .ok (.invokevirtual 196, 3) := by decide +kernel
theorem dX11_execute_147 : decode cX11_execute 147 = .ok (.istore_n 2, 1) := by decide +kernel
theorem dX11_execute_148 : decode cX11_execute 148 = .ok (.iload_n 2, 1) := by decide +kernel
theorem dX11_execute_149 : decode cX11_execute 149 = .ok (.ifCond .eq 26, 3) := by decide +kernel
theorem dX11_execute_152 : decode cX11_execute 152 = .ok (.aload_n 0, 1) := by decide +kernel
theorem dX11_execute_153 : decode cX11_execute 153 = .ok (.bipush 10, 2) := by decide +kernel
theorem dX11_execute_155 : decode cX11_execute 155 = .ok (.iconst 0, 1) := by decide +kernel
theorem dX11_execute_156 : decode cX11_execute 156 = .ok (.invokevirtual 53, 3) := by decide +kernel
theorem dX11_execute_159 : decode cX11_execute 159 = .ok (.aload_n 0, 1) := by decide +kernel
theorem dX11_execute_160 : decode cX11_execute 160 = .ok (.iload_n 2, 1) := by decide +kernel
theorem dX11_execute_161 : decode cX11_execute 161 = .ok (.putfield 200, 3) := by decide +kernel
theorem dX11_execute_164 : decode cX11_execute 164 = .ok (.aload_n 0, 1) := by decide +kernel
theorem dX11_execute_165 : decode cX11_execute 165 = .ok (.iload_n 1, 1) := by decide +kernel
theorem dX11_execute_166 : decode cX11_execute 166 = .ok (.putfield 203, 3) := by decide +kernel
theorem dX11_execute_169 : decode cX11_execute 169 = .ok (.sipush (-200), 3) := by decide +kernel
theorem dX11_execute_172 : decode cX11_execute 172 = .ok (.iload_n 2, 1) := by decide +kernel
theorem dX11_execute_173 : decode cX11_execute 173 = .ok (.isub, 1) := by decide +kernel
theorem dX11_execute_174 : decode cX11_execute 174 = .ok (.ireturn, 1) := by decide +kernel
theorem dX11_execute_175 : decode cX11_execute 175 = .ok (.aload_n 0, 1) := by decide +kernel
theorem dX11_execute_176 : decode cX11_execute 176 = .ok (.aload_n 0, 1) := by decide +kernel
theorem dX11_execute_177 : decode cX11_execute 177 = .ok (.getfield 46, 3) := by decide +kernel
theorem dX11_execute_180 : decode cX11_execute 180 = .ok (.iconst 3, 1) := by decide +kernel
theorem dX11_execute_181 : decode cX11_execute 181 = .ok (.iload_n 1, 1) := by decide +kernel
theorem dX11_execute_182 : decode cX11_execute 182 = .ok (.imul, 1) := by decide +kernel
theorem dX11_execute_183 : decode cX11_execute 183 = .ok (.iaload, 1) := by decide +kernel
theorem dX11_execute_184 : decode cX11_execute 184 = .ok (.aload_n 0, 1) := by decide +kernel
theorem dX11_execute_185 : decode cX11_execute 185 = .ok (.getfield 46, 3) := by decide +kernel
theorem dX11_execute_188 : decode cX11_execute 188 = .ok (.iconst 3, 1) := by decide +kernel
theorem dX11_execute_189 : decode cX11_execute 189 = .ok (.iload_n 1, 1) := by decide +kernel
theorem dX11_execute_190 : decode cX11_execute 190 = .ok (.imul, 1) := by decide +kernel
theorem dX11_execute_191 : decode cX11_execute 191 = .ok (.iconst 1, 1) := by decide +kernel
theorem dX11_execute_192 : decode cX11_execute 192 = .ok (.iadd, 1) := by decide +kernel
theorem dX11_execute_193 : decode cX11_execute 193 = .ok (.iaload, 1) := by decide +kernel
theorem dX11_execute_194 : decode cX11_execute 194 = .ok (.aload_n 0, 1) := by decide +kernel
theorem dX11_execute_195 : decode cX11_execute 195 = .ok (.getfield 46, 3) := by decide +kernel
theorem dX11_execute_198 : decode cX11_execute 198 = .ok (.iconst 3, 1) := by decide +kernel
theorem dX11_execute_199 : decode cX11_execute 199 = .ok (.iload_n 1, 1) := by decide +kernel
theorem dX11_execute_200 : decode cX11_execute 200 = .ok (.imul, 1) := by decide +kernel
theorem dX11_execute_201 : decode cX11_execute 201 = .ok (.iconst 2, 1) := by decide +kernel
theorem dX11_execute_202 : decode cX11_execute 202 = .ok (.iadd, 1) := by decide +kernel
theorem dX11_execute_203 : decode cX11_execute 203 = .ok (.iaload, 1) := by decide +kernel
theorem dX11_execute_204 : decode cX11_execute 204 = .ok (.invokevirtual 206, 3) := by decide +kernel
theorem dX11_execute_207 : decode cX11_execute 207 = .ok (.iinc 1 1, 3) := by decide +kernel
theorem dX11_execute_210 : decode cX11_execute 210 = .ok (.goto (-103), 3) := by decide +kernel
theorem dX11_execute_213 : decode cX11_execute 213 = .ok (.aload_n 0, 1) := by decide +kernel
theorem dX11_execute_214 : decode cX11_execute 214 = .ok (.invokevirtual 151, 3) := by decide +kernel
theorem dX11_execute_217 : decode cX11_execute 217 = .ok (.aload_n 0, 1) := by decide +kernel
theorem dX11_execute_218 : decode cX11_execute 218 = .ok (.bipush 10, 2) := by decide +kernel
theorem dX11_execute_220 : decode cX11_execute 220 = .ok (.aload_n 0, 1) := by decide +kernel
theorem dX11_execute_221 : decode cX11_execute 221 = .ok (.getfield 49, 3) := by decide +kernel
theorem dX11_execute_224 : decode cX11_execute 224 = .ok (.invokevirtual 53, 3) := by decide +kernel
theorem dX11_execute_227 : decode cX11_execute 227 = .ok (.aload_n 0, 1) := by decide +kernel
theorem dX11_execute_228 : decode cX11_execute 228 = .ok (.getfield 187, 3) := by decide +kernel
theorem dX11_execute_231 : decode cX11_execute 231 = .ok (.ireturn, 1) := by decide +kernel
theorem dX11_refusal__0 : decode cX11_refusal_ 0 = .ok (.iload_n 1, 1) := by decide +kernel
theorem dX11_refusal__1 : decode cX11_refusal_ 1 = .ok (.iconst 0, 1) := by decide +kernel
theorem dX11_refusal__2 : decode cX11_refusal_ 2 = .ok (.iconst 1, 1) := by decide +kernel
theorem dX11_refusal__3 : decode cX11_refusal_ 3 = .ok (.invokestatic 57, 3) := by decide +kernel
theorem dX11_refusal__6 : decode cX11_refusal_ 6 = .ok (.ifCond .ne 7, 3) := by decide +kernel
theorem dX11_refusal__9 : decode cX11_refusal_ 9 = .ok (.iconst (-1), 1) := by decide +kernel
theorem dX11_refusal__10 : decode cX11_refusal_ 10 = .ok (.goto 30, 3) := by decide +kernel
theorem dX11_refusal__13 : decode cX11_refusal_ 13 = .ok (.aload_n 0, 1) := by decide +kernel
theorem dX11_refusal__14 : decode cX11_refusal_ 14 = .ok (.getfield 200, 3) := by decide +kernel
theorem dX11_refusal__17 : decode cX11_refusal_ 17 = .ok (.ifCond .ne 8, 3) := by decide +kernel
theorem dX11_refusal__20 : decode cX11_refusal_ 20 = .ok (.bipush (-5), 2) := by decide +kernel
theorem dX11_refusal__22 : decode cX11_refusal_ 22 = .ok (.goto 18, 3) := by decide +kernel
theorem dX11_refusal__25 : decode cX11_refusal_ 25 = .ok (.iload_n 1, 1) := by decide +kernel
theorem dX11_refusal__26 : decode cX11_refusal_ 26 = .ok (.ifCond .ne 10, 3) := by decide +kernel
theorem dX11_refusal__29 : decode cX11_refusal_ 29 = .ok (.aload_n 0, 1) := by decide +kernel
theorem dX11_refusal__30 : decode cX11_refusal_ 30 = .ok (.getfield 200, 3) := by decide +kernel
theorem dX11_refusal__33 : decode cX11_refusal_ 33 = .ok (.goto 7, 3) := by decide +kernel
theorem dX11_refusal__36 : decode cX11_refusal_ 36 = .ok (.aload_n 0, 1) := by decide +kernel
theorem dX11_refusal__37 : decode cX11_refusal_ 37 = .ok (.getfield 203, 3) := by decide +kernel
theorem dX11_refusal__40 : decode cX11_refusal_ 40 = .ok (.ireturn, 1) := by decide +kernel
theorem dX11_member_0 : decode cX11_member 0 = .ok (.aload_n 0, 1) := by decide +kernel
theorem dX11_member_1 : decode cX11_member 1 = .ok (.iload_n 1, 1) := by decide +kernel
theorem dX11_member_2 : decode cX11_member 2 = .ok (.invokevirtual 65, 3) := by decide +kernel
theorem dX11_member_5 : decode cX11_member 5 = .ok (.ifCond .eq 13, 3) := by decide +kernel
theorem dX11_member_8 : decode cX11_member 8 = .ok (.iload_n 2, 1) := by decide +kernel
theorem dX11_member_9 : decode cX11_member 9 = .ok (.iconst 0, 1) := by decide +kernel
theorem dX11_member_10 : decode cX11_member 10 = .ok (.bipush 8, 2) := by decide +kernel
theorem dX11_member_12 : decode cX11_member 12 = .ok (.invokestatic 57, 3) := by decide +kernel
theorem dX11_member_15 : decode cX11_member 15 = .ok (.ifCond .ne 5, 3) := by decide +kernel
theorem dX11_member_18 : decode cX11_member 18 = .ok (.iconst (-1), 1) := by decide +kernel
theorem dX11_member_19 : decode cX11_member 19 = .ok (.ireturn, 1) := by decide +kernel
theorem dX11_member_20 : decode cX11_member 20 = .ok (.iload_n 2, 1) := by decide +kernel
theorem dX11_member_21 : decode cX11_member 21 = .ok (.ifCond .ne 10, 3) := by decide +kernel
theorem dX11_member_24 : decode cX11_member 24 = .ok (.aload_n 0, 1) := by decide +kernel
theorem dX11_member_25 : decode cX11_member 25 = .ok (.iload_n 1, 1) := by decide +kernel
theorem dX11_member_26 : decode cX11_member 26 = .ok (.iconst 0, 1) := by decide +kernel
theorem dX11_member_27 : decode cX11_member 27 = .ok (.invokevirtual 61, 3) := by decide +kernel
theorem dX11_member_30 : decode cX11_member 30 = .ok (.ireturn, 1) := by decide +kernel
theorem dX11_member_31 : decode cX11_member 31 = .ok (.iload_n 2, 1) := by decide +kernel
theorem dX11_member_32 : decode cX11_member 32 = .ok (.iconst 3, 1) := by decide +kernel
theorem dX11_member_33 : decode cX11_member 33 = .ok (.if_icmp .le 48, 3) := by decide +kernel
theorem dX11_member_36 : decode cX11_member 36 = .ok (.aload_n 0, 1) := by decide +kernel
theorem dX11_member_37 : decode cX11_member 37 = .ok (.iload_n 1, 1) := by decide +kernel
theorem dX11_member_38 : decode cX11_member 38 = .ok (.iload_n 2, 1) := by decide +kernel
theorem dX11_member_39 : decode cX11_member 39 = .ok (.iconst 4, 1) := by decide +kernel
theorem dX11_member_40 : decode cX11_member 40 = .ok (.if_icmp .ne 7, 3) := by decide +kernel
theorem dX11_member_43 : decode cX11_member 43 = .ok (.iconst 5, 1) := by decide +kernel
theorem dX11_member_44 : decode cX11_member 44 = .ok (.goto 33, 3) := by decide +kernel
theorem dX11_member_47 : decode cX11_member 47 = .ok (.iload_n 2, 1) := by decide +kernel
theorem dX11_member_48 : decode cX11_member 48 = .ok (.iconst 5, 1) := by decide +kernel
theorem dX11_member_49 : decode cX11_member 49 = .ok (.if_icmp .ne 7, 3) := by decide +kernel
theorem dX11_member_52 : decode cX11_member 52 = .ok (.iconst 1, 1) := by decide +kernel
theorem dX11_member_53 : decode cX11_member 53 = .ok (.goto 24, 3) := by decide +kernel
theorem dX11_member_56 : decode cX11_member 56 = .ok (.iload_n 2, 1) := by decide +kernel
theorem dX11_member_57 : decode cX11_member 57 = .ok (.bipush 6, 2) := by decide +kernel
theorem dX11_member_59 : decode cX11_member 59 = .ok (.if_icmp .ne 7, 3) := by decide +kernel
theorem dX11_member_62 : decode cX11_member 62 = .ok (.iconst 2, 1) := by decide +kernel
theorem dX11_member_63 : decode cX11_member 63 = .ok (.goto 14, 3) := by decide +kernel
theorem dX11_member_66 : decode cX11_member 66 = .ok (.iload_n 2, 1) := by decide +kernel
theorem dX11_member_67 : decode cX11_member 67 = .ok (.bipush 7, 2) := by decide +kernel
theorem dX11_member_69 : decode cX11_member 69 = .ok (.if_icmp .ne 7, 3) := by decide +kernel
theorem dX11_member_72 : decode cX11_member 72 = .ok (.iconst 3, 1) := by decide +kernel
theorem dX11_member_73 : decode cX11_member 73 = .ok (.goto 4, 3) := by decide +kernel
theorem dX11_member_76 : decode cX11_member 76 = .ok (.iconst 4, 1) := by decide +kernel
theorem dX11_member_77 : decode cX11_member 77 = .ok (.invokevirtual 61, 3) := by decide +kernel
theorem dX11_member_80 : decode cX11_member 80 = .ok (.ireturn, 1) := by decide +kernel
theorem dX11_member_81 : decode cX11_member 81 = .ok (.aload_n 0, 1) := by decide +kernel
theorem dX11_member_82 : decode cX11_member 82 = .ok (.invokevirtual 111, 3) := by decide +kernel
theorem dX11_member_85 : decode cX11_member 85 = .ok (.aload_n 0, 1) := by decide +kernel
theorem dX11_member_86 : decode cX11_member 86 = .ok (.getfield 25, 3) := by decide +kernel
theorem dX11_member_89 : decode cX11_member 89 = .ok (.iload_n 1, 1) := by decide +kernel
theorem dX11_member_90 : decode cX11_member 90 = .ok (.iaload, 1) := by decide +kernel
theorem dX11_member_91 : decode cX11_member 91 = .ok (.istore_n 3, 1) := by decide +kernel
theorem dX11_member_92 : decode cX11_member 92 = .ok (.iload_n 3, 1) := by decide +kernel
theorem dX11_member_93 : decode cX11_member 93 = .ok (.ifCond .ge 8, 3) := by decide +kernel
theorem dX11_member_96 : decode cX11_member 96 = .ok (.bipush (-5), 2) := by decide +kernel
theorem dX11_member_98 : decode cX11_member 98 = .ok (.goto 42, 3) := by decide +kernel
theorem dX11_member_101 : decode cX11_member 101 = .ok (.iload_n 2, 1) := by decide +kernel
theorem dX11_member_102 : decode cX11_member 102 = .ok (.iconst 1, 1) := by decide +kernel
theorem dX11_member_103 : decode cX11_member 103 = .ok (.if_icmp .ne 7, 3) := by decide +kernel
theorem dX11_member_106 : decode cX11_member 106 = .ok (.iload_n 3, 1) := by decide +kernel
theorem dX11_member_107 : decode cX11_member 107 = .ok (.goto 33, 3) := by decide +kernel
theorem dX11_member_110 : decode cX11_member 110 = .ok (.iload_n 2, 1) := by decide +kernel
theorem dX11_member_111 : decode cX11_member 111 = .ok (.iconst 2, 1) := by decide +kernel
theorem dX11_member_112 : decode cX11_member 112 = .ok (.if_icmp .ne 12, 3) := by decide +kernel
theorem dX11_member_115 : decode cX11_member 115 = .ok (.aload_n 0, 1) := by decide +kernel
theorem dX11_member_116 : decode cX11_member 116 = .ok (.getfield 19, 3) := by decide +kernel
theorem dX11_member_119 : decode cX11_member 119 = .ok (.iload_n 3, 1) := by decide +kernel
theorem dX11_member_120 : decode cX11_member 120 = .ok (.iaload, 1) := by decide +kernel
theorem dX11_member_121 : decode cX11_member 121 = .ok (.goto 19, 3) := by decide +kernel
theorem dX11_member_124 : decode cX11_member 124 = .ok (.aload_n 0, 1) := by decide +kernel
theorem dX11_member_125 : decode cX11_member 125 = .ok (.getfield 13, 3) := by decide +kernel
theorem dX11_member_128 : decode cX11_member 128 = .ok (.bipush 120, 2) := by decide +kernel
theorem dX11_member_130 : decode cX11_member 130 = .ok (.iload_n 3, 1) := by decide +kernel
theorem dX11_member_131 : decode cX11_member 131 = .ok (.imul, 1) := by decide +kernel
theorem dX11_member_132 : decode cX11_member 132 = .ok (.aload_n 0, 1) := by decide +kernel
theorem dX11_member_133 : decode cX11_member 133 = .ok (.iload_n 1, 1) := by decide +kernel
theorem dX11_member_134 : decode cX11_member 134 = .ok (.iconst 0, 1) := by decide +kernel
theorem dX11_member_135 : decode cX11_member 135 = .ok (.invokevirtual 61, 3) := by decide +kernel
theorem dX11_member_138 : decode cX11_member 138 = .ok (.iadd, 1) := by decide +kernel
theorem dX11_member_139 : decode cX11_member 139 = .ok (.iaload, 1) := by decide +kernel
theorem dX11_member_140 : decode cX11_member 140 = .ok (.ireturn, 1) := by decide +kernel
theorem dX11_swarm_0 : decode cX11_swarm 0 = .ok (.iload_n 1, 1) := by decide +kernel
theorem dX11_swarm_1 : decode cX11_swarm 1 = .ok (.iconst 0, 1) := by decide +kernel
theorem dX11_swarm_2 : decode cX11_swarm 2 = .ok (.bipush 7, 2) := by decide +kernel
theorem dX11_swarm_4 : decode cX11_swarm 4 = .ok (.invokestatic 57, 3) := by decide +kernel
theorem dX11_swarm_7 : decode cX11_swarm 7 = .ok (.ifCond .ne 5, 3) := by decide +kernel
theorem dX11_swarm_10 : decode cX11_swarm 10 = .ok (.iconst (-1), 1) := by decide +kernel
theorem dX11_swarm_11 : decode cX11_swarm 11 = .ok (.ireturn, 1) := by decide +kernel
theorem dX11_swarm_12 : decode cX11_swarm 12 = .ok (.aload_n 0, 1) := by decide +kernel
theorem dX11_swarm_13 : decode cX11_swarm 13 = .ok (.invokevirtual 85, 3) := by decide +kernel
theorem dX11_swarm_16 : decode cX11_swarm 16 = .ok (.istore_n 2, 1) := by decide +kernel
theorem dX11_swarm_17 : decode cX11_swarm 17 = .ok (.iload_n 1, 1) := by decide +kernel
theorem dX11_swarm_18 : decode cX11_swarm 18 = .ok (.iconst 4, 1) := by decide +kernel
theorem dX11_swarm_19 : decode cX11_swarm 19 = .ok (.if_icmp .ge 67, 3) := by decide +kernel
theorem dX11_swarm_22 : decode cX11_swarm 22 = .ok (.iload_n 1, 1) := by decide +kernel
theorem dX11_swarm_23 : decode cX11_swarm 23 = .ok (.ifCond .ne 10, 3) := by decide +kernel
theorem dX11_swarm_26 : decode cX11_swarm 26 = .ok (.aload_n 0, 1) := by decide +kernel
theorem dX11_swarm_27 : decode cX11_swarm 27 = .ok (.invokevirtual 157, 3) := by decide +kernel
theorem dX11_swarm_30 : decode cX11_swarm 30 = .ok (.goto 55, 3) := by decide +kernel
theorem dX11_swarm_33 : decode cX11_swarm 33 = .ok (.iload_n 1, 1) := by decide +kernel
theorem dX11_swarm_34 : decode cX11_swarm 34 = .ok (.iconst 1, 1) := by decide +kernel
theorem dX11_swarm_35 : decode cX11_swarm 35 = .ok (.if_icmp .ne 16, 3) := by decide +kernel
theorem dX11_swarm_38 : decode cX11_swarm 38 = .ok (.iload_n 2, 1) := by decide +kernel
theorem dX11_swarm_39 : decode cX11_swarm 39 = .ok (.ifCond .ge 8, 3) := by decide +kernel
theorem dX11_swarm_42 : decode cX11_swarm 42 = .ok (.bipush (-5), 2) := by decide +kernel
theorem dX11_swarm_44 : decode cX11_swarm 44 = .ok (.goto 41, 3) := by decide +kernel
theorem dX11_swarm_47 : decode cX11_swarm 47 = .ok (.iload_n 2, 1) := by decide +kernel
theorem dX11_swarm_48 : decode cX11_swarm 48 = .ok (.goto 37, 3) := by decide +kernel
theorem dX11_swarm_51 : decode cX11_swarm 51 = .ok (.iload_n 1, 1) := by decide +kernel
theorem dX11_swarm_52 : decode cX11_swarm 52 = .ok (.iconst 2, 1) := by decide +kernel
theorem dX11_swarm_53 : decode cX11_swarm 53 = .ok (.if_icmp .ne 26, 3) := by decide +kernel
theorem dX11_swarm_56 : decode cX11_swarm 56 = .ok (.aload_n 0, 1) := by decide +kernel
theorem dX11_swarm_57 : decode cX11_swarm 57 = .ok (.getfield 9, 3) := by decide +kernel
theorem dX11_swarm_60 : decode cX11_swarm 60 = .ok (.iconst 2, 1) := by decide +kernel
theorem dX11_swarm_61 : decode cX11_swarm 61 = .ok (.iaload, 1) := by decide +kernel
theorem dX11_swarm_62 : decode cX11_swarm 62 = .ok (.ifCond .ge 8, 3) := by decide +kernel
theorem dX11_swarm_65 : decode cX11_swarm 65 = .ok (.bipush (-5), 2) := by decide +kernel
theorem dX11_swarm_67 : decode cX11_swarm 67 = .ok (.goto 18, 3) := by decide +kernel
theorem dX11_swarm_70 : decode cX11_swarm 70 = .ok (.aload_n 0, 1) := by decide +kernel
theorem dX11_swarm_71 : decode cX11_swarm 71 = .ok (.getfield 9, 3) := by decide +kernel
theorem dX11_swarm_74 : decode cX11_swarm 74 = .ok (.iconst 2, 1) := by decide +kernel
theorem dX11_swarm_75 : decode cX11_swarm 75 = .ok (.iaload, 1) := by decide +kernel
theorem dX11_swarm_76 : decode cX11_swarm 76 = .ok (.goto 9, 3) := by decide +kernel
theorem dX11_swarm_79 : decode cX11_swarm 79 = .ok (.aload_n 0, 1) := by decide +kernel
theorem dX11_swarm_80 : decode cX11_swarm 80 = .ok (.getfield 9, 3) := by decide +kernel
theorem dX11_swarm_83 : decode cX11_swarm 83 = .ok (.iconst 3, 1) := by decide +kernel
theorem dX11_swarm_84 : decode cX11_swarm 84 = .ok (.iaload, 1) := by decide +kernel
theorem dX11_swarm_85 : decode cX11_swarm 85 = .ok (.ireturn, 1) := by decide +kernel
theorem dX11_swarm_86 : decode cX11_swarm 86 = .ok (.iload_n 1, 1) := by decide +kernel
theorem dX11_swarm_87 : decode cX11_swarm 87 = .ok (.bipush 6, 2) := by decide +kernel
theorem dX11_swarm_89 : decode cX11_swarm 89 = .ok (.if_icmp .ne 16, 3) := by decide +kernel
theorem dX11_swarm_92 : decode cX11_swarm 92 = .ok (.aload_n 0, 1) := by decide +kernel
theorem dX11_swarm_93 : decode cX11_swarm 93 = .ok (.invokevirtual 209, 3) := by decide +kernel
theorem dX11_swarm_96 : decode cX11_swarm 96 = .ok (.ifCond .eq 7, 3) := by decide +kernel
theorem dX11_swarm_99 : decode cX11_swarm 99 = .ok (.iconst 1, 1) := by decide +kernel
theorem dX11_swarm_100 : decode cX11_swarm 100 = .ok (.goto 4, 3) := by decide +kernel
theorem dX11_swarm_103 : decode cX11_swarm 103 = .ok (.iconst 0, 1) := by decide +kernel
theorem dX11_swarm_104 : decode cX11_swarm 104 = .ok (.ireturn, 1) := by decide +kernel
theorem dX11_swarm_105 : decode cX11_swarm 105 = .ok (.aload_n 0, 1) := by decide +kernel
theorem dX11_swarm_106 : decode cX11_swarm 106 = .ok (.invokevirtual 111, 3) := by decide +kernel
theorem dX11_swarm_109 : decode cX11_swarm 109 = .ok (.iconst 0, 1) := by decide +kernel
theorem dX11_swarm_110 : decode cX11_swarm 110 = .ok (.istore_n 3, 1) := by decide +kernel
theorem dX11_swarm_111 : decode cX11_swarm 111 = .ok (.iconst 0, 1) := by decide +kernel
theorem dX11_swarm_112 : decode cX11_swarm 112 = .ok (.istore 4, 2) := by decide +kernel
theorem dX11_swarm_114 : decode cX11_swarm 114 = .ok (.iload 4, 2) := by decide +kernel
theorem dX11_swarm_116 : decode cX11_swarm 116 = .ok (.aload_n 0, 1) := by decide +kernel
theorem dX11_swarm_117 : decode cX11_swarm 117 = .ok (.aload_n 0, 1) := by decide +kernel
theorem dX11_swarm_118 : decode cX11_swarm 118 = .ok (.getfield 9, 3) := by decide +kernel
theorem dX11_swarm_121 : decode cX11_swarm 121 = .ok (.iconst 3, 1) := by decide +kernel
theorem dX11_swarm_122 : decode cX11_swarm 122 = .ok (.iaload, 1) := by decide +kernel
theorem dX11_swarm_123 : decode cX11_swarm 123 = .ok (.invokevirtual 101, 3) := by decide +kernel
theorem dX11_swarm_126 : decode cX11_swarm 126 = .ok (.if_icmp .ge 27, 3) := by decide +kernel
theorem dX11_swarm_129 : decode cX11_swarm 129 = .ok (.iload_n 3, 1) := by decide +kernel
theorem dX11_swarm_130 : decode cX11_swarm 130 = .ok (.aload_n 0, 1) := by decide +kernel
theorem dX11_swarm_131 : decode cX11_swarm 131 = .ok (.getfield 19, 3) := by decide +kernel
theorem dX11_swarm_134 : decode cX11_swarm 134 = .ok (.iload 4, 2) := by decide +kernel
theorem dX11_swarm_136 : decode cX11_swarm 136 = .ok (.iaload, 1) := by decide +kernel
theorem dX11_swarm_137 : decode cX11_swarm 137 = .ok (.ifCond .lt 7, 3) := by decide +kernel
theorem dX11_swarm_140 : decode cX11_swarm 140 = .ok (.iconst 1, 1) := by decide +kernel
theorem dX11_swarm_141 : decode cX11_swarm 141 = .ok (.goto 4, 3) := by decide +kernel
theorem dX11_swarm_144 : decode cX11_swarm 144 = .ok (.iconst 0, 1) := by decide +kernel
theorem dX11_swarm_145 : decode cX11_swarm 145 = .ok (.iadd, 1) := by decide +kernel
theorem dX11_swarm_146 : decode cX11_swarm 146 = .ok (.istore_n 3, 1) := by decide +kernel
theorem dX11_swarm_147 : decode cX11_swarm 147 = .ok (.iinc 4 1, 3) := by decide +kernel
theorem dX11_swarm_150 : decode cX11_swarm 150 = .ok (.goto (-36), 3) := by decide +kernel
theorem dX11_swarm_153 : decode cX11_swarm 153 = .ok (.iload_n 1, 1) := by decide +kernel
theorem dX11_swarm_154 : decode cX11_swarm 154 = .ok (.iconst 4, 1) := by decide +kernel
theorem dX11_swarm_155 : decode cX11_swarm 155 = .ok (.if_icmp .ne 10, 3) := by decide +kernel
theorem dX11_swarm_158 : decode cX11_swarm 158 = .ok (.aload_n 0, 1) := by decide +kernel
theorem dX11_swarm_159 : decode cX11_swarm 159 = .ok (.getfield 95, 3) := by decide +kernel
theorem dX11_swarm_162 : decode cX11_swarm 162 = .ok (.goto 16, 3) := by decide +kernel
theorem dX11_swarm_165 : decode cX11_swarm 165 = .ok (.iload_n 1, 1) := by decide +kernel
theorem dX11_swarm_166 : decode cX11_swarm 166 = .ok (.iconst 5, 1) := by decide +kernel
theorem dX11_swarm_167 : decode cX11_swarm 167 = .ok (.if_icmp .ne 10, 3) := by decide +kernel
theorem dX11_swarm_170 : decode cX11_swarm 170 = .ok (.aload_n 0, 1) := by decide +kernel
theorem dX11_swarm_171 : decode cX11_swarm 171 = .ok (.getfield 98, 3) := by decide +kernel
theorem dX11_swarm_174 : decode cX11_swarm 174 = .ok (.goto 4, 3) := by decide +kernel
theorem dX11_swarm_177 : decode cX11_swarm 177 = .ok (.iload_n 3, 1) := by decide +kernel
theorem dX11_swarm_178 : decode cX11_swarm 178 = .ok (.ireturn, 1) := by decide +kernel
theorem dX11_slotAt_0 : decode cX11_slotAt 0 = .ok (.iconst 0, 1) := by decide +kernel
theorem dX11_slotAt_1 : decode cX11_slotAt 1 = .ok (.istore_n 2, 1) := by decide +kernel
theorem dX11_slotAt_2 : decode cX11_slotAt 2 = .ok (.iload_n 2, 1) := by decide +kernel
theorem dX11_slotAt_3 : decode cX11_slotAt 3 = .ok (.aload_n 0, 1) := by decide +kernel
theorem dX11_slotAt_4 : decode cX11_slotAt 4 = .ok (.aload_n 0, 1) := by decide +kernel
theorem dX11_slotAt_5 : decode cX11_slotAt 5 = .ok (.getfield 9, 3) := by decide +kernel
theorem dX11_slotAt_8 : decode cX11_slotAt 8 = .ok (.iconst 3, 1) := by decide +kernel
theorem dX11_slotAt_9 : decode cX11_slotAt 9 = .ok (.iaload, 1) := by decide +kernel
theorem dX11_slotAt_10 : decode cX11_slotAt 10 = .ok (.invokevirtual 101, 3) := by decide +kernel
theorem dX11_slotAt_13 : decode cX11_slotAt 13 = .ok (.if_icmp .ge 20, 3) := by decide +kernel
theorem dX11_slotAt_16 : decode cX11_slotAt 16 = .ok (.aload_n 0, 1) := by decide +kernel
theorem dX11_slotAt_17 : decode cX11_slotAt 17 = .ok (.iload_n 2, 1) := by decide +kernel
theorem dX11_slotAt_18 : decode cX11_slotAt 18 = .ok (.invokevirtual 104, 3) := by decide +kernel
theorem dX11_slotAt_21 : decode cX11_slotAt 21 = .ok (.iload_n 1, 1) := by decide +kernel
theorem dX11_slotAt_22 : decode cX11_slotAt 22 = .ok (.if_icmp .ne 5, 3) := by decide +kernel
theorem dX11_slotAt_25 : decode cX11_slotAt 25 = .ok (.iload_n 2, 1) := by decide +kernel
theorem dX11_slotAt_26 : decode cX11_slotAt 26 = .ok (.ireturn, 1) := by decide +kernel
theorem dX11_slotAt_27 : decode cX11_slotAt 27 = .ok (.iinc 2 1, 3) := by decide +kernel
theorem dX11_slotAt_30 : decode cX11_slotAt 30 = .ok (.goto (-28), 3) := by decide +kernel
theorem dX11_slotAt_33 : decode cX11_slotAt 33 = .ok (.bipush (-5), 2) := by decide +kernel
theorem dX11_slotAt_35 : decode cX11_slotAt 35 = .ok (.ireturn, 1) := by decide +kernel
theorem dX11_cell_0 : decode cX11_cell 0 = .ok (.iload_n 1, 1) := by decide +kernel
theorem dX11_cell_1 : decode cX11_cell 1 = .ok (.invokestatic 166, 3) := by decide +kernel
theorem dX11_cell_4 : decode cX11_cell 4 = .ok (.ifCond .eq 12, 3) := by decide +kernel
theorem dX11_cell_7 : decode cX11_cell 7 = .ok (.iload_n 2, 1) := by decide +kernel
theorem dX11_cell_8 : decode cX11_cell 8 = .ok (.iconst 0, 1) := by decide +kernel
theorem dX11_cell_9 : decode cX11_cell 9 = .ok (.iconst 4, 1) := by decide +kernel
theorem dX11_cell_10 : decode cX11_cell 10 = .ok (.invokestatic 57, 3) := by decide +kernel
theorem dX11_cell_13 : decode cX11_cell 13 = .ok (.ifCond .ne 5, 3) := by decide +kernel
theorem dX11_cell_16 : decode cX11_cell 16 = .ok (.iconst (-1), 1) := by decide +kernel
theorem dX11_cell_17 : decode cX11_cell 17 = .ok (.ireturn, 1) := by decide +kernel
theorem dX11_cell_18 : decode cX11_cell 18 = .ok (.iload_n 2, 1) := by decide +kernel
theorem dX11_cell_19 : decode cX11_cell 19 = .ok (.ifCond .ne 13, 3) := by decide +kernel
theorem dX11_cell_22 : decode cX11_cell 22 = .ok (.aload_n 0, 1) := by decide +kernel
theorem dX11_cell_23 : decode cX11_cell 23 = .ok (.getfield 9, 3) := by decide +kernel
theorem dX11_cell_26 : decode cX11_cell 26 = .ok (.bipush 72, 2) := by decide +kernel
theorem dX11_cell_28 : decode cX11_cell 28 = .ok (.iload_n 1, 1) := by decide +kernel
theorem dX11_cell_29 : decode cX11_cell 29 = .ok (.iadd, 1) := by decide +kernel
theorem dX11_cell_30 : decode cX11_cell 30 = .ok (.iaload, 1) := by decide +kernel
theorem dX11_cell_31 : decode cX11_cell 31 = .ok (.ireturn, 1) := by decide +kernel
theorem dX11_cell_32 : decode cX11_cell 32 = .ok (.iload_n 2, 1) := by decide +kernel
theorem dX11_cell_33 : decode cX11_cell 33 = .ok (.iconst 1, 1) := by decide +kernel
theorem dX11_cell_34 : decode cX11_cell 34 = .ok (.if_icmp .ne 22, 3) := by decide +kernel
theorem dX11_cell_37 : decode cX11_cell 37 = .ok (.aload_n 0, 1) := by decide +kernel
theorem dX11_cell_38 : decode cX11_cell 38 = .ok (.iload_n 1, 1) := by decide +kernel
theorem dX11_cell_39 : decode cX11_cell 39 = .ok (.invokevirtual 121, 3) := by decide +kernel
theorem dX11_cell_42 : decode cX11_cell 42 = .ok (.ifCond .ge 8, 3) := by decide +kernel
theorem dX11_cell_45 : decode cX11_cell 45 = .ok (.bipush (-5), 2) := by decide +kernel
theorem dX11_cell_47 : decode cX11_cell 47 = .ok (.goto 8, 3) := by decide +kernel
theorem dX11_cell_50 : decode cX11_cell 50 = .ok (.aload_n 0, 1) := by decide +kernel
theorem dX11_cell_51 : decode cX11_cell 51 = .ok (.iload_n 1, 1) := by decide +kernel
theorem dX11_cell_52 : decode cX11_cell 52 = .ok (.invokevirtual 121, 3) := by decide +kernel
theorem dX11_cell_55 : decode cX11_cell 55 = .ok (.ireturn, 1) := by decide +kernel
theorem dX11_cell_56 : decode cX11_cell 56 = .ok (.iload_n 2, 1) := by decide +kernel
theorem dX11_cell_57 : decode cX11_cell 57 = .ok (.iconst 2, 1) := by decide +kernel
theorem dX11_cell_58 : decode cX11_cell 58 = .ok (.if_icmp .ne 9, 3) := by decide +kernel
theorem dX11_cell_61 : decode cX11_cell 61 = .ok (.aload_n 0, 1) := by decide +kernel
theorem dX11_cell_62 : decode cX11_cell 62 = .ok (.iload_n 1, 1) := by decide +kernel
theorem dX11_cell_63 : decode cX11_cell 63 = .ok (.invokevirtual 213, 3) := by decide +kernel
theorem dX11_cell_66 : decode cX11_cell 66 = .ok (.ireturn, 1) := by decide +kernel
theorem dX11_cell_67 : decode cX11_cell 67 = .ok (.iload_n 2, 1) := by decide +kernel
theorem dX11_cell_68 : decode cX11_cell 68 = .ok (.iconst 3, 1) := by decide +kernel
theorem dX11_cell_69 : decode cX11_cell 69 = .ok (.if_icmp .ne 40, 3) := by decide +kernel
theorem dX11_cell_72 : decode cX11_cell 72 = .ok (.aload_n 0, 1) := by decide +kernel
theorem dX11_cell_73 : decode cX11_cell 73 = .ok (.invokevirtual 85, 3) := by decide +kernel
theorem dX11_cell_76 : decode cX11_cell 76 = .ok (.ifCond .ge 7, 3) := by decide +kernel
theorem dX11_cell_79 : decode cX11_cell 79 = .ok (.iconst (-1), 1) := by decide +kernel
theorem dX11_cell_80 : decode cX11_cell 80 = .ok (.goto 17, 3) := by decide +kernel
theorem dX11_cell_83 : decode cX11_cell 83 = .ok (.aload_n 0, 1) := by decide +kernel
theorem dX11_cell_84 : decode cX11_cell 84 = .ok (.aload_n 0, 1) := by decide +kernel
theorem dX11_cell_85 : decode cX11_cell 85 = .ok (.aload_n 0, 1) := by decide +kernel
theorem dX11_cell_86 : decode cX11_cell 86 = .ok (.invokevirtual 85, 3) := by decide +kernel
theorem dX11_cell_89 : decode cX11_cell 89 = .ok (.iconst 0, 1) := by decide +kernel
theorem dX11_cell_90 : decode cX11_cell 90 = .ok (.invokevirtual 61, 3) := by decide +kernel
theorem dX11_cell_93 : decode cX11_cell 93 = .ok (.iload_n 1, 1) := by decide +kernel
theorem dX11_cell_94 : decode cX11_cell 94 = .ok (.invokevirtual 216, 3) := by decide +kernel
theorem dX11_cell_97 : decode cX11_cell 97 = .ok (.istore_n 3, 1) := by decide +kernel
theorem dX11_cell_98 : decode cX11_cell 98 = .ok (.iload_n 3, 1) := by decide +kernel
theorem dX11_cell_99 : decode cX11_cell 99 = .ok (.ifCond .ge 8, 3) := by decide +kernel
theorem dX11_cell_102 : decode cX11_cell 102 = .ok (.bipush (-5), 2) := by decide +kernel
theorem dX11_cell_104 : decode cX11_cell 104 = .ok (.goto 4, 3) := by decide +kernel
theorem dX11_cell_107 : decode cX11_cell 107 = .ok (.iload_n 3, 1) := by decide +kernel
theorem dX11_cell_108 : decode cX11_cell 108 = .ok (.ireturn, 1) := by decide +kernel
theorem dX11_cell_109 : decode cX11_cell 109 = .ok (.iconst 0, 1) := by decide +kernel
theorem dX11_cell_110 : decode cX11_cell 110 = .ok (.istore_n 3, 1) := by decide +kernel
theorem dX11_cell_111 : decode cX11_cell 111 = .ok (.iconst 0, 1) := by decide +kernel
theorem dX11_cell_112 : decode cX11_cell 112 = .ok (.istore 4, 2) := by decide +kernel
theorem dX11_cell_114 : decode cX11_cell 114 = .ok (.iload 4, 2) := by decide +kernel
theorem dX11_cell_116 : decode cX11_cell 116 = .ok (.iconst 4, 1) := by decide +kernel
theorem dX11_cell_117 : decode cX11_cell 117 = .ok (.if_icmp .ge 39, 3) := by decide +kernel
theorem dX11_cell_120 : decode cX11_cell 120 = .ok (.iload_n 3, 1) := by decide +kernel
theorem dX11_cell_121 : decode cX11_cell 121 = .ok (.iload_n 1, 1) := by decide +kernel
theorem dX11_cell_122 : decode cX11_cell 122 = .ok (.iload 4, 2) := by decide +kernel
theorem dX11_cell_124 : decode cX11_cell 124 = .ok (.invokestatic 72, 3) := by decide +kernel
theorem dX11_cell_127 : decode cX11_cell 127 = .ok (.ifCond .lt 20, 3) := by decide +kernel
theorem dX11_cell_130 : decode cX11_cell 130 = .ok (.aload_n 0, 1) := by decide +kernel
theorem dX11_cell_131 : decode cX11_cell 131 = .ok (.iload_n 1, 1) := by decide +kernel
theorem dX11_cell_132 : decode cX11_cell 132 = .ok (.iload 4, 2) := by decide +kernel
theorem dX11_cell_134 : decode cX11_cell 134 = .ok (.invokestatic 72, 3) := by decide +kernel
theorem dX11_cell_137 : decode cX11_cell 137 = .ok (.invokevirtual 69, 3) := by decide +kernel
theorem dX11_cell_140 : decode cX11_cell 140 = .ok (.ifCond .ne 7, 3) := by decide +kernel
theorem dX11_cell_143 : decode cX11_cell 143 = .ok (.iconst 1, 1) := by decide +kernel
theorem dX11_cell_144 : decode cX11_cell 144 = .ok (.goto 4, 3) := by decide +kernel
theorem dX11_cell_147 : decode cX11_cell 147 = .ok (.iconst 0, 1) := by decide +kernel
theorem dX11_cell_148 : decode cX11_cell 148 = .ok (.iadd, 1) := by decide +kernel
theorem dX11_cell_149 : decode cX11_cell 149 = .ok (.istore_n 3, 1) := by decide +kernel
theorem dX11_cell_150 : decode cX11_cell 150 = .ok (.iinc 4 1, 3) := by decide +kernel
theorem dX11_cell_153 : decode cX11_cell 153 = .ok (.goto (-39), 3) := by decide +kernel
theorem dX11_cell_156 : decode cX11_cell 156 = .ok (.iload_n 3, 1) := by decide +kernel
theorem dX11_cell_157 : decode cX11_cell 157 = .ok (.ireturn, 1) := by decide +kernel
theorem dX11_distance_0 : decode cX11_distance 0 = .ok (.iload_n 1, 1) := by decide +kernel
theorem dX11_distance_1 : decode cX11_distance 1 = .ok (.invokestatic 166, 3) := by decide +kernel
theorem dX11_distance_4 : decode cX11_distance 4 = .ok (.ifCond .eq 10, 3) := by decide +kernel
theorem dX11_distance_7 : decode cX11_distance 7 = .ok (.iload_n 2, 1) := by decide +kernel
theorem dX11_distance_8 : decode cX11_distance 8 = .ok (.invokestatic 166, 3) := by decide +kernel
theorem dX11_distance_11 : decode cX11_distance 11 = .ok (.ifCond .ne 5, 3) := by decide +kernel
theorem dX11_distance_14 : decode cX11_distance 14 = .ok (.iconst (-1), 1) := by decide +kernel
theorem dX11_distance_15 : decode cX11_distance 15 = .ok (.ireturn, 1) := by decide +kernel
theorem dX11_distance_16 : decode cX11_distance 16 = .ok (.aload_n 0, 1) := by decide +kernel
theorem dX11_distance_17 : decode cX11_distance 17 = .ok (.iload_n 1, 1) := by decide +kernel
theorem dX11_distance_18 : decode cX11_distance 18 = .ok (.iload_n 2, 1) := by decide +kernel
theorem dX11_distance_19 : decode cX11_distance 19 = .ok (.invokevirtual 216, 3) := by decide +kernel
theorem dX11_distance_22 : decode cX11_distance 22 = .ok (.istore_n 3, 1) := by decide +kernel
theorem dX11_distance_23 : decode cX11_distance 23 = .ok (.iload_n 3, 1) := by decide +kernel
theorem dX11_distance_24 : decode cX11_distance 24 = .ok (.ifCond .ge 8, 3) := by decide +kernel
theorem dX11_distance_27 : decode cX11_distance 27 = .ok (.bipush (-5), 2) := by decide +kernel
theorem dX11_distance_29 : decode cX11_distance 29 = .ok (.goto 4, 3) := by decide +kernel
theorem dX11_distance_32 : decode cX11_distance 32 = .ok (.iload_n 3, 1) := by decide +kernel
theorem dX11_distance_33 : decode cX11_distance 33 = .ok (.ireturn, 1) := by decide +kernel
theorem dX11_slot_0 : decode cX11_slot 0 = .ok (.iload_n 1, 1) := by decide +kernel
theorem dX11_slot_1 : decode cX11_slot 1 = .ok (.iconst 0, 1) := by decide +kernel
theorem dX11_slot_2 : decode cX11_slot 2 = .ok (.iconst 2, 1) := by decide +kernel
theorem dX11_slot_3 : decode cX11_slot 3 = .ok (.invokestatic 57, 3) := by decide +kernel
theorem dX11_slot_6 : decode cX11_slot 6 = .ok (.ifCond .eq 11, 3) := by decide +kernel
theorem dX11_slot_9 : decode cX11_slot 9 = .ok (.aload_n 0, 1) := by decide +kernel
theorem dX11_slot_10 : decode cX11_slot 10 = .ok (.iload_n 1, 1) := by decide +kernel
theorem dX11_slot_11 : decode cX11_slot 11 = .ok (.invokevirtual 101, 3) := by decide +kernel
theorem dX11_slot_14 : decode cX11_slot 14 = .ok (.ifCond .ne 6, 3) := by decide +kernel
theorem dX11_slot_17 : decode cX11_slot 17 = .ok (.bipush (-100), 2) := by decide +kernel
theorem dX11_slot_19 : decode cX11_slot 19 = .ok (.ireturn, 1) := by decide +kernel
theorem dX11_slot_20 : decode cX11_slot 20 = .ok (.aload_n 0, 1) := by decide +kernel
theorem dX11_slot_21 : decode cX11_slot 21 = .ok (.iload_n 1, 1) := by decide +kernel
theorem dX11_slot_22 : decode cX11_slot 22 = .ok (.invokevirtual 101, 3) := by decide +kernel
theorem dX11_slot_25 : decode cX11_slot 25 = .ok (.istore_n 3, 1) := by decide +kernel
theorem dX11_slot_26 : decode cX11_slot 26 = .ok (.iload_n 2, 1) := by decide +kernel
theorem dX11_slot_27 : decode cX11_slot 27 = .ok (.iconst 0, 1) := by decide +kernel
theorem dX11_slot_28 : decode cX11_slot 28 = .ok (.iconst 1, 1) := by decide +kernel
theorem dX11_slot_29 : decode cX11_slot 29 = .ok (.invokestatic 57, 3) := by decide +kernel
theorem dX11_slot_32 : decode cX11_slot 32 = .ok (.ifCond .eq 17, 3) := by decide +kernel
theorem dX11_slot_35 : decode cX11_slot 35 = .ok (.iload_n 2, 1) := by decide +kernel
theorem dX11_slot_36 : decode cX11_slot 36 = .ok (.ifCond .ne 7, 3) := by decide +kernel
theorem dX11_slot_39 : decode cX11_slot 39 = .ok (.iload_n 3, 1) := by decide +kernel
theorem dX11_slot_40 : decode cX11_slot 40 = .ok (.goto 8, 3) := by decide +kernel
theorem dX11_slot_43 : decode cX11_slot 43 = .ok (.aload_n 0, 1) := by decide +kernel
theorem dX11_slot_44 : decode cX11_slot 44 = .ok (.iload_n 1, 1) := by decide +kernel
theorem dX11_slot_45 : decode cX11_slot 45 = .ok (.invokevirtual 82, 3) := by decide +kernel
theorem dX11_slot_48 : decode cX11_slot 48 = .ok (.ireturn, 1) := by decide +kernel
theorem dX11_slot_49 : decode cX11_slot 49 = .ok (.iload_n 2, 1) := by decide +kernel
theorem dX11_slot_50 : decode cX11_slot 50 = .ok (.bipush 10, 2) := by decide +kernel
theorem dX11_slot_52 : decode cX11_slot 52 = .ok (.bipush 9, 2) := by decide +kernel
theorem dX11_slot_54 : decode cX11_slot 54 = .ok (.iload_n 3, 1) := by decide +kernel
theorem dX11_slot_55 : decode cX11_slot 55 = .ok (.iadd, 1) := by decide +kernel
theorem dX11_slot_56 : decode cX11_slot 56 = .ok (.invokestatic 57, 3) := by decide +kernel
theorem dX11_slot_59 : decode cX11_slot 59 = .ok (.ifCond .eq 15, 3) := by decide +kernel
theorem dX11_slot_62 : decode cX11_slot 62 = .ok (.aload_n 0, 1) := by decide +kernel
theorem dX11_slot_63 : decode cX11_slot 63 = .ok (.iload_n 1, 1) := by decide +kernel
theorem dX11_slot_64 : decode cX11_slot 64 = .ok (.iload_n 2, 1) := by decide +kernel
theorem dX11_slot_65 : decode cX11_slot 65 = .ok (.bipush 10, 2) := by decide +kernel
theorem dX11_slot_67 : decode cX11_slot 67 = .ok (.isub, 1) := by decide +kernel
theorem dX11_slot_68 : decode cX11_slot 68 = .ok (.invokevirtual 89, 3) := by decide +kernel
theorem dX11_slot_71 : decode cX11_slot 71 = .ok (.goto 30, 3) := by decide +kernel
theorem dX11_slot_74 : decode cX11_slot 74 = .ok (.iload_n 2, 1) := by decide +kernel
theorem dX11_slot_75 : decode cX11_slot 75 = .ok (.bipush 30, 2) := by decide +kernel
theorem dX11_slot_77 : decode cX11_slot 77 = .ok (.bipush 29, 2) := by decide +kernel
theorem dX11_slot_79 : decode cX11_slot 79 = .ok (.iload_n 3, 1) := by decide +kernel
theorem dX11_slot_80 : decode cX11_slot 80 = .ok (.iadd, 1) := by decide +kernel
theorem dX11_slot_81 : decode cX11_slot 81 = .ok (.invokestatic 57, 3) := by decide +kernel
theorem dX11_slot_84 : decode cX11_slot 84 = .ok (.ifCond .eq 15, 3) := by decide +kernel
theorem dX11_slot_87 : decode cX11_slot 87 = .ok (.aload_n 0, 1) := by decide +kernel
theorem dX11_slot_88 : decode cX11_slot 88 = .ok (.iload_n 1, 1) := by decide +kernel
theorem dX11_slot_89 : decode cX11_slot 89 = .ok (.iload_n 2, 1) := by decide +kernel
theorem dX11_slot_90 : decode cX11_slot 90 = .ok (.bipush 30, 2) := by decide +kernel
theorem dX11_slot_92 : decode cX11_slot 92 = .ok (.isub, 1) := by decide +kernel
theorem dX11_slot_93 : decode cX11_slot 93 = .ok (.invokevirtual 92, 3) := by decide +kernel
theorem dX11_slot_96 : decode cX11_slot 96 = .ok (.goto 5, 3) := by decide +kernel
theorem dX11_slot_99 : decode cX11_slot 99 = .ok (.bipush (-100), 2) := by decide +kernel
theorem dX11_slot_101 : decode cX11_slot 101 = .ok (.ireturn, 1) := by decide +kernel
theorem dX11_turnsRound_0 : decode cX11_turnsRound 0 = .ok (.aload_n 0, 1) := by decide +kernel
theorem dX11_turnsRound_1 : decode cX11_turnsRound 1 = .ok (.iload_n 3, 1) := by decide +kernel
theorem dX11_turnsRound_2 : decode cX11_turnsRound 2 = .ok (.iconst 3, 1) := by decide +kernel
theorem dX11_turnsRound_3 : decode cX11_turnsRound 3 = .ok (.if_icmp .le 13, 3) := by decide +kernel
theorem dX11_turnsRound_6 : decode cX11_turnsRound 6 = .ok (.aload_n 0, 1) := by decide +kernel
theorem dX11_turnsRound_7 : decode cX11_turnsRound 7 = .ok (.iload_n 1, 1) := by decide +kernel
theorem dX11_turnsRound_8 : decode cX11_turnsRound 8 = .ok (.iload_n 2, 1) := by decide +kernel
theorem dX11_turnsRound_9 : decode cX11_turnsRound 9 = .ok (.invokevirtual 89, 3) := by decide +kernel
theorem dX11_turnsRound_12 : decode cX11_turnsRound 12 = .ok (.ineg, 1) := by decide +kernel
theorem dX11_turnsRound_13 : decode cX11_turnsRound 13 = .ok (.goto 9, 3) := by decide +kernel
theorem dX11_turnsRound_16 : decode cX11_turnsRound 16 = .ok (.aload_n 0, 1) := by decide +kernel
theorem dX11_turnsRound_17 : decode cX11_turnsRound 17 = .ok (.iload_n 1, 1) := by decide +kernel
theorem dX11_turnsRound_18 : decode cX11_turnsRound 18 = .ok (.iload_n 2, 1) := by decide +kernel
theorem dX11_turnsRound_19 : decode cX11_turnsRound 19 = .ok (.invokevirtual 89, 3) := by decide +kernel
theorem dX11_turnsRound_22 : decode cX11_turnsRound 22 = .ok (.putfield 219, 3) := by decide +kernel
theorem dX11_turnsRound_25 : decode cX11_turnsRound 25 = .ok (.aload_n 0, 1) := by decide +kernel
theorem dX11_turnsRound_26 : decode cX11_turnsRound 26 = .ok (.aload_n 0, 1) := by decide +kernel
theorem dX11_turnsRound_27 : decode cX11_turnsRound 27 = .ok (.iload_n 1, 1) := by decide +kernel
theorem dX11_turnsRound_28 : decode cX11_turnsRound 28 = .ok (.iload_n 2, 1) := by decide +kernel
theorem dX11_turnsRound_29 : decode cX11_turnsRound 29 = .ok (.invokevirtual 92, 3) := by decide +kernel
theorem dX11_turnsRound_32 : decode cX11_turnsRound 32 = .ok (.putfield 222, 3) := by decide +kernel
theorem dX11_turnsRound_35 : decode cX11_turnsRound 35 = .ok (.iconst 0, 1) := by decide +kernel
theorem dX11_turnsRound_36 : decode cX11_turnsRound 36 = .ok (.istore 4, 2) := by decide +kernel
theorem dX11_turnsRound_38 : decode cX11_turnsRound 38 = .ok (.iload 4, 2) := by decide +kernel
theorem dX11_turnsRound_40 : decode cX11_turnsRound 40 = .ok (.iload_n 3, 1) := by decide +kernel
theorem dX11_turnsRound_41 : decode cX11_turnsRound 41 = .ok (.iconst 4, 1) := by decide +kernel
theorem dX11_turnsRound_42 : decode cX11_turnsRound 42 = .ok (.irem, 1) := by decide +kernel
theorem dX11_turnsRound_43 : decode cX11_turnsRound 43 = .ok (.if_icmp .ge 30, 3) := by decide +kernel
theorem dX11_turnsRound_46 : decode cX11_turnsRound 46 = .ok (.aload_n 0, 1) := by decide +kernel
theorem dX11_turnsRound_47 : decode cX11_turnsRound 47 = .ok (.getfield 219, 3) := by decide +kernel
theorem dX11_turnsRound_50 : decode cX11_turnsRound 50 = .ok (.istore 5, 2) := by decide +kernel
theorem dX11_turnsRound_52 : decode cX11_turnsRound 52 = .ok (.aload_n 0, 1) := by decide +kernel
theorem dX11_turnsRound_53 : decode cX11_turnsRound 53 = .ok (.aload_n 0, 1) := by decide +kernel
theorem dX11_turnsRound_54 : decode cX11_turnsRound 54 = .ok (.getfield 222, 3) := by decide +kernel
theorem dX11_turnsRound_57 : decode cX11_turnsRound 57 = .ok (.ineg, 1) := by decide +kernel
theorem dX11_turnsRound_58 : decode cX11_turnsRound 58 = .ok (.putfield 219, 3) := by decide +kernel
theorem dX11_turnsRound_61 : decode cX11_turnsRound 61 = .ok (.aload_n 0, 1) := by decide +kernel
theorem dX11_turnsRound_62 : decode cX11_turnsRound 62 = .ok (.iload 5, 2) := by decide +kernel
theorem dX11_turnsRound_64 : decode cX11_turnsRound 64 = .ok (.putfield 222, 3) := by decide +kernel
theorem dX11_turnsRound_67 : decode cX11_turnsRound 67 = .ok (.iinc 4 1, 3) := by decide +kernel
theorem dX11_turnsRound_70 : decode cX11_turnsRound 70 = .ok (.goto (-32), 3) := by decide +kernel
theorem dX11_turnsRound_73 : decode cX11_turnsRound 73 = .ok (.return_, 1) := by decide +kernel
theorem dX11_isLike_0 : decode cX11_isLike 0 = .ok (.aload_n 0, 1) := by decide +kernel
theorem dX11_isLike_1 : decode cX11_isLike 1 = .ok (.iload_n 1, 1) := by decide +kernel
theorem dX11_isLike_2 : decode cX11_isLike 2 = .ok (.iconst 0, 1) := by decide +kernel
theorem dX11_isLike_3 : decode cX11_isLike 3 = .ok (.iload_n 2, 1) := by decide +kernel
theorem dX11_isLike_4 : decode cX11_isLike 4 = .ok (.invokevirtual 225, 3) := by decide +kernel
theorem dX11_isLike_7 : decode cX11_isLike 7 = .ok (.aload_n 0, 1) := by decide +kernel
theorem dX11_isLike_8 : decode cX11_isLike 8 = .ok (.iload_n 3, 1) := by decide +kernel
theorem dX11_isLike_9 : decode cX11_isLike 9 = .ok (.iconst 0, 1) := by decide +kernel
theorem dX11_isLike_10 : decode cX11_isLike 10 = .ok (.invokevirtual 61, 3) := by decide +kernel
theorem dX11_isLike_13 : decode cX11_isLike 13 = .ok (.bipush 12, 2) := by decide +kernel
theorem dX11_isLike_15 : decode cX11_isLike 15 = .ok (.irem, 1) := by decide +kernel
theorem dX11_isLike_16 : decode cX11_isLike 16 = .ok (.aload_n 0, 1) := by decide +kernel
theorem dX11_isLike_17 : decode cX11_isLike 17 = .ok (.getfield 219, 3) := by decide +kernel
theorem dX11_isLike_20 : decode cX11_isLike 20 = .ok (.isub, 1) := by decide +kernel
theorem dX11_isLike_21 : decode cX11_isLike 21 = .ok (.istore 4, 2) := by decide +kernel
theorem dX11_isLike_23 : decode cX11_isLike 23 = .ok (.aload_n 0, 1) := by decide +kernel
theorem dX11_isLike_24 : decode cX11_isLike 24 = .ok (.iload_n 3, 1) := by decide +kernel
theorem dX11_isLike_25 : decode cX11_isLike 25 = .ok (.iconst 0, 1) := by decide +kernel
theorem dX11_isLike_26 : decode cX11_isLike 26 = .ok (.invokevirtual 61, 3) := by decide +kernel
theorem dX11_isLike_29 : decode cX11_isLike 29 = .ok (.bipush 12, 2) := by decide +kernel
theorem dX11_isLike_31 : decode cX11_isLike 31 = .ok (.idiv, 1) := by decide +kernel
theorem dX11_isLike_32 : decode cX11_isLike 32 = .ok (.aload_n 0, 1) := by decide +kernel
theorem dX11_isLike_33 : decode cX11_isLike 33 = .ok (.getfield 222, 3) := by decide +kernel
theorem dX11_isLike_36 : decode cX11_isLike 36 = .ok (.isub, 1) := by decide +kernel
theorem dX11_isLike_37 : decode cX11_isLike 37 = .ok (.istore 5, 2) := by decide +kernel
theorem dX11_isLike_39 : decode cX11_isLike 39 = .ok (.iconst 0, 1) := by decide +kernel
theorem dX11_isLike_40 : decode cX11_isLike 40 = .ok (.istore 6, 2) := by decide +kernel
theorem dX11_isLike_42 : decode cX11_isLike 42 = .ok (.iload 6, 2) := by decide +kernel
theorem dX11_isLike_44 : decode cX11_isLike 44 = .ok (.aload_n 0, 1) := by decide +kernel
theorem dX11_isLike_45 : decode cX11_isLike 45 = .ok (.iload_n 1, 1) := by decide +kernel
theorem dX11_isLike_46 : decode cX11_isLike 46 = .ok (.invokevirtual 101, 3) := by decide +kernel
theorem dX11_isLike_49 : decode cX11_isLike 49 = .ok (.if_icmp .ge 74, 3) := by decide +kernel
theorem dX11_isLike_52 : decode cX11_isLike 52 = .ok (.aload_n 0, 1) := by decide +kernel
theorem dX11_isLike_53 : decode cX11_isLike 53 = .ok (.iload_n 1, 1) := by decide +kernel
theorem dX11_isLike_54 : decode cX11_isLike 54 = .ok (.iload 6, 2) := by decide +kernel
theorem dX11_isLike_56 : decode cX11_isLike 56 = .ok (.iload_n 2, 1) := by decide +kernel
theorem dX11_isLike_57 : decode cX11_isLike 57 = .ok (.invokevirtual 225, 3) := by decide +kernel
theorem dX11_isLike_60 : decode cX11_isLike 60 = .ok (.aload_n 0, 1) := by decide +kernel
theorem dX11_isLike_61 : decode cX11_isLike 61 = .ok (.getfield 219, 3) := by decide +kernel
theorem dX11_isLike_64 : decode cX11_isLike 64 = .ok (.iload 4, 2) := by decide +kernel
theorem dX11_isLike_66 : decode cX11_isLike 66 = .ok (.iadd, 1) := by decide +kernel
theorem dX11_isLike_67 : decode cX11_isLike 67 = .ok (.istore 7, 2) := by decide +kernel
theorem dX11_isLike_69 : decode cX11_isLike 69 = .ok (.aload_n 0, 1) := by decide +kernel
theorem dX11_isLike_70 : decode cX11_isLike 70 = .ok (.getfield 222, 3) := by decide +kernel
theorem dX11_isLike_73 : decode cX11_isLike 73 = .ok (.iload 5, 2) := by decide +kernel
theorem dX11_isLike_75 : decode cX11_isLike 75 = .ok (.iadd, 1) := by decide +kernel
theorem dX11_isLike_76 : decode cX11_isLike 76 = .ok (.istore 8, 2) := by decide +kernel
theorem dX11_isLike_78 : decode cX11_isLike 78 = .ok (.iload 7, 2) := by decide +kernel
theorem dX11_isLike_80 : decode cX11_isLike 80 = .ok (.iconst 0, 1) := by decide +kernel
theorem dX11_isLike_81 : decode cX11_isLike 81 = .ok (.bipush 11, 2) := by decide +kernel
theorem dX11_isLike_83 : decode cX11_isLike 83 = .ok (.invokestatic 57, 3) := by decide +kernel
theorem dX11_isLike_86 : decode cX11_isLike 86 = .ok (.ifCond .eq 29, 3) := by decide +kernel
theorem dX11_isLike_89 : decode cX11_isLike 89 = .ok (.iload 8, 2) := by decide +kernel
theorem dX11_isLike_91 : decode cX11_isLike 91 = .ok (.iconst 0, 1) := by decide +kernel
theorem dX11_isLike_92 : decode cX11_isLike 92 = .ok (.bipush 9, 2) := by decide +kernel
theorem dX11_isLike_94 : decode cX11_isLike 94 = .ok (.invokestatic 57, 3) := by decide +kernel
theorem dX11_isLike_97 : decode cX11_isLike 97 = .ok (.ifCond .eq 18, 3) := by decide +kernel
theorem dX11_isLike_100 : decode cX11_isLike 100 = .ok (.aload_n 0, 1) := by decide +kernel
theorem dX11_isLike_101 : decode cX11_isLike 101 = .ok (.bipush 12, 2) := by decide +kernel
theorem dX11_isLike_103 : decode cX11_isLike 103 = .ok (.iload 8, 2) := by decide +kernel
theorem dX11_isLike_105 : decode cX11_isLike 105 = .ok (.imul, 1) := by decide +kernel
theorem dX11_isLike_106 : decode cX11_isLike 106 = .ok (.iload 7, 2) := by decide +kernel
theorem dX11_isLike_108 : decode cX11_isLike 108 = .ok (.iadd, 1) := by decide +kernel
theorem dX11_isLike_109 : decode cX11_isLike 109 = .ok (.invokevirtual 121, 3) := by decide +kernel
theorem dX11_isLike_112 : decode cX11_isLike 112 = .ok (.ifCond .ge 5, 3) := by decide +kernel
theorem dX11_isLike_115 : decode cX11_isLike 115 = .ok (.iconst 0, 1) := by decide +kernel
theorem dX11_isLike_116 : decode cX11_isLike 116 = .ok (.ireturn, 1) := by decide +kernel
theorem dX11_isLike_117 : decode cX11_isLike 117 = .ok (.iinc 6 1, 3) := by decide +kernel
theorem dX11_isLike_120 : decode cX11_isLike 120 = .ok (.goto (-78), 3) := by decide +kernel
theorem dX11_isLike_123 : decode cX11_isLike 123 = .ok (.iconst 1, 1) := by decide +kernel
theorem dX11_isLike_124 : decode cX11_isLike 124 = .ok (.ireturn, 1) := by decide +kernel
theorem dX11_recognized_0 : decode cX11_recognized 0 = .ok (.iload_n 1, 1) := by decide +kernel
theorem dX11_recognized_1 : decode cX11_recognized 1 = .ok (.iconst 0, 1) := by decide +kernel
theorem dX11_recognized_2 : decode cX11_recognized 2 = .ok (.iconst 2, 1) := by decide +kernel
theorem dX11_recognized_3 : decode cX11_recognized 3 = .ok (.invokestatic 57, 3) := by decide +kernel
theorem dX11_recognized_6 : decode cX11_recognized 6 = .ok (.ifCond .ne 5, 3) := by decide +kernel
theorem dX11_recognized_9 : decode cX11_recognized 9 = .ok (.iconst (-1), 1) := by decide +kernel
theorem dX11_recognized_10 : decode cX11_recognized 10 = .ok (.ireturn, 1) := by decide +kernel
theorem dX11_recognized_11 : decode cX11_recognized 11 = .ok (.aload_n 0, 1) := by decide +kernel
theorem dX11_recognized_12 : decode cX11_recognized 12 = .ok (.iload_n 1, 1) := by decide +kernel
theorem dX11_recognized_13 : decode cX11_recognized 13 = .ok (.invokevirtual 101, 3) := by decide +kernel
theorem dX11_recognized_16 : decode cX11_recognized 16 = .ok (.ifCond .ne 6, 3) := by decide +kernel
theorem dX11_recognized_19 : decode cX11_recognized 19 = .ok (.bipush (-3), 2) := by decide +kernel
theorem dX11_recognized_21 : decode cX11_recognized 21 = .ok (.ireturn, 1) := by decide +kernel
theorem dX11_recognized_22 : decode cX11_recognized 22 = .ok (.iconst 0, 1) := by decide +kernel
theorem dX11_recognized_23 : decode cX11_recognized 23 = .ok (.istore_n 2, 1) := by decide +kernel
theorem dX11_recognized_24 : decode cX11_recognized 24 = .ok (.iload_n 2, 1) := by decide +kernel
theorem dX11_recognized_25 : decode cX11_recognized 25 = .ok (.bipush 8, 2) := by decide +kernel
theorem dX11_recognized_27 : decode cX11_recognized 27 = .ok (.if_icmp .ge 55, 3) := by decide +kernel
theorem dX11_recognized_30 : decode cX11_recognized 30 = .ok (.aload_n 0, 1) := by decide +kernel
theorem dX11_recognized_31 : decode cX11_recognized 31 = .ok (.invokevirtual 157, 3) := by decide +kernel
theorem dX11_recognized_34 : decode cX11_recognized 34 = .ok (.aload_n 0, 1) := by decide +kernel
theorem dX11_recognized_35 : decode cX11_recognized 35 = .ok (.iload_n 1, 1) := by decide +kernel
theorem dX11_recognized_36 : decode cX11_recognized 36 = .ok (.invokevirtual 101, 3) := by decide +kernel
theorem dX11_recognized_39 : decode cX11_recognized 39 = .ok (.if_icmp .ne 43, 3) := by decide +kernel
theorem dX11_recognized_42 : decode cX11_recognized 42 = .ok (.iconst 0, 1) := by decide +kernel
theorem dX11_recognized_43 : decode cX11_recognized 43 = .ok (.istore_n 3, 1) := by decide +kernel
theorem dX11_recognized_44 : decode cX11_recognized 44 = .ok (.iload_n 3, 1) := by decide +kernel
theorem dX11_recognized_45 : decode cX11_recognized 45 = .ok (.bipush 10, 2) := by decide +kernel
theorem dX11_recognized_47 : decode cX11_recognized 47 = .ok (.if_icmp .ge 29, 3) := by decide +kernel
theorem dX11_recognized_50 : decode cX11_recognized 50 = .ok (.aload_n 0, 1) := by decide +kernel
theorem dX11_recognized_51 : decode cX11_recognized 51 = .ok (.iload_n 3, 1) := by decide +kernel
theorem dX11_recognized_52 : decode cX11_recognized 52 = .ok (.invokevirtual 65, 3) := by decide +kernel
theorem dX11_recognized_55 : decode cX11_recognized 55 = .ok (.ifCond .eq 15, 3) := by decide +kernel
theorem dX11_recognized_58 : decode cX11_recognized 58 = .ok (.aload_n 0, 1) := by decide +kernel
theorem dX11_recognized_59 : decode cX11_recognized 59 = .ok (.iload_n 1, 1) := by decide +kernel
theorem dX11_recognized_60 : decode cX11_recognized 60 = .ok (.iload_n 2, 1) := by decide +kernel
theorem dX11_recognized_61 : decode cX11_recognized 61 = .ok (.iload_n 3, 1) := by decide +kernel
theorem dX11_recognized_62 : decode cX11_recognized 62 = .ok (.invokevirtual 228, 3) := by decide +kernel
theorem dX11_recognized_65 : decode cX11_recognized 65 = .ok (.ifCond .eq 5, 3) := by decide +kernel
theorem dX11_recognized_68 : decode cX11_recognized 68 = .ok (.iload_n 2, 1) := by decide +kernel
theorem dX11_recognized_69 : decode cX11_recognized 69 = .ok (.ireturn, 1) := by decide +kernel
theorem dX11_recognized_70 : decode cX11_recognized 70 = .ok (.iinc 3 1, 3) := by decide +kernel
theorem dX11_recognized_73 : decode cX11_recognized 73 = .ok (.goto (-29), 3) := by decide +kernel
theorem dX11_recognized_76 : decode cX11_recognized 76 = .ok (.iinc 2 1, 3) := by decide +kernel
theorem dX11_recognized_79 : decode cX11_recognized 79 = .ok (.goto (-55), 3) := by decide +kernel
theorem dX11_recognized_82 : decode cX11_recognized 82 = .ok (.bipush (-5), 2) := by decide +kernel
theorem dX11_recognized_84 : decode cX11_recognized 84 = .ok (.ireturn, 1) := by decide +kernel
theorem dX11_forms_0 : decode cX11_forms 0 = .ok (.aload_n 0, 1) := by decide +kernel
theorem dX11_forms_1 : decode cX11_forms 1 = .ok (.getfield 9, 3) := by decide +kernel
theorem dX11_forms_4 : decode cX11_forms 4 = .ok (.iconst 2, 1) := by decide +kernel
theorem dX11_forms_5 : decode cX11_forms 5 = .ok (.iconst (-1), 1) := by decide +kernel
theorem dX11_forms_6 : decode cX11_forms 6 = .ok (.iastore, 1) := by decide +kernel
theorem dX11_forms_7 : decode cX11_forms 7 = .ok (.iconst 0, 1) := by decide +kernel
theorem dX11_forms_8 : decode cX11_forms 8 = .ok (.istore_n 2, 1) := by decide +kernel
theorem dX11_forms_9 : decode cX11_forms 9 = .ok (.iload_n 2, 1) := by decide +kernel
theorem dX11_forms_10 : decode cX11_forms 10 = .ok (.iload_n 1, 1) := by decide +kernel
theorem dX11_forms_11 : decode cX11_forms 11 = .ok (.if_icmp .gt 22, 3) := by decide +kernel
theorem dX11_forms_14 : decode cX11_forms 14 = .ok (.aload_n 0, 1) := by decide +kernel
theorem dX11_forms_15 : decode cX11_forms 15 = .ok (.invokevirtual 209, 3) := by decide +kernel
theorem dX11_forms_18 : decode cX11_forms 18 = .ok (.ifCond .eq 5, 3) := by decide +kernel
theorem dX11_forms_21 : decode cX11_forms 21 = .ok (.iload_n 2, 1) := by decide +kernel
theorem dX11_forms_22 : decode cX11_forms 22 = .ok (.ireturn, 1) := by decide +kernel
theorem dX11_forms_23 : decode cX11_forms 23 = .ok (.aload_n 0, 1) := by decide +kernel
theorem dX11_forms_24 : decode cX11_forms 24 = .ok (.invokevirtual 148, 3) := by decide +kernel
theorem dX11_forms_27 : decode cX11_forms 27 = .ok (.iinc 2 1, 3) := by decide +kernel
theorem dX11_forms_30 : decode cX11_forms 30 = .ok (.goto (-21), 3) := by decide +kernel
theorem dX11_forms_33 : decode cX11_forms 33 = .ok (.bipush (-5), 2) := by decide +kernel
theorem dX11_forms_35 : decode cX11_forms 35 = .ok (.ireturn, 1) := by decide +kernel
theorem dX11_healed_0 : decode cX11_healed 0 = .ok (.iload_n 1, 1) := by decide +kernel
theorem dX11_healed_1 : decode cX11_healed 1 = .ok (.iconst 0, 1) := by decide +kernel
theorem dX11_healed_2 : decode cX11_healed 2 = .ok (.bipush 40, 2) := by decide +kernel
theorem dX11_healed_4 : decode cX11_healed 4 = .ok (.invokestatic 57, 3) := by decide +kernel
theorem dX11_healed_7 : decode cX11_healed 7 = .ok (.ifCond .ne 6, 3) := by decide +kernel
theorem dX11_healed_10 : decode cX11_healed 10 = .ok (.bipush (-2), 2) := by decide +kernel
theorem dX11_healed_12 : decode cX11_healed 12 = .ok (.ireturn, 1) := by decide +kernel
theorem dX11_healed_13 : decode cX11_healed 13 = .ok (.aload_n 0, 1) := by decide +kernel
theorem dX11_healed_14 : decode cX11_healed 14 = .ok (.invokevirtual 85, 3) := by decide +kernel
theorem dX11_healed_17 : decode cX11_healed 17 = .ok (.ifCond .ge 6, 3) := by decide +kernel
theorem dX11_healed_20 : decode cX11_healed 20 = .ok (.bipush (-3), 2) := by decide +kernel
theorem dX11_healed_22 : decode cX11_healed 22 = .ok (.ireturn, 1) := by decide +kernel
theorem dX11_healed_23 : decode cX11_healed 23 = .ok (.aload_n 0, 1) := by decide +kernel
theorem dX11_healed_24 : decode cX11_healed 24 = .ok (.iconst 0, 1) := by decide +kernel
theorem dX11_healed_25 : decode cX11_healed 25 = .ok (.bipush 10, 2) := by decide +kernel
theorem dX11_healed_27 : decode cX11_healed 27 = .ok (.invokevirtual 53, 3) := by decide +kernel
theorem dX11_healed_30 : decode cX11_healed 30 = .ok (.aload_n 0, 1) := by decide +kernel
theorem dX11_healed_31 : decode cX11_healed 31 = .ok (.iload_n 1, 1) := by decide +kernel
theorem dX11_healed_32 : decode cX11_healed 32 = .ok (.invokevirtual 231, 3) := by decide +kernel
theorem dX11_healed_35 : decode cX11_healed 35 = .ok (.istore_n 2, 1) := by decide +kernel
theorem dX11_healed_36 : decode cX11_healed 36 = .ok (.aload_n 0, 1) := by decide +kernel
theorem dX11_healed_37 : decode cX11_healed 37 = .ok (.bipush 10, 2) := by decide +kernel
theorem dX11_healed_39 : decode cX11_healed 39 = .ok (.iconst 0, 1) := by decide +kernel
theorem dX11_healed_40 : decode cX11_healed 40 = .ok (.invokevirtual 53, 3) := by decide +kernel
theorem dX11_healed_43 : decode cX11_healed 43 = .ok (.iload_n 2, 1) := by decide +kernel
theorem dX11_healed_44 : decode cX11_healed 44 = .ok (.ireturn, 1) := by decide +kernel
theorem dX11_healedWithout_0 : decode cX11_healedWithout 0 = .ok (.aload_n 0, 1) := by decide +kernel
theorem dX11_healedWithout_1 : decode cX11_healedWithout 1 = .ok (.iload_n 1, 1) := by decide +kernel
theorem dX11_healedWithout_2 : decode cX11_healedWithout 2 = .ok (.invokevirtual 65, 3) := by decide +kernel
theorem dX11_healedWithout_5 : decode cX11_healedWithout 5 = .ok (.ifCond .ne 5, 3) := by decide +kernel
theorem dX11_healedWithout_8 : decode cX11_healedWithout 8 = .ok (.iconst (-1), 1) := by decide +kernel
theorem dX11_healedWithout_9 : decode cX11_healedWithout 9 = .ok (.ireturn, 1) := by decide +kernel
theorem dX11_healedWithout_10 : decode cX11_healedWithout 10 = .ok (.iload_n 2, 1) := by decide +kernel
theorem dX11_healedWithout_11 : decode cX11_healedWithout 11 = .ok (.iconst 0, 1) := by decide +kernel
theorem dX11_healedWithout_12 : decode cX11_healedWithout 12 = .ok (.bipush 40, 2) := by decide +kernel
theorem dX11_healedWithout_14 : decode cX11_healedWithout 14 = .ok (.invokestatic 57, 3) := by decide +kernel
theorem dX11_healedWithout_17 : decode cX11_healedWithout 17 = .ok (.ifCond .ne 6, 3) := by decide +kernel
theorem dX11_healedWithout_20 : decode cX11_healedWithout 20 = .ok (.bipush (-2), 2) := by decide +kernel
theorem dX11_healedWithout_22 : decode cX11_healedWithout 22 = .ok (.ireturn, 1) := by decide +kernel
theorem dX11_healedWithout_23 : decode cX11_healedWithout 23 = .ok (.aload_n 0, 1) := by decide +kernel
theorem dX11_healedWithout_24 : decode cX11_healedWithout 24 = .ok (.invokevirtual 157, 3) := by decide +kernel
theorem dX11_healedWithout_27 : decode cX11_healedWithout 27 = .ok (.iconst 1, 1) := by decide +kernel
theorem dX11_healedWithout_28 : decode cX11_healedWithout 28 = .ok (.if_icmp .ne 6, 3) := by decide +kernel
theorem dX11_healedWithout_31 : decode cX11_healedWithout 31 = .ok (.bipush (-3), 2) := by decide +kernel
theorem dX11_healedWithout_33 : decode cX11_healedWithout 33 = .ok (.ireturn, 1) := by decide +kernel
theorem dX11_healedWithout_34 : decode cX11_healedWithout 34 = .ok (.aload_n 0, 1) := by decide +kernel
theorem dX11_healedWithout_35 : decode cX11_healedWithout 35 = .ok (.iconst 0, 1) := by decide +kernel
theorem dX11_healedWithout_36 : decode cX11_healedWithout 36 = .ok (.bipush 10, 2) := by decide +kernel
theorem dX11_healedWithout_38 : decode cX11_healedWithout 38 = .ok (.invokevirtual 53, 3) := by decide +kernel
theorem dX11_healedWithout_41 : decode cX11_healedWithout 41 = .ok (.aload_n 0, 1) := by decide +kernel
theorem dX11_healedWithout_42 : decode cX11_healedWithout 42 = .ok (.iload_n 1, 1) := by decide +kernel
theorem dX11_healedWithout_43 : decode cX11_healedWithout 43 = .ok (.iconst 0, 1) := by decide +kernel
theorem dX11_healedWithout_44 : decode cX11_healedWithout 44 = .ok (.iconst (-1), 1) := by decide +kernel
theorem dX11_healedWithout_45 : decode cX11_healedWithout 45 = .ok (.invokevirtual 114, 3) := by decide +kernel
theorem dX11_healedWithout_48 : decode cX11_healedWithout 48 = .ok (.aload_n 0, 1) := by decide +kernel
theorem dX11_healedWithout_49 : decode cX11_healedWithout 49 = .ok (.iload_n 2, 1) := by decide +kernel
theorem dX11_healedWithout_50 : decode cX11_healedWithout 50 = .ok (.invokevirtual 231, 3) := by decide +kernel
theorem dX11_healedWithout_53 : decode cX11_healedWithout 53 = .ok (.istore_n 3, 1) := by decide +kernel
theorem dX11_healedWithout_54 : decode cX11_healedWithout 54 = .ok (.aload_n 0, 1) := by decide +kernel
theorem dX11_healedWithout_55 : decode cX11_healedWithout 55 = .ok (.bipush 10, 2) := by decide +kernel
theorem dX11_healedWithout_57 : decode cX11_healedWithout 57 = .ok (.iconst 0, 1) := by decide +kernel
theorem dX11_healedWithout_58 : decode cX11_healedWithout 58 = .ok (.invokevirtual 53, 3) := by decide +kernel
theorem dX11_healedWithout_61 : decode cX11_healedWithout 61 = .ok (.iload_n 3, 1) := by decide +kernel
theorem dX11_healedWithout_62 : decode cX11_healedWithout 62 = .ok (.ireturn, 1) := by decide +kernel
theorem dX11_again_0 : decode cX11_again 0 = .ok (.aload_n 0, 1) := by decide +kernel
theorem dX11_again_1 : decode cX11_again 1 = .ok (.invokevirtual 111, 3) := by decide +kernel
theorem dX11_again_4 : decode cX11_again 4 = .ok (.aload_n 0, 1) := by decide +kernel
theorem dX11_again_5 : decode cX11_again 5 = .ok (.getfield 98, 3) := by decide +kernel
theorem dX11_again_8 : decode cX11_again 8 = .ok (.ireturn, 1) := by decide +kernel
theorem dX11_account_0 : decode cX11_account 0 = .ok (.iload_n 1, 1) := by decide +kernel
theorem dX11_account_1 : decode cX11_account 1 = .ok (.iconst 0, 1) := by decide +kernel
theorem dX11_account_2 : decode cX11_account 2 = .ok (.bipush 7, 2) := by decide +kernel
theorem dX11_account_4 : decode cX11_account 4 = .ok (.invokestatic 57, 3) := by decide +kernel
theorem dX11_account_7 : decode cX11_account 7 = .ok (.ifCond .ne 5, 3) := by decide +kernel
theorem dX11_account_10 : decode cX11_account 10 = .ok (.iconst (-1), 1) := by decide +kernel
theorem dX11_account_11 : decode cX11_account 11 = .ok (.ireturn, 1) := by decide +kernel
theorem dX11_account_12 : decode cX11_account 12 = .ok (.iconst 0, 1) := by decide +kernel
theorem dX11_account_13 : decode cX11_account 13 = .ok (.istore_n 2, 1) := by decide +kernel
theorem dX11_account_14 : decode cX11_account 14 = .ok (.iconst 0, 1) := by decide +kernel
theorem dX11_account_15 : decode cX11_account 15 = .ok (.istore_n 3, 1) := by decide +kernel
theorem dX11_account_16 : decode cX11_account 16 = .ok (.iload_n 3, 1) := by decide +kernel
theorem dX11_account_17 : decode cX11_account 17 = .ok (.bipush 120, 2) := by decide +kernel
theorem dX11_account_19 : decode cX11_account 19 = .ok (.if_icmp .ge 21, 3) := by decide +kernel
theorem dX11_account_22 : decode cX11_account 22 = .ok (.iload_n 2, 1) := by decide +kernel
theorem dX11_account_23 : decode cX11_account 23 = .ok (.aload_n 0, 1) := by decide +kernel
theorem dX11_account_24 : decode cX11_account 24 = .ok (.getfield 9, 3) := by decide +kernel
theorem dX11_account_27 : decode cX11_account 27 = .ok (.bipush 72, 2) := by decide +kernel
theorem dX11_account_29 : decode cX11_account 29 = .ok (.iload_n 3, 1) := by decide +kernel
theorem dX11_account_30 : decode cX11_account 30 = .ok (.iadd, 1) := by decide +kernel
theorem dX11_account_31 : decode cX11_account 31 = .ok (.iaload, 1) := by decide +kernel
theorem dX11_account_32 : decode cX11_account 32 = .ok (.iadd, 1) := by decide +kernel
theorem dX11_account_33 : decode cX11_account 33 = .ok (.istore_n 2, 1) := by decide +kernel
theorem dX11_account_34 : decode cX11_account 34 = .ok (.iinc 3 1, 3) := by decide +kernel
theorem dX11_account_37 : decode cX11_account 37 = .ok (.goto (-21), 3) := by decide +kernel
theorem dX11_account_40 : decode cX11_account 40 = .ok (.iload_n 1, 1) := by decide +kernel
theorem dX11_account_41 : decode cX11_account 41 = .ok (.bipush 6, 2) := by decide +kernel
theorem dX11_account_43 : decode cX11_account 43 = .ok (.if_icmp .ne 7, 3) := by decide +kernel
theorem dX11_account_46 : decode cX11_account 46 = .ok (.iload_n 2, 1) := by decide +kernel
theorem dX11_account_47 : decode cX11_account 47 = .ok (.goto 11, 3) := by decide +kernel
theorem dX11_account_50 : decode cX11_account 50 = .ok (.aload_n 0, 1) := by decide +kernel
theorem dX11_account_51 : decode cX11_account 51 = .ok (.getfield 9, 3) := by decide +kernel
theorem dX11_account_54 : decode cX11_account 54 = .ok (.iconst 4, 1) := by decide +kernel
theorem dX11_account_55 : decode cX11_account 55 = .ok (.iload_n 1, 1) := by decide +kernel
theorem dX11_account_56 : decode cX11_account 56 = .ok (.iadd, 1) := by decide +kernel
theorem dX11_account_57 : decode cX11_account 57 = .ok (.iaload, 1) := by decide +kernel
theorem dX11_account_58 : decode cX11_account 58 = .ok (.ireturn, 1) := by decide +kernel
theorem dX11_back_0 : decode cX11_back 0 = .ok (.aload_n 0, 1) := by decide +kernel
theorem dX11_back_1 : decode cX11_back 1 = .ok (.getfield 49, 3) := by decide +kernel
theorem dX11_back_4 : decode cX11_back 4 = .ok (.ifCond .ne 6, 3) := by decide +kernel
theorem dX11_back_7 : decode cX11_back 7 = .ok (.bipush (-3), 2) := by decide +kernel
theorem dX11_back_9 : decode cX11_back 9 = .ok (.ireturn, 1) := by decide +kernel
theorem dX11_back_10 : decode cX11_back 10 = .ok (.aload_n 0, 1) := by decide +kernel
theorem dX11_back_11 : decode cX11_back 11 = .ok (.aload_n 0, 1) := by decide +kernel
theorem dX11_back_12 : decode cX11_back 12 = .ok (.getfield 49, 3) := by decide +kernel
theorem dX11_back_15 : decode cX11_back 15 = .ok (.iconst 0, 1) := by decide +kernel
theorem dX11_back_16 : decode cX11_back 16 = .ok (.invokevirtual 53, 3) := by decide +kernel
theorem dX11_back_19 : decode cX11_back 19 = .ok (.aload_n 0, 1) := by decide +kernel
theorem dX11_back_20 : decode cX11_back 20 = .ok (.dup, 1) := by decide +kernel
theorem dX11_back_21 : decode cX11_back 21 = .ok (.getfield 49, 3) := by decide +kernel
theorem dX11_back_24 : decode cX11_back 24 = .ok (.iconst 1, 1) := by decide +kernel
theorem dX11_back_25 : decode cX11_back 25 = .ok (.isub, 1) := by decide +kernel
theorem dX11_back_26 : decode cX11_back 26 = .ok (.putfield 49, 3) := by decide +kernel
theorem dX11_back_29 : decode cX11_back 29 = .ok (.aload_n 0, 1) := by decide +kernel
theorem dX11_back_30 : decode cX11_back 30 = .ok (.getfield 49, 3) := by decide +kernel
theorem dX11_back_33 : decode cX11_back 33 = .ok (.ireturn, 1) := by decide +kernel
theorem dX11_image_0 : decode cX11_image 0 = .ok (.aload_n 0, 1) := by decide +kernel
theorem dX11_image_1 : decode cX11_image 1 = .ok (.iconst 1, 1) := by decide +kernel
theorem dX11_image_2 : decode cX11_image 2 = .ok (.putfield 234, 3) := by decide +kernel
theorem dX11_image_5 : decode cX11_image 5 = .ok (.aload_n 0, 1) := by decide +kernel
theorem dX11_image_6 : decode cX11_image 6 = .ok (.iconst 0, 1) := by decide +kernel
theorem dX11_image_7 : decode cX11_image 7 = .ok (.bipush 9, 2) := by decide +kernel
theorem dX11_image_9 : decode cX11_image 9 = .ok (.invokevirtual 53, 3) := by decide +kernel
theorem dX11_image_12 : decode cX11_image 12 = .ok (.aload_n 0, 1) := by decide +kernel
theorem dX11_image_13 : decode cX11_image 13 = .ok (.invokevirtual 157, 3) := by decide +kernel
theorem dX11_image_16 : decode cX11_image 16 = .ok (.ireturn, 1) := by decide +kernel
theorem dX11_undo_0 : decode cX11_undo 0 = .ok (.aload_n 0, 1) := by decide +kernel
theorem dX11_undo_1 : decode cX11_undo 1 = .ok (.getfield 234, 3) := by decide +kernel
theorem dX11_undo_4 : decode cX11_undo 4 = .ok (.ifCond .ne 6, 3) := by decide +kernel
theorem dX11_undo_7 : decode cX11_undo 7 = .ok (.bipush (-3), 2) := by decide +kernel
theorem dX11_undo_9 : decode cX11_undo 9 = .ok (.ireturn, 1) := by decide +kernel
theorem dX11_undo_10 : decode cX11_undo 10 = .ok (.aload_n 0, 1) := by decide +kernel
theorem dX11_undo_11 : decode cX11_undo 11 = .ok (.bipush 9, 2) := by decide +kernel
theorem dX11_undo_13 : decode cX11_undo 13 = .ok (.iconst 0, 1) := by decide +kernel
theorem dX11_undo_14 : decode cX11_undo 14 = .ok (.invokevirtual 53, 3) := by decide +kernel
theorem dX11_undo_17 : decode cX11_undo 17 = .ok (.aload_n 0, 1) := by decide +kernel
theorem dX11_undo_18 : decode cX11_undo 18 = .ok (.iconst 0, 1) := by decide +kernel
theorem dX11_undo_19 : decode cX11_undo 19 = .ok (.putfield 49, 3) := by decide +kernel
theorem dX11_undo_22 : decode cX11_undo 22 = .ok (.aload_n 0, 1) := by decide +kernel
theorem dX11_undo_23 : decode cX11_undo 23 = .ok (.invokevirtual 157, 3) := by decide +kernel
theorem dX11_undo_26 : decode cX11_undo 26 = .ok (.ireturn, 1) := by decide +kernel
theorem dX11_count_0 : decode cX11_count 0 = .ok (.iload_n 1, 1) := by decide +kernel
theorem dX11_count_1 : decode cX11_count 1 = .ok (.iconst 0, 1) := by decide +kernel
theorem dX11_count_2 : decode cX11_count 2 = .ok (.iconst 2, 1) := by decide +kernel
theorem dX11_count_3 : decode cX11_count 3 = .ok (.invokestatic 57, 3) := by decide +kernel
theorem dX11_count_6 : decode cX11_count 6 = .ok (.ifCond .ne 5, 3) := by decide +kernel
theorem dX11_count_9 : decode cX11_count 9 = .ok (.iconst (-1), 1) := by decide +kernel
theorem dX11_count_10 : decode cX11_count 10 = .ok (.ireturn, 1) := by decide +kernel
theorem dX11_count_11 : decode cX11_count 11 = .ok (.iconst 0, 1) := by decide +kernel
theorem dX11_count_12 : decode cX11_count 12 = .ok (.istore_n 2, 1) := by decide +kernel
theorem dX11_count_13 : decode cX11_count 13 = .ok (.iconst 0, 1) := by decide +kernel
theorem dX11_count_14 : decode cX11_count 14 = .ok (.istore_n 3, 1) := by decide +kernel
theorem dX11_count_15 : decode cX11_count 15 = .ok (.iload_n 3, 1) := by decide +kernel
theorem dX11_count_16 : decode cX11_count 16 = .ok (.iconst 3, 1) := by decide +kernel
theorem dX11_count_17 : decode cX11_count 17 = .ok (.if_icmp .ge 27, 3) := by decide +kernel
theorem dX11_count_20 : decode cX11_count 20 = .ok (.iload_n 2, 1) := by decide +kernel
theorem dX11_count_21 : decode cX11_count 21 = .ok (.aload_n 0, 1) := by decide +kernel
theorem dX11_count_22 : decode cX11_count 22 = .ok (.iload_n 3, 1) := by decide +kernel
theorem dX11_count_23 : decode cX11_count 23 = .ok (.invokevirtual 101, 3) := by decide +kernel
theorem dX11_count_26 : decode cX11_count 26 = .ok (.ifCond .le 9, 3) := by decide +kernel
theorem dX11_count_29 : decode cX11_count 29 = .ok (.iconst 1, 1) := by decide +kernel
theorem dX11_count_30 : decode cX11_count 30 = .ok (.iload_n 3, 1) := by decide +kernel
theorem dX11_count_31 : decode cX11_count 31 = .ok (.ishl, 1) := by decide +kernel
theorem dX11_count_32 : decode cX11_count 32 = .ok (.goto 4, 3) := by decide +kernel
theorem dX11_count_35 : decode cX11_count 35 = .ok (.iconst 0, 1) := by decide +kernel
theorem dX11_count_36 : decode cX11_count 36 = .ok (.ior, 1) := by decide +kernel
theorem dX11_count_37 : decode cX11_count 37 = .ok (.istore_n 2, 1) := by decide +kernel
theorem dX11_count_38 : decode cX11_count 38 = .ok (.iinc 3 1, 3) := by decide +kernel
theorem dX11_count_41 : decode cX11_count 41 = .ok (.goto (-26), 3) := by decide +kernel
theorem dX11_count_44 : decode cX11_count 44 = .ok (.iload_n 1, 1) := by decide +kernel
theorem dX11_count_45 : decode cX11_count 45 = .ok (.ifCond .ne 10, 3) := by decide +kernel
theorem dX11_count_48 : decode cX11_count 48 = .ok (.aload_n 0, 1) := by decide +kernel
theorem dX11_count_49 : decode cX11_count 49 = .ok (.getfield 172, 3) := by decide +kernel
theorem dX11_count_52 : decode cX11_count 52 = .ok (.goto 16, 3) := by decide +kernel
theorem dX11_count_55 : decode cX11_count 55 = .ok (.iload_n 1, 1) := by decide +kernel
theorem dX11_count_56 : decode cX11_count 56 = .ok (.iconst 1, 1) := by decide +kernel
theorem dX11_count_57 : decode cX11_count 57 = .ok (.if_icmp .ne 10, 3) := by decide +kernel
theorem dX11_count_60 : decode cX11_count 60 = .ok (.aload_n 0, 1) := by decide +kernel
theorem dX11_count_61 : decode cX11_count 61 = .ok (.getfield 49, 3) := by decide +kernel
theorem dX11_count_64 : decode cX11_count 64 = .ok (.goto 4, 3) := by decide +kernel
theorem dX11_count_67 : decode cX11_count 67 = .ok (.iload_n 2, 1) := by decide +kernel
theorem dX11_count_68 : decode cX11_count 68 = .ok (.ireturn, 1) := by decide +kernel
theorem dJ9_min_7cf53_0 : decode cJ9_min_7cf53 0 = .ok (.iload_n 0, 1) := by decide +kernel
theorem dJ9_min_7cf53_1 : decode cJ9_min_7cf53 1 = .ok (.iload_n 1, 1) := by decide +kernel
theorem dJ9_min_7cf53_2 : decode cJ9_min_7cf53 2 = .ok (.if_icmp .gt 7, 3) := by decide +kernel
theorem dJ9_min_7cf53_5 : decode cJ9_min_7cf53 5 = .ok (.iload_n 0, 1) := by decide +kernel
theorem dJ9_min_7cf53_6 : decode cJ9_min_7cf53 6 = .ok (.goto 4, 3) := by decide +kernel
theorem dJ9_min_7cf53_9 : decode cJ9_min_7cf53 9 = .ok (.iload_n 1, 1) := by decide +kernel
theorem dJ9_min_7cf53_10 : decode cJ9_min_7cf53 10 = .ok (.ireturn, 1) := by decide +kernel
theorem dJ7_fill_d0a16_0 : decode cJ7_fill_d0a16 0 = .ok (.iconst 0, 1) := by decide +kernel
theorem dJ7_fill_d0a16_1 : decode cJ7_fill_d0a16 1 = .ok (.istore_n 3, 1) := by decide +kernel
theorem dJ7_fill_d0a16_2 : decode cJ7_fill_d0a16 2 = .ok (.aload_n 0, 1) := by decide +kernel
theorem dJ7_fill_d0a16_3 : decode cJ7_fill_d0a16 3 = .ok (.arraylength, 1) := by decide +kernel
theorem dJ7_fill_d0a16_4 : decode cJ7_fill_d0a16 4 = .ok (.istore 4, 2) := by decide +kernel
theorem dJ7_fill_d0a16_6 : decode cJ7_fill_d0a16 6 = .ok (.iload_n 3, 1) := by decide +kernel
theorem dJ7_fill_d0a16_7 : decode cJ7_fill_d0a16 7 = .ok (.iload 4, 2) := by decide +kernel
theorem dJ7_fill_d0a16_9 : decode cJ7_fill_d0a16 9 = .ok (.if_icmp .ge 13, 3) := by decide +kernel
theorem dJ7_fill_d0a16_12 : decode cJ7_fill_d0a16 12 = .ok (.aload_n 0, 1) := by decide +kernel
theorem dJ7_fill_d0a16_13 : decode cJ7_fill_d0a16 13 = .ok (.iload_n 3, 1) := by decide +kernel
theorem dJ7_fill_d0a16_14 : decode cJ7_fill_d0a16 14 = .ok (.lload_n 1, 1) := by decide +kernel
theorem dJ7_fill_d0a16_15 : decode cJ7_fill_d0a16 15 = .ok (.lastore, 1) := by decide +kernel
theorem dJ7_fill_d0a16_16 : decode cJ7_fill_d0a16 16 = .ok (.iinc 3 1, 3) := by decide +kernel
theorem dJ7_fill_d0a16_19 : decode cJ7_fill_d0a16 19 = .ok (.goto (-13), 3) := by decide +kernel
theorem dJ7_fill_d0a16_22 : decode cJ7_fill_d0a16 22 = .ok (.return_, 1) := by decide +kernel
theorem dJ7_fill_53178_0 : decode cJ7_fill_53178 0 = .ok (.iconst 0, 1) := by decide +kernel
theorem dJ7_fill_53178_1 : decode cJ7_fill_53178 1 = .ok (.istore_n 2, 1) := by decide +kernel
theorem dJ7_fill_53178_2 : decode cJ7_fill_53178 2 = .ok (.aload_n 0, 1) := by decide +kernel
theorem dJ7_fill_53178_3 : decode cJ7_fill_53178 3 = .ok (.arraylength, 1) := by decide +kernel
theorem dJ7_fill_53178_4 : decode cJ7_fill_53178 4 = .ok (.istore_n 3, 1) := by decide +kernel
theorem dJ7_fill_53178_5 : decode cJ7_fill_53178 5 = .ok (.iload_n 2, 1) := by decide +kernel
theorem dJ7_fill_53178_6 : decode cJ7_fill_53178 6 = .ok (.iload_n 3, 1) := by decide +kernel
theorem dJ7_fill_53178_7 : decode cJ7_fill_53178 7 = .ok (.if_icmp .ge 13, 3) := by decide +kernel
theorem dJ7_fill_53178_10 : decode cJ7_fill_53178 10 = .ok (.aload_n 0, 1) := by decide +kernel
theorem dJ7_fill_53178_11 : decode cJ7_fill_53178 11 = .ok (.iload_n 2, 1) := by decide +kernel
theorem dJ7_fill_53178_12 : decode cJ7_fill_53178 12 = .ok (.iload_n 1, 1) := by decide +kernel
theorem dJ7_fill_53178_13 : decode cJ7_fill_53178 13 = .ok (.iastore, 1) := by decide +kernel
theorem dJ7_fill_53178_14 : decode cJ7_fill_53178 14 = .ok (.iinc 2 1, 3) := by decide +kernel
theorem dJ7_fill_53178_17 : decode cJ7_fill_53178 17 = .ok (.goto (-12), 3) := by decide +kernel
theorem dJ7_fill_53178_20 : decode cJ7_fill_53178 20 = .ok (.return_, 1) := by decide +kernel
