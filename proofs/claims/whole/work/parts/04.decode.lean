theorem dX0_init_0 : decode cX0_init 0 = .ok (.aload_n 0, 1) := by decide +kernel
theorem dX0_init_1 : decode cX0_init 1 = .ok (.invokespecial 3, 3) := by decide +kernel
theorem dX0_init_4 : decode cX0_init 4 = .ok (.aload_n 0, 1) := by decide +kernel
theorem dX0_init_5 : decode cX0_init 5 = .ok (.new 9, 3) := by decide +kernel
theorem dX0_init_8 : decode cX0_init 8 = .ok (.dup, 1) := by decide +kernel
theorem dX0_init_9 : decode cX0_init 9 = .ok (.invokespecial 11, 3) := by decide +kernel
theorem dX0_init_12 : decode cX0_init 12 = .ok (.putfield 12, 3) := by decide +kernel
theorem dX0_init_15 : decode cX0_init 15 = .ok (.aload_n 0, 1) := by decide +kernel
theorem dX0_init_16 : decode cX0_init 16 = .ok (.new 18, 3) := by decide +kernel
theorem dX0_init_19 : decode cX0_init 19 = .ok (.dup, 1) := by decide +kernel
theorem dX0_init_20 : decode cX0_init 20 = .ok (.invokespecial 20, 3) := by decide +kernel
theorem dX0_init_23 : decode cX0_init 23 = .ok (.putfield 21, 3) := by decide +kernel
theorem dX0_init_26 : decode cX0_init 26 = .ok (.aload_n 0, 1) := by decide +kernel
theorem dX0_init_27 : decode cX0_init 27 = .ok (.new 18, 3) := by decide +kernel
theorem dX0_init_30 : decode cX0_init 30 = .ok (.dup, 1) := by decide +kernel
theorem dX0_init_31 : decode cX0_init 31 = .ok (.invokespecial 20, 3) := by decide +kernel
theorem dX0_init_34 : decode cX0_init 34 = .ok (.putfield 25, 3) := by decide +kernel
theorem dX0_init_37 : decode cX0_init 37 = .ok (.return_, 1) := by decide +kernel
theorem dX0_readBlock_0 : decode cX0_readBlock 0 = .ok (.aload_n 1, 1) := by decide +kernel
theorem dX0_readBlock_1 : decode cX0_readBlock 1 = .ok (.iconst 1, 1) := by decide +kernel
theorem dX0_readBlock_2 : decode cX0_readBlock 2 = .ok (.invokevirtual 28, 3) := by decide +kernel
theorem dX0_readBlock_5 : decode cX0_readBlock 5 = .ok (.iconst 1, 1) := by decide +kernel
theorem dX0_readBlock_6 : decode cX0_readBlock 6 = .ok (.if_icmp .ne 7, 3) := by decide +kernel
theorem dX0_readBlock_9 : decode cX0_readBlock 9 = .ok (.iconst 1, 1) := by decide +kernel
theorem dX0_readBlock_10 : decode cX0_readBlock 10 = .ok (.goto 4, 3) := by decide +kernel
theorem dX0_readBlock_13 : decode cX0_readBlock 13 = .ok (.iconst 0, 1) := by decide +kernel
theorem dX0_readBlock_14 : decode cX0_readBlock 14 = .ok (.istore_n 3, 1) := by decide +kernel
theorem dX0_readBlock_15 : decode cX0_readBlock 15 = .ok (.aload_n 2, 1) := by decide +kernel
theorem dX0_readBlock_16 : decode cX0_readBlock 16 = .ok (.getfield 34, 3) := by decide +kernel
theorem dX0_readBlock_19 : decode cX0_readBlock 19 = .ok (.iconst 0, 1) := by decide +kernel
theorem dX0_readBlock_20 : decode cX0_readBlock 20 = .ok (.dup2, 1) := by decide +kernel
theorem dX0_readBlock_21 : decode cX0_readBlock 21 = .ok (.iaload, 1) := by decide +kernel
theorem dX0_readBlock_22 : decode cX0_readBlock 22 = .ok (.iconst 1, 1) := by decide +kernel
theorem dX0_readBlock_23 : decode cX0_readBlock 23 = .ok (.iadd, 1) := by decide +kernel
theorem dX0_readBlock_24 : decode cX0_readBlock 24 = .ok (.iastore, 1) := by decide +kernel
theorem dX0_readBlock_25 : decode cX0_readBlock 25 = .ok (.iload_n 3, 1) := by decide +kernel
theorem dX0_readBlock_26 : decode cX0_readBlock 26 = .ok (.ifCond .eq 14, 3) := by decide +kernel
theorem dX0_readBlock_29 : decode cX0_readBlock 29 = .ok (.aload_n 1, 1) := by decide +kernel
theorem dX0_readBlock_30 : decode cX0_readBlock 30 = .ok (.iconst 1, 1) := by decide +kernel
theorem dX0_readBlock_31 : decode cX0_readBlock 31 = .ok (.invokevirtual 28, 3) := by decide +kernel
theorem dX0_readBlock_34 : decode cX0_readBlock 34 = .ok (.iconst 1, 1) := by decide +kernel
theorem dX0_readBlock_35 : decode cX0_readBlock 35 = .ok (.if_icmp .ne 5, 3) := by decide +kernel
theorem dX0_readBlock_38 : decode cX0_readBlock 38 = .ok (.iconst 1, 1) := by decide +kernel
theorem dX0_readBlock_39 : decode cX0_readBlock 39 = .ok (.ireturn, 1) := by decide +kernel
theorem dX0_readBlock_40 : decode cX0_readBlock 40 = .ok (.aload_n 0, 1) := by decide +kernel
theorem dX0_readBlock_41 : decode cX0_readBlock 41 = .ok (.aload_n 2, 1) := by decide +kernel
theorem dX0_readBlock_42 : decode cX0_readBlock 42 = .ok (.getfield 40, 3) := by decide +kernel
theorem dX0_readBlock_45 : decode cX0_readBlock 45 = .ok (.aload_n 1, 1) := by decide +kernel
theorem dX0_readBlock_46 : decode cX0_readBlock 46 = .ok (.bipush 8, 2) := by decide +kernel
theorem dX0_readBlock_48 : decode cX0_readBlock 48 = .ok (.invokevirtual 28, 3) := by decide +kernel
theorem dX0_readBlock_51 : decode cX0_readBlock 51 = .ok (.iadd, 1) := by decide +kernel
theorem dX0_readBlock_52 : decode cX0_readBlock 52 = .ok (.iconst 1, 1) := by decide +kernel
theorem dX0_readBlock_53 : decode cX0_readBlock 53 = .ok (.iadd, 1) := by decide +kernel
theorem dX0_readBlock_54 : decode cX0_readBlock 54 = .ok (.putfield 44, 3) := by decide +kernel
theorem dX0_readBlock_57 : decode cX0_readBlock 57 = .ok (.aload_n 0, 1) := by decide +kernel
theorem dX0_readBlock_58 : decode cX0_readBlock 58 = .ok (.getfield 44, 3) := by decide +kernel
theorem dX0_readBlock_61 : decode cX0_readBlock 61 = .ok (.sipush 400, 3) := by decide +kernel
theorem dX0_readBlock_64 : decode cX0_readBlock 64 = .ok (.if_icmp .le 13, 3) := by decide +kernel
theorem dX0_readBlock_67 : decode cX0_readBlock 67 = .ok (.new 47, 3) := by decide +kernel
theorem dX0_readBlock_70 : decode cX0_readBlock 70 = .ok (.dup, 1) := by decide +kernel
theorem dX0_readBlock_71 : decode cX0_readBlock 71 = .ok (.ldc 49, 2) := by decide +kernel
theorem dX0_readBlock_73 : decode cX0_readBlock 73 = .ok (.invokespecial 51, 3) := by decide +kernel
theorem dX0_readBlock_76 : decode cX0_readBlock 76 = .ok (.athrow, 1) := by decide +kernel
theorem dX0_readBlock_77 : decode cX0_readBlock 77 = .ok (.iload_n 3, 1) := by decide +kernel
theorem dX0_readBlock_78 : decode cX0_readBlock 78 = .ok (.ifCond .ne 21, 3) := by decide +kernel
theorem dX0_readBlock_81 : decode cX0_readBlock 81 = .ok (.aload_n 1, 1) := by decide +kernel
theorem dX0_readBlock_82 : decode cX0_readBlock 82 = .ok (.iconst 1, 1) := by decide +kernel
theorem dX0_readBlock_83 : decode cX0_readBlock 83 = .ok (.invokevirtual 28, 3) := by decide +kernel
theorem dX0_readBlock_86 : decode cX0_readBlock 86 = .ok (.iconst 1, 1) := by decide +kernel
theorem dX0_readBlock_87 : decode cX0_readBlock 87 = .ok (.if_icmp .ne 12, 3) := by decide +kernel
theorem dX0_readBlock_90 : decode cX0_readBlock 90 = .ok (.aload_n 0, 1) := by decide +kernel
theorem dX0_readBlock_91 : decode cX0_readBlock 91 = .ok (.aload_n 1, 1) := by decide +kernel
theorem dX0_readBlock_92 : decode cX0_readBlock 92 = .ok (.aload_n 2, 1) := by decide +kernel
theorem dX0_readBlock_93 : decode cX0_readBlock 93 = .ok (.invokevirtual 54, 3) := by decide +kernel
theorem dX0_readBlock_96 : decode cX0_readBlock 96 = .ok (.goto 9, 3) := by decide +kernel
theorem dX0_readBlock_99 : decode cX0_readBlock 99 = .ok (.aload_n 0, 1) := by decide +kernel
theorem dX0_readBlock_100 : decode cX0_readBlock 100 = .ok (.aload_n 1, 1) := by decide +kernel
theorem dX0_readBlock_101 : decode cX0_readBlock 101 = .ok (.aload_n 2, 1) := by decide +kernel
theorem dX0_readBlock_102 : decode cX0_readBlock 102 = .ok (.invokevirtual 58, 3) := by decide +kernel
theorem dX0_readBlock_105 : decode cX0_readBlock 105 = .ok (.iload_n 3, 1) := by decide +kernel
theorem dX0_readBlock_106 : decode cX0_readBlock 106 = .ok (.ireturn, 1) := by decide +kernel
theorem dX0_readPlain_0 : decode cX0_readPlain 0 = .ok (.aload_n 2, 1) := by decide +kernel
theorem dX0_readPlain_1 : decode cX0_readPlain 1 = .ok (.getfield 40, 3) := by decide +kernel
theorem dX0_readPlain_4 : decode cX0_readPlain 4 = .ok (.istore_n 3, 1) := by decide +kernel
theorem dX0_readPlain_5 : decode cX0_readPlain 5 = .ok (.iload_n 3, 1) := by decide +kernel
theorem dX0_readPlain_6 : decode cX0_readPlain 6 = .ok (.aload_n 0, 1) := by decide +kernel
theorem dX0_readPlain_7 : decode cX0_readPlain 7 = .ok (.getfield 44, 3) := by decide +kernel
theorem dX0_readPlain_10 : decode cX0_readPlain 10 = .ok (.if_icmp .ge 19, 3) := by decide +kernel
theorem dX0_readPlain_13 : decode cX0_readPlain 13 = .ok (.aload_n 2, 1) := by decide +kernel
theorem dX0_readPlain_14 : decode cX0_readPlain 14 = .ok (.aload_n 1, 1) := by decide +kernel
theorem dX0_readPlain_15 : decode cX0_readPlain 15 = .ok (.iconst 5, 1) := by decide +kernel
theorem dX0_readPlain_16 : decode cX0_readPlain 16 = .ok (.invokevirtual 28, 3) := by decide +kernel
theorem dX0_readPlain_19 : decode cX0_readPlain 19 = .ok (.iconst 1, 1) := by decide +kernel
theorem dX0_readPlain_20 : decode cX0_readPlain 20 = .ok (.invokevirtual 61, 3) := by decide +kernel
theorem dX0_readPlain_23 : decode cX0_readPlain 23 = .ok (.iinc 3 1, 3) := by decide +kernel
theorem dX0_readPlain_26 : decode cX0_readPlain 26 = .ok (.goto (-21), 3) := by decide +kernel
theorem dX0_readPlain_29 : decode cX0_readPlain 29 = .ok (.return_, 1) := by decide +kernel
theorem dX0_readCoded_0 : decode cX0_readCoded 0 = .ok (.aload_n 0, 1) := by decide +kernel
theorem dX0_readCoded_1 : decode cX0_readCoded 1 = .ok (.getfield 12, 3) := by decide +kernel
theorem dX0_readCoded_4 : decode cX0_readCoded 4 = .ok (.aload_n 1, 1) := by decide +kernel
theorem dX0_readCoded_5 : decode cX0_readCoded 5 = .ok (.invokevirtual 65, 3) := by decide +kernel
theorem dX0_readCoded_8 : decode cX0_readCoded 8 = .ok (.aload_n 0, 1) := by decide +kernel
theorem dX0_readCoded_9 : decode cX0_readCoded 9 = .ok (.getfield 12, 3) := by decide +kernel
theorem dX0_readCoded_12 : decode cX0_readCoded 12 = .ok (.aload_n 1, 1) := by decide +kernel
theorem dX0_readCoded_13 : decode cX0_readCoded 13 = .ok (.invokevirtual 69, 3) := by decide +kernel
theorem dX0_readCoded_16 : decode cX0_readCoded 16 = .ok (.aload_n 0, 1) := by decide +kernel
theorem dX0_readCoded_17 : decode cX0_readCoded 17 = .ok (.getfield 21, 3) := by decide +kernel
theorem dX0_readCoded_20 : decode cX0_readCoded 20 = .ok (.aload_n 1, 1) := by decide +kernel
theorem dX0_readCoded_21 : decode cX0_readCoded 21 = .ok (.bipush 16, 2) := by decide +kernel
theorem dX0_readCoded_23 : decode cX0_readCoded 23 = .ok (.invokevirtual 72, 3) := by decide +kernel
theorem dX0_readCoded_26 : decode cX0_readCoded 26 = .ok (.aload_n 0, 1) := by decide +kernel
theorem dX0_readCoded_27 : decode cX0_readCoded 27 = .ok (.getfield 25, 3) := by decide +kernel
theorem dX0_readCoded_30 : decode cX0_readCoded 30 = .ok (.aload_n 1, 1) := by decide +kernel
theorem dX0_readCoded_31 : decode cX0_readCoded 31 = .ok (.bipush 12, 2) := by decide +kernel
theorem dX0_readCoded_33 : decode cX0_readCoded 33 = .ok (.invokevirtual 72, 3) := by decide +kernel
theorem dX0_readCoded_36 : decode cX0_readCoded 36 = .ok (.iconst 0, 1) := by decide +kernel
theorem dX0_readCoded_37 : decode cX0_readCoded 37 = .ok (.istore_n 3, 1) := by decide +kernel
theorem dX0_readCoded_38 : decode cX0_readCoded 38 = .ok (.iload_n 3, 1) := by decide +kernel
theorem dX0_readCoded_39 : decode cX0_readCoded 39 = .ok (.sipush 400, 3) := by decide +kernel
theorem dX0_readCoded_42 : decode cX0_readCoded 42 = .ok (.if_icmp .ge 26, 3) := by decide +kernel
theorem dX0_readCoded_45 : decode cX0_readCoded 45 = .ok (.aload_n 2, 1) := by decide +kernel
theorem dX0_readCoded_46 : decode cX0_readCoded 46 = .ok (.getfield 40, 3) := by decide +kernel
theorem dX0_readCoded_49 : decode cX0_readCoded 49 = .ok (.aload_n 0, 1) := by decide +kernel
theorem dX0_readCoded_50 : decode cX0_readCoded 50 = .ok (.getfield 44, 3) := by decide +kernel
theorem dX0_readCoded_53 : decode cX0_readCoded 53 = .ok (.if_icmp .ge 15, 3) := by decide +kernel
theorem dX0_readCoded_56 : decode cX0_readCoded 56 = .ok (.aload_n 0, 1) := by decide +kernel
theorem dX0_readCoded_57 : decode cX0_readCoded 57 = .ok (.aload_n 1, 1) := by decide +kernel
theorem dX0_readCoded_58 : decode cX0_readCoded 58 = .ok (.aload_n 2, 1) := by decide +kernel
theorem dX0_readCoded_59 : decode cX0_readCoded 59 = .ok (.invokevirtual 76, 3) := by decide +kernel
theorem dX0_readCoded_62 : decode cX0_readCoded 62 = .ok (.iinc 3 1, 3) := by decide +kernel
theorem dX0_readCoded_65 : decode cX0_readCoded 65 = .ok (.goto (-27), 3) := by decide +kernel
theorem dX0_readCoded_68 : decode cX0_readCoded 68 = .ok (.return_, 1) := by decide +kernel
theorem dX0_readCommand_0 : decode cX0_readCommand 0 = .ok (.aload_n 0, 1) := by decide +kernel
theorem dX0_readCommand_1 : decode cX0_readCommand 1 = .ok (.getfield 21, 3) := by decide +kernel
theorem dX0_readCommand_4 : decode cX0_readCommand 4 = .ok (.aload_n 1, 1) := by decide +kernel
theorem dX0_readCommand_5 : decode cX0_readCommand 5 = .ok (.invokevirtual 79, 3) := by decide +kernel
theorem dX0_readCommand_8 : decode cX0_readCommand 8 = .ok (.istore_n 3, 1) := by decide +kernel
theorem dX0_readCommand_9 : decode cX0_readCommand 9 = .ok (.iload_n 3, 1) := by decide +kernel
theorem dX0_readCommand_10 : decode cX0_readCommand 10 = .ok (.iconst 4, 1) := by decide +kernel
theorem dX0_readCommand_11 : decode cX0_readCommand 11 = .ok (.idiv, 1) := by decide +kernel
theorem dX0_readCommand_12 : decode cX0_readCommand 12 = .ok (.istore 4, 2) := by decide +kernel
theorem dX0_readCommand_14 : decode cX0_readCommand 14 = .ok (.iload_n 3, 1) := by decide +kernel
theorem dX0_readCommand_15 : decode cX0_readCommand 15 = .ok (.iconst 4, 1) := by decide +kernel
theorem dX0_readCommand_16 : decode cX0_readCommand 16 = .ok (.irem, 1) := by decide +kernel
theorem dX0_readCommand_17 : decode cX0_readCommand 17 = .ok (.istore 5, 2) := by decide +kernel
theorem dX0_readCommand_19 : decode cX0_readCommand 19 = .ok (.getstatic 83, 3) := by decide +kernel
theorem dX0_readCommand_22 : decode cX0_readCommand 22 = .ok (.iload 4, 2) := by decide +kernel
theorem dX0_readCommand_24 : decode cX0_readCommand 24 = .ok (.iaload, 1) := by decide +kernel
theorem dX0_readCommand_25 : decode cX0_readCommand 25 = .ok (.aload_n 1, 1) := by decide +kernel
theorem dX0_readCommand_26 : decode cX0_readCommand 26 = .ok (.iload 4, 2) := by decide +kernel
theorem dX0_readCommand_28 : decode cX0_readCommand 28 = .ok (.invokevirtual 28, 3) := by decide +kernel
theorem dX0_readCommand_31 : decode cX0_readCommand 31 = .ok (.iadd, 1) := by decide +kernel
theorem dX0_readCommand_32 : decode cX0_readCommand 32 = .ok (.istore 6, 2) := by decide +kernel
theorem dX0_readCommand_34 : decode cX0_readCommand 34 = .ok (.getstatic 86, 3) := by decide +kernel
theorem dX0_readCommand_37 : decode cX0_readCommand 37 = .ok (.iload 5, 2) := by decide +kernel
theorem dX0_readCommand_39 : decode cX0_readCommand 39 = .ok (.iaload, 1) := by decide +kernel
theorem dX0_readCommand_40 : decode cX0_readCommand 40 = .ok (.aload_n 1, 1) := by decide +kernel
theorem dX0_readCommand_41 : decode cX0_readCommand 41 = .ok (.iload 5, 2) := by decide +kernel
theorem dX0_readCommand_43 : decode cX0_readCommand 43 = .ok (.invokevirtual 28, 3) := by decide +kernel
theorem dX0_readCommand_46 : decode cX0_readCommand 46 = .ok (.iadd, 1) := by decide +kernel
theorem dX0_readCommand_47 : decode cX0_readCommand 47 = .ok (.istore 7, 2) := by decide +kernel
theorem dX0_readCommand_49 : decode cX0_readCommand 49 = .ok (.aload_n 0, 1) := by decide +kernel
theorem dX0_readCommand_50 : decode cX0_readCommand 50 = .ok (.aload_n 2, 1) := by decide +kernel
theorem dX0_readCommand_51 : decode cX0_readCommand 51 = .ok (.iload 6, 2) := by decide +kernel
theorem dX0_readCommand_53 : decode cX0_readCommand 53 = .ok (.invokevirtual 89, 3) := by decide +kernel
theorem dX0_readCommand_56 : decode cX0_readCommand 56 = .ok (.iconst 0, 1) := by decide +kernel
theorem dX0_readCommand_57 : decode cX0_readCommand 57 = .ok (.istore 8, 2) := by decide +kernel
theorem dX0_readCommand_59 : decode cX0_readCommand 59 = .ok (.iload 8, 2) := by decide +kernel
theorem dX0_readCommand_61 : decode cX0_readCommand 61 = .ok (.iload 6, 2) := by decide +kernel
theorem dX0_readCommand_63 : decode cX0_readCommand 63 = .ok (.if_icmp .ge 64, 3) := by decide +kernel
theorem dX0_readCommand_66 : decode cX0_readCommand 66 = .ok (.aload_n 0, 1) := by decide +kernel
theorem dX0_readCommand_67 : decode cX0_readCommand 67 = .ok (.getfield 12, 3) := by decide +kernel
theorem dX0_readCommand_70 : decode cX0_readCommand 70 = .ok (.invokevirtual 93, 3) := by decide +kernel
theorem dX0_readCommand_73 : decode cX0_readCommand 73 = .ok (.ifCond .eq 21, 3) := by decide +kernel
theorem dX0_readCommand_76 : decode cX0_readCommand 76 = .ok (.aload_n 0, 1) := by decide +kernel
theorem dX0_readCommand_77 : decode cX0_readCommand 77 = .ok (.getfield 12, 3) := by decide +kernel
theorem dX0_readCommand_80 : decode cX0_readCommand 80 = .ok (.aload_n 1, 1) := by decide +kernel
theorem dX0_readCommand_81 : decode cX0_readCommand 81 = .ok (.invokevirtual 97, 3) := by decide +kernel
theorem dX0_readCommand_84 : decode cX0_readCommand 84 = .ok (.aload_n 2, 1) := by decide +kernel
theorem dX0_readCommand_85 : decode cX0_readCommand 85 = .ok (.getfield 34, 3) := by decide +kernel
theorem dX0_readCommand_88 : decode cX0_readCommand 88 = .ok (.iconst 4, 1) := by decide +kernel
theorem dX0_readCommand_89 : decode cX0_readCommand 89 = .ok (.dup2, 1) := by decide +kernel
theorem dX0_readCommand_90 : decode cX0_readCommand 90 = .ok (.iaload, 1) := by decide +kernel
theorem dX0_readCommand_91 : decode cX0_readCommand 91 = .ok (.iconst 1, 1) := by decide +kernel
theorem dX0_readCommand_92 : decode cX0_readCommand 92 = .ok (.iadd, 1) := by decide +kernel
theorem dX0_readCommand_93 : decode cX0_readCommand 93 = .ok (.iastore, 1) := by decide +kernel
theorem dX0_readCommand_94 : decode cX0_readCommand 94 = .ok (.aload_n 0, 1) := by decide +kernel
theorem dX0_readCommand_95 : decode cX0_readCommand 95 = .ok (.getfield 12, 3) := by decide +kernel
theorem dX0_readCommand_98 : decode cX0_readCommand 98 = .ok (.aload_n 1, 1) := by decide +kernel
theorem dX0_readCommand_99 : decode cX0_readCommand 99 = .ok (.aload_n 2, 1) := by decide +kernel
theorem dX0_readCommand_100 : decode cX0_readCommand 100 = .ok (.iconst 1, 1) := by decide +kernel
theorem dX0_readCommand_101 : decode cX0_readCommand 101 = .ok (.invokevirtual 100, 3) := by decide +kernel
theorem dX0_readCommand_104 : decode cX0_readCommand 104 = .ok (.aload_n 2, 1) := by decide +kernel
theorem dX0_readCommand_105 : decode cX0_readCommand 105 = .ok (.iconst 2, 1) := by decide +kernel
theorem dX0_readCommand_106 : decode cX0_readCommand 106 = .ok (.invokevirtual 100, 3) := by decide +kernel
theorem dX0_readCommand_109 : decode cX0_readCommand 109 = .ok (.invokevirtual 103, 3) := by decide +kernel
theorem dX0_readCommand_112 : decode cX0_readCommand 112 = .ok (.istore 9, 2) := by decide +kernel
theorem dX0_readCommand_114 : decode cX0_readCommand 114 = .ok (.aload_n 2, 1) := by decide +kernel
theorem dX0_readCommand_115 : decode cX0_readCommand 115 = .ok (.iload 9, 2) := by decide +kernel
theorem dX0_readCommand_117 : decode cX0_readCommand 117 = .ok (.iconst 1, 1) := by decide +kernel
theorem dX0_readCommand_118 : decode cX0_readCommand 118 = .ok (.invokevirtual 61, 3) := by decide +kernel
theorem dX0_readCommand_121 : decode cX0_readCommand 121 = .ok (.iinc 8 1, 3) := by decide +kernel
theorem dX0_readCommand_124 : decode cX0_readCommand 124 = .ok (.goto (-65), 3) := by decide +kernel
theorem dX0_readCommand_127 : decode cX0_readCommand 127 = .ok (.aload_n 2, 1) := by decide +kernel
theorem dX0_readCommand_128 : decode cX0_readCommand 128 = .ok (.getfield 40, 3) := by decide +kernel
theorem dX0_readCommand_131 : decode cX0_readCommand 131 = .ok (.aload_n 0, 1) := by decide +kernel
theorem dX0_readCommand_132 : decode cX0_readCommand 132 = .ok (.getfield 44, 3) := by decide +kernel
theorem dX0_readCommand_135 : decode cX0_readCommand 135 = .ok (.if_icmp .ge 11, 3) := by decide +kernel
theorem dX0_readCommand_138 : decode cX0_readCommand 138 = .ok (.aload_n 0, 1) := by decide +kernel
theorem dX0_readCommand_139 : decode cX0_readCommand 139 = .ok (.aload_n 1, 1) := by decide +kernel
theorem dX0_readCommand_140 : decode cX0_readCommand 140 = .ok (.aload_n 2, 1) := by decide +kernel
theorem dX0_readCommand_141 : decode cX0_readCommand 141 = .ok (.iload 7, 2) := by decide +kernel
theorem dX0_readCommand_143 : decode cX0_readCommand 143 = .ok (.invokevirtual 107, 3) := by decide +kernel
theorem dX0_readCommand_146 : decode cX0_readCommand 146 = .ok (.return_, 1) := by decide +kernel
theorem dX0_readPiece_0 : decode cX0_readPiece 0 = .ok (.aload_n 0, 1) := by decide +kernel
theorem dX0_readPiece_1 : decode cX0_readPiece 1 = .ok (.getfield 25, 3) := by decide +kernel
theorem dX0_readPiece_4 : decode cX0_readPiece 4 = .ok (.aload_n 1, 1) := by decide +kernel
theorem dX0_readPiece_5 : decode cX0_readPiece 5 = .ok (.invokevirtual 79, 3) := by decide +kernel
theorem dX0_readPiece_8 : decode cX0_readPiece 8 = .ok (.istore 4, 2) := by decide +kernel
theorem dX0_readPiece_10 : decode cX0_readPiece 10 = .ok (.iload 4, 2) := by decide +kernel
theorem dX0_readPiece_12 : decode cX0_readPiece 12 = .ok (.iconst 4, 1) := by decide +kernel
theorem dX0_readPiece_13 : decode cX0_readPiece 13 = .ok (.if_icmp .ge 15, 3) := by decide +kernel
theorem dX0_readPiece_16 : decode cX0_readPiece 16 = .ok (.aload_n 2, 1) := by decide +kernel
theorem dX0_readPiece_17 : decode cX0_readPiece 17 = .ok (.getfield 34, 3) := by decide +kernel
theorem dX0_readPiece_20 : decode cX0_readPiece 20 = .ok (.iconst 5, 1) := by decide +kernel
theorem dX0_readPiece_21 : decode cX0_readPiece 21 = .ok (.iload 4, 2) := by decide +kernel
theorem dX0_readPiece_23 : decode cX0_readPiece 23 = .ok (.iadd, 1) := by decide +kernel
theorem dX0_readPiece_24 : decode cX0_readPiece 24 = .ok (.iaload, 1) := by decide +kernel
theorem dX0_readPiece_25 : decode cX0_readPiece 25 = .ok (.goto 11, 3) := by decide +kernel
theorem dX0_readPiece_28 : decode cX0_readPiece 28 = .ok (.aload_n 1, 1) := by decide +kernel
theorem dX0_readPiece_29 : decode cX0_readPiece 29 = .ok (.iload 4, 2) := by decide +kernel
theorem dX0_readPiece_31 : decode cX0_readPiece 31 = .ok (.iconst 4, 1) := by decide +kernel
theorem dX0_readPiece_32 : decode cX0_readPiece 32 = .ok (.isub, 1) := by decide +kernel
theorem dX0_readPiece_33 : decode cX0_readPiece 33 = .ok (.invokestatic 111, 3) := by decide +kernel
theorem dX0_readPiece_36 : decode cX0_readPiece 36 = .ok (.istore 5, 2) := by decide +kernel
theorem dX0_readPiece_38 : decode cX0_readPiece 38 = .ok (.iload 5, 2) := by decide +kernel
theorem dX0_readPiece_40 : decode cX0_readPiece 40 = .ok (.aload_n 2, 1) := by decide +kernel
theorem dX0_readPiece_41 : decode cX0_readPiece 41 = .ok (.getfield 40, 3) := by decide +kernel
theorem dX0_readPiece_44 : decode cX0_readPiece 44 = .ok (.if_icmp .le 19, 3) := by decide +kernel
theorem dX0_readPiece_47 : decode cX0_readPiece 47 = .ok (.aload_n 0, 1) := by decide +kernel
theorem dX0_readPiece_48 : decode cX0_readPiece 48 = .ok (.aload_n 2, 1) := by decide +kernel
theorem dX0_readPiece_49 : decode cX0_readPiece 49 = .ok (.iload 5, 2) := by decide +kernel
theorem dX0_readPiece_51 : decode cX0_readPiece 51 = .ok (.aload_n 2, 1) := by decide +kernel
theorem dX0_readPiece_52 : decode cX0_readPiece 52 = .ok (.getfield 40, 3) := by decide +kernel
theorem dX0_readPiece_55 : decode cX0_readPiece 55 = .ok (.isub, 1) := by decide +kernel
theorem dX0_readPiece_56 : decode cX0_readPiece 56 = .ok (.iconst 1, 1) := by decide +kernel
theorem dX0_readPiece_57 : decode cX0_readPiece 57 = .ok (.isub, 1) := by decide +kernel
theorem dX0_readPiece_58 : decode cX0_readPiece 58 = .ok (.iload_n 3, 1) := by decide +kernel
theorem dX0_readPiece_59 : decode cX0_readPiece 59 = .ok (.invokevirtual 115, 3) := by decide +kernel
theorem dX0_readPiece_62 : decode cX0_readPiece 62 = .ok (.return_, 1) := by decide +kernel
theorem dX0_readPiece_63 : decode cX0_readPiece 63 = .ok (.aload_n 0, 1) := by decide +kernel
theorem dX0_readPiece_64 : decode cX0_readPiece 64 = .ok (.aload_n 2, 1) := by decide +kernel
theorem dX0_readPiece_65 : decode cX0_readPiece 65 = .ok (.iload_n 3, 1) := by decide +kernel
theorem dX0_readPiece_66 : decode cX0_readPiece 66 = .ok (.invokevirtual 89, 3) := by decide +kernel
theorem dX0_readPiece_69 : decode cX0_readPiece 69 = .ok (.iconst 0, 1) := by decide +kernel
theorem dX0_readPiece_70 : decode cX0_readPiece 70 = .ok (.istore 6, 2) := by decide +kernel
theorem dX0_readPiece_72 : decode cX0_readPiece 72 = .ok (.iload 6, 2) := by decide +kernel
theorem dX0_readPiece_74 : decode cX0_readPiece 74 = .ok (.iload_n 3, 1) := by decide +kernel
theorem dX0_readPiece_75 : decode cX0_readPiece 75 = .ok (.if_icmp .ge 20, 3) := by decide +kernel
theorem dX0_readPiece_78 : decode cX0_readPiece 78 = .ok (.aload_n 2, 1) := by decide +kernel
theorem dX0_readPiece_79 : decode cX0_readPiece 79 = .ok (.aload_n 2, 1) := by decide +kernel
theorem dX0_readPiece_80 : decode cX0_readPiece 80 = .ok (.iload 5, 2) := by decide +kernel
theorem dX0_readPiece_82 : decode cX0_readPiece 82 = .ok (.invokevirtual 100, 3) := by decide +kernel
theorem dX0_readPiece_85 : decode cX0_readPiece 85 = .ok (.iconst 2, 1) := by decide +kernel
theorem dX0_readPiece_86 : decode cX0_readPiece 86 = .ok (.invokevirtual 61, 3) := by decide +kernel
theorem dX0_readPiece_89 : decode cX0_readPiece 89 = .ok (.iinc 6 1, 3) := by decide +kernel
theorem dX0_readPiece_92 : decode cX0_readPiece 92 = .ok (.goto (-20), 3) := by decide +kernel
theorem dX0_readPiece_95 : decode cX0_readPiece 95 = .ok (.iload 4, 2) := by decide +kernel
theorem dX0_readPiece_97 : decode cX0_readPiece 97 = .ok (.ifCond .eq 9, 3) := by decide +kernel
theorem dX0_readPiece_100 : decode cX0_readPiece 100 = .ok (.aload_n 2, 1) := by decide +kernel
theorem dX0_readPiece_101 : decode cX0_readPiece 101 = .ok (.iload 5, 2) := by decide +kernel
theorem dX0_readPiece_103 : decode cX0_readPiece 103 = .ok (.invokevirtual 119, 3) := by decide +kernel
theorem dX0_readPiece_106 : decode cX0_readPiece 106 = .ok (.return_, 1) := by decide +kernel
theorem dX0_readDistance_0 : decode cX0_readDistance 0 = .ok (.iconst 1, 1) := by decide +kernel
theorem dX0_readDistance_1 : decode cX0_readDistance 1 = .ok (.iload_n 1, 1) := by decide +kernel
theorem dX0_readDistance_2 : decode cX0_readDistance 2 = .ok (.iconst 2, 1) := by decide +kernel
theorem dX0_readDistance_3 : decode cX0_readDistance 3 = .ok (.idiv, 1) := by decide +kernel
theorem dX0_readDistance_4 : decode cX0_readDistance 4 = .ok (.iadd, 1) := by decide +kernel
theorem dX0_readDistance_5 : decode cX0_readDistance 5 = .ok (.istore_n 2, 1) := by decide +kernel
theorem dX0_readDistance_6 : decode cX0_readDistance 6 = .ok (.iconst 2, 1) := by decide +kernel
theorem dX0_readDistance_7 : decode cX0_readDistance 7 = .ok (.iload_n 1, 1) := by decide +kernel
theorem dX0_readDistance_8 : decode cX0_readDistance 8 = .ok (.iconst 2, 1) := by decide +kernel
theorem dX0_readDistance_9 : decode cX0_readDistance 9 = .ok (.irem, 1) := by decide +kernel
theorem dX0_readDistance_10 : decode cX0_readDistance 10 = .ok (.iadd, 1) := by decide +kernel
theorem dX0_readDistance_11 : decode cX0_readDistance 11 = .ok (.iload_n 2, 1) := by decide +kernel
theorem dX0_readDistance_12 : decode cX0_readDistance 12 = .ok (.ishl, 1) := by decide +kernel
theorem dX0_readDistance_13 : decode cX0_readDistance 13 = .ok (.iconst 3, 1) := by decide +kernel
theorem dX0_readDistance_14 : decode cX0_readDistance 14 = .ok (.isub, 1) := by decide +kernel
theorem dX0_readDistance_15 : decode cX0_readDistance 15 = .ok (.aload_n 0, 1) := by decide +kernel
theorem dX0_readDistance_16 : decode cX0_readDistance 16 = .ok (.iload_n 2, 1) := by decide +kernel
theorem dX0_readDistance_17 : decode cX0_readDistance 17 = .ok (.invokevirtual 28, 3) := by decide +kernel
theorem dX0_readDistance_20 : decode cX0_readDistance 20 = .ok (.iadd, 1) := by decide +kernel
theorem dX0_readDistance_21 : decode cX0_readDistance 21 = .ok (.ireturn, 1) := by decide +kernel
theorem dX0_addWord_0 : decode cX0_addWord 0 = .ok (.iload_n 2, 1) := by decide +kernel
theorem dX0_addWord_1 : decode cX0_addWord 1 = .ok (.bipush 8, 2) := by decide +kernel
theorem dX0_addWord_3 : decode cX0_addWord 3 = .ok (.irem, 1) := by decide +kernel
theorem dX0_addWord_4 : decode cX0_addWord 4 = .ok (.istore 4, 2) := by decide +kernel
theorem dX0_addWord_6 : decode cX0_addWord 6 = .ok (.iload_n 2, 1) := by decide +kernel
theorem dX0_addWord_7 : decode cX0_addWord 7 = .ok (.bipush 8, 2) := by decide +kernel
theorem dX0_addWord_9 : decode cX0_addWord 9 = .ok (.idiv, 1) := by decide +kernel
theorem dX0_addWord_10 : decode cX0_addWord 10 = .ok (.istore 5, 2) := by decide +kernel
theorem dX0_addWord_12 : decode cX0_addWord 12 = .ok (.iload_n 3, 1) := by decide +kernel
theorem dX0_addWord_13 : decode cX0_addWord 13 = .ok (.iconst 3, 1) := by decide +kernel
theorem dX0_addWord_14 : decode cX0_addWord 14 = .ok (.if_icmp .lt 15, 3) := by decide +kernel
theorem dX0_addWord_17 : decode cX0_addWord 17 = .ok (.iload_n 3, 1) := by decide +kernel
theorem dX0_addWord_18 : decode cX0_addWord 18 = .ok (.bipush 6, 2) := by decide +kernel
theorem dX0_addWord_20 : decode cX0_addWord 20 = .ok (.if_icmp .gt 9, 3) := by decide +kernel
theorem dX0_addWord_23 : decode cX0_addWord 23 = .ok (.iload 5, 2) := by decide +kernel
theorem dX0_addWord_25 : decode cX0_addWord 25 = .ok (.iconst 4, 1) := by decide +kernel
theorem dX0_addWord_26 : decode cX0_addWord 26 = .ok (.if_icmp .le 13, 3) := by decide +kernel
theorem dX0_addWord_29 : decode cX0_addWord 29 = .ok (.new 47, 3) := by decide +kernel
theorem dX0_addWord_32 : decode cX0_addWord 32 = .ok (.dup, 1) := by decide +kernel
theorem dX0_addWord_33 : decode cX0_addWord 33 = .ok (.ldc 123, 2) := by decide +kernel
theorem dX0_addWord_35 : decode cX0_addWord 35 = .ok (.invokespecial 51, 3) := by decide +kernel
theorem dX0_addWord_38 : decode cX0_addWord 38 = .ok (.athrow, 1) := by decide +kernel
theorem dX0_addWord_39 : decode cX0_addWord 39 = .ok (.iload 5, 2) := by decide +kernel
theorem dX0_addWord_41 : decode cX0_addWord 41 = .ok (.iconst 2, 1) := by decide +kernel
theorem dX0_addWord_42 : decode cX0_addWord 42 = .ok (.if_icmp .ne 7, 3) := by decide +kernel
theorem dX0_addWord_45 : decode cX0_addWord 45 = .ok (.iconst 1, 1) := by decide +kernel
theorem dX0_addWord_46 : decode cX0_addWord 46 = .ok (.goto 4, 3) := by decide +kernel
theorem dX0_addWord_49 : decode cX0_addWord 49 = .ok (.iconst 0, 1) := by decide +kernel
theorem dX0_addWord_50 : decode cX0_addWord 50 = .ok (.istore 6, 2) := by decide +kernel
theorem dX0_addWord_52 : decode cX0_addWord 52 = .ok (.iload 5, 2) := by decide +kernel
theorem dX0_addWord_54 : decode cX0_addWord 54 = .ok (.iconst 3, 1) := by decide +kernel
theorem dX0_addWord_55 : decode cX0_addWord 55 = .ok (.if_icmp .ne 9, 3) := by decide +kernel
theorem dX0_addWord_58 : decode cX0_addWord 58 = .ok (.iload_n 3, 1) := by decide +kernel
theorem dX0_addWord_59 : decode cX0_addWord 59 = .ok (.iconst 1, 1) := by decide +kernel
theorem dX0_addWord_60 : decode cX0_addWord 60 = .ok (.isub, 1) := by decide +kernel
theorem dX0_addWord_61 : decode cX0_addWord 61 = .ok (.goto 4, 3) := by decide +kernel
theorem dX0_addWord_64 : decode cX0_addWord 64 = .ok (.iload_n 3, 1) := by decide +kernel
theorem dX0_addWord_65 : decode cX0_addWord 65 = .ok (.istore 7, 2) := by decide +kernel
theorem dX0_addWord_67 : decode cX0_addWord 67 = .ok (.aload_n 0, 1) := by decide +kernel
theorem dX0_addWord_68 : decode cX0_addWord 68 = .ok (.aload_n 1, 1) := by decide +kernel
theorem dX0_addWord_69 : decode cX0_addWord 69 = .ok (.iload 5, 2) := by decide +kernel
theorem dX0_addWord_71 : decode cX0_addWord 71 = .ok (.iconst 4, 1) := by decide +kernel
theorem dX0_addWord_72 : decode cX0_addWord 72 = .ok (.if_icmp .ne 9, 3) := by decide +kernel
theorem dX0_addWord_75 : decode cX0_addWord 75 = .ok (.iload_n 3, 1) := by decide +kernel
theorem dX0_addWord_76 : decode cX0_addWord 76 = .ok (.iconst 1, 1) := by decide +kernel
theorem dX0_addWord_77 : decode cX0_addWord 77 = .ok (.iadd, 1) := by decide +kernel
theorem dX0_addWord_78 : decode cX0_addWord 78 = .ok (.goto 8, 3) := by decide +kernel
theorem dX0_addWord_81 : decode cX0_addWord 81 = .ok (.iload 7, 2) := by decide +kernel
theorem dX0_addWord_83 : decode cX0_addWord 83 = .ok (.iload 6, 2) := by decide +kernel
theorem dX0_addWord_85 : decode cX0_addWord 85 = .ok (.isub, 1) := by decide +kernel
theorem dX0_addWord_86 : decode cX0_addWord 86 = .ok (.invokevirtual 89, 3) := by decide +kernel
theorem dX0_addWord_89 : decode cX0_addWord 89 = .ok (.iload 6, 2) := by decide +kernel
theorem dX0_addWord_91 : decode cX0_addWord 91 = .ok (.istore 8, 2) := by decide +kernel
theorem dX0_addWord_93 : decode cX0_addWord 93 = .ok (.iload 8, 2) := by decide +kernel
theorem dX0_addWord_95 : decode cX0_addWord 95 = .ok (.iload 7, 2) := by decide +kernel
theorem dX0_addWord_97 : decode cX0_addWord 97 = .ok (.if_icmp .ge 74, 3) := by decide +kernel
theorem dX0_addWord_100 : decode cX0_addWord 100 = .ok (.bipush 7, 2) := by decide +kernel
theorem dX0_addWord_102 : decode cX0_addWord 102 = .ok (.iload 4, 2) := by decide +kernel
theorem dX0_addWord_104 : decode cX0_addWord 104 = .ok (.imul, 1) := by decide +kernel
theorem dX0_addWord_105 : decode cX0_addWord 105 = .ok (.iconst 5, 1) := by decide +kernel
theorem dX0_addWord_106 : decode cX0_addWord 106 = .ok (.iload_n 3, 1) := by decide +kernel
theorem dX0_addWord_107 : decode cX0_addWord 107 = .ok (.imul, 1) := by decide +kernel
theorem dX0_addWord_108 : decode cX0_addWord 108 = .ok (.iadd, 1) := by decide +kernel
theorem dX0_addWord_109 : decode cX0_addWord 109 = .ok (.iconst 3, 1) := by decide +kernel
theorem dX0_addWord_110 : decode cX0_addWord 110 = .ok (.iload 8, 2) := by decide +kernel
theorem dX0_addWord_112 : decode cX0_addWord 112 = .ok (.imul, 1) := by decide +kernel
theorem dX0_addWord_113 : decode cX0_addWord 113 = .ok (.iload 8, 2) := by decide +kernel
theorem dX0_addWord_115 : decode cX0_addWord 115 = .ok (.imul, 1) := by decide +kernel
theorem dX0_addWord_116 : decode cX0_addWord 116 = .ok (.iadd, 1) := by decide +kernel
theorem dX0_addWord_117 : decode cX0_addWord 117 = .ok (.iload 8, 2) := by decide +kernel
theorem dX0_addWord_119 : decode cX0_addWord 119 = .ok (.iload 4, 2) := by decide +kernel
theorem dX0_addWord_121 : decode cX0_addWord 121 = .ok (.imul, 1) := by decide +kernel
theorem dX0_addWord_122 : decode cX0_addWord 122 = .ok (.iadd, 1) := by decide +kernel
theorem dX0_addWord_123 : decode cX0_addWord 123 = .ok (.bipush 32, 2) := by decide +kernel
theorem dX0_addWord_125 : decode cX0_addWord 125 = .ok (.irem, 1) := by decide +kernel
theorem dX0_addWord_126 : decode cX0_addWord 126 = .ok (.istore 9, 2) := by decide +kernel
theorem dX0_addWord_128 : decode cX0_addWord 128 = .ok (.iload 5, 2) := by decide +kernel
theorem dX0_addWord_130 : decode cX0_addWord 130 = .ok (.iconst 1, 1) := by decide +kernel
theorem dX0_addWord_131 : decode cX0_addWord 131 = .ok (.if_icmp .ne 12, 3) := by decide +kernel
theorem dX0_addWord_134 : decode cX0_addWord 134 = .ok (.iload 8, 2) := by decide +kernel
theorem dX0_addWord_136 : decode cX0_addWord 136 = .ok (.ifCond .ne 7, 3) := by decide +kernel
theorem dX0_addWord_139 : decode cX0_addWord 139 = .ok (.iconst 1, 1) := by decide +kernel
theorem dX0_addWord_140 : decode cX0_addWord 140 = .ok (.goto 4, 3) := by decide +kernel
theorem dX0_addWord_143 : decode cX0_addWord 143 = .ok (.iconst 0, 1) := by decide +kernel
theorem dX0_addWord_144 : decode cX0_addWord 144 = .ok (.istore 10, 2) := by decide +kernel
theorem dX0_addWord_146 : decode cX0_addWord 146 = .ok (.aload_n 1, 1) := by decide +kernel
theorem dX0_addWord_147 : decode cX0_addWord 147 = .ok (.iload 10, 2) := by decide +kernel
theorem dX0_addWord_149 : decode cX0_addWord 149 = .ok (.ifCond .eq 10, 3) := by decide +kernel
theorem dX0_addWord_152 : decode cX0_addWord 152 = .ok (.iload 9, 2) := by decide +kernel
theorem dX0_addWord_154 : decode cX0_addWord 154 = .ok (.iconst 1, 1) := by decide +kernel
theorem dX0_addWord_155 : decode cX0_addWord 155 = .ok (.ixor, 1) := by decide +kernel
theorem dX0_addWord_156 : decode cX0_addWord 156 = .ok (.goto 5, 3) := by decide +kernel
theorem dX0_addWord_159 : decode cX0_addWord 159 = .ok (.iload 9, 2) := by decide +kernel
theorem dX0_addWord_161 : decode cX0_addWord 161 = .ok (.iconst 3, 1) := by decide +kernel
theorem dX0_addWord_162 : decode cX0_addWord 162 = .ok (.invokevirtual 61, 3) := by decide +kernel
theorem dX0_addWord_165 : decode cX0_addWord 165 = .ok (.iinc 8 1, 3) := by decide +kernel
theorem dX0_addWord_168 : decode cX0_addWord 168 = .ok (.goto (-75), 3) := by decide +kernel
theorem dX0_addWord_171 : decode cX0_addWord 171 = .ok (.iload 5, 2) := by decide +kernel
theorem dX0_addWord_173 : decode cX0_addWord 173 = .ok (.iconst 4, 1) := by decide +kernel
theorem dX0_addWord_174 : decode cX0_addWord 174 = .ok (.if_icmp .ne 9, 3) := by decide +kernel
theorem dX0_addWord_177 : decode cX0_addWord 177 = .ok (.aload_n 1, 1) := by decide +kernel
theorem dX0_addWord_178 : decode cX0_addWord 178 = .ok (.iconst 0, 1) := by decide +kernel
theorem dX0_addWord_179 : decode cX0_addWord 179 = .ok (.iconst 3, 1) := by decide +kernel
theorem dX0_addWord_180 : decode cX0_addWord 180 = .ok (.invokevirtual 61, 3) := by decide +kernel
theorem dX0_addWord_183 : decode cX0_addWord 183 = .ok (.return_, 1) := by decide +kernel
theorem dX0_refuseBeyondEnd_0 : decode cX0_refuseBeyondEnd 0 = .ok (.iload_n 2, 1) := by decide +kernel
theorem dX0_refuseBeyondEnd_1 : decode cX0_refuseBeyondEnd 1 = .ok (.aload_n 0, 1) := by decide +kernel
theorem dX0_refuseBeyondEnd_2 : decode cX0_refuseBeyondEnd 2 = .ok (.getfield 44, 3) := by decide +kernel
theorem dX0_refuseBeyondEnd_5 : decode cX0_refuseBeyondEnd 5 = .ok (.aload_n 1, 1) := by decide +kernel
theorem dX0_refuseBeyondEnd_6 : decode cX0_refuseBeyondEnd 6 = .ok (.getfield 40, 3) := by decide +kernel
theorem dX0_refuseBeyondEnd_9 : decode cX0_refuseBeyondEnd 9 = .ok (.isub, 1) := by decide +kernel
theorem dX0_refuseBeyondEnd_10 : decode cX0_refuseBeyondEnd 10 = .ok (.if_icmp .le 13, 3) := by decide +kernel
theorem dX0_refuseBeyondEnd_13 : decode cX0_refuseBeyondEnd 13 = .ok (.new 47, 3) := by decide +kernel
theorem dX0_refuseBeyondEnd_16 : decode cX0_refuseBeyondEnd 16 = .ok (.dup, 1) := by decide +kernel
theorem dX0_refuseBeyondEnd_17 : decode cX0_refuseBeyondEnd 17 = .ok (.ldc 125, 2) := by decide +kernel
theorem dX0_refuseBeyondEnd_19 : decode cX0_refuseBeyondEnd 19 = .ok (.invokespecial 51, 3) := by decide +kernel
theorem dX0_refuseBeyondEnd_22 : decode cX0_refuseBeyondEnd 22 = .ok (.athrow, 1) := by decide +kernel
theorem dX0_refuseBeyondEnd_23 : decode cX0_refuseBeyondEnd 23 = .ok (.return_, 1) := by decide +kernel
theorem dX1_init_0 : decode cX1_init 0 = .ok (.aload_n 0, 1) := by decide +kernel
theorem dX1_init_1 : decode cX1_init 1 = .ok (.invokespecial 1, 3) := by decide +kernel
theorem dX1_init_4 : decode cX1_init 4 = .ok (.aload_n 0, 1) := by decide +kernel
theorem dX1_init_5 : decode cX1_init 5 = .ok (.bipush 32, 2) := by decide +kernel
theorem dX1_init_7 : decode cX1_init 7 = .ok (.newarray .int, 2) := by decide +kernel
theorem dX1_init_9 : decode cX1_init 9 = .ok (.putfield 9, 3) := by decide +kernel
theorem dX1_init_12 : decode cX1_init 12 = .ok (.aload_n 0, 1) := by decide +kernel
theorem dX1_init_13 : decode cX1_init 13 = .ok (.bipush 32, 2) := by decide +kernel
theorem dX1_init_15 : decode cX1_init 15 = .ok (.newarray .int, 2) := by decide +kernel
theorem dX1_init_17 : decode cX1_init 17 = .ok (.putfield 13, 3) := by decide +kernel
theorem dX1_init_20 : decode cX1_init 20 = .ok (.aload_n 0, 1) := by decide +kernel
theorem dX1_init_21 : decode cX1_init 21 = .ok (.bipush 8, 2) := by decide +kernel
theorem dX1_init_23 : decode cX1_init 23 = .ok (.newarray .int, 2) := by decide +kernel
theorem dX1_init_25 : decode cX1_init 25 = .ok (.putfield 16, 3) := by decide +kernel
theorem dX1_init_28 : decode cX1_init 28 = .ok (.return_, 1) := by decide +kernel
theorem dX1_readCode_0 : decode cX1_readCode 0 = .ok (.aload_n 0, 1) := by decide +kernel
theorem dX1_readCode_1 : decode cX1_readCode 1 = .ok (.getfield 9, 3) := by decide +kernel
theorem dX1_readCode_4 : decode cX1_readCode 4 = .ok (.iconst (-1), 1) := by decide +kernel
theorem dX1_readCode_5 : decode cX1_readCode 5 = .ok (.invokestatic 19, 3) := by decide +kernel
theorem dX1_readCode_8 : decode cX1_readCode 8 = .ok (.aload_n 1, 1) := by decide +kernel
theorem dX1_readCode_9 : decode cX1_readCode 9 = .ok (.iconst 1, 1) := by decide +kernel
theorem dX1_readCode_10 : decode cX1_readCode 10 = .ok (.invokevirtual 25, 3) := by decide +kernel
theorem dX1_readCode_13 : decode cX1_readCode 13 = .ok (.iconst 1, 1) := by decide +kernel
theorem dX1_readCode_14 : decode cX1_readCode 14 = .ok (.if_icmp .ne 12, 3) := by decide +kernel
theorem dX1_readCode_17 : decode cX1_readCode 17 = .ok (.aload_n 0, 1) := by decide +kernel
theorem dX1_readCode_18 : decode cX1_readCode 18 = .ok (.aload_n 1, 1) := by decide +kernel
theorem dX1_readCode_19 : decode cX1_readCode 19 = .ok (.iload_n 2, 1) := by decide +kernel
theorem dX1_readCode_20 : decode cX1_readCode 20 = .ok (.invokevirtual 31, 3) := by decide +kernel
theorem dX1_readCode_23 : decode cX1_readCode 23 = .ok (.goto 9, 3) := by decide +kernel
theorem dX1_readCode_26 : decode cX1_readCode 26 = .ok (.aload_n 0, 1) := by decide +kernel
theorem dX1_readCode_27 : decode cX1_readCode 27 = .ok (.aload_n 1, 1) := by decide +kernel
theorem dX1_readCode_28 : decode cX1_readCode 28 = .ok (.iload_n 2, 1) := by decide +kernel
theorem dX1_readCode_29 : decode cX1_readCode 29 = .ok (.invokevirtual 35, 3) := by decide +kernel
theorem dX1_readCode_32 : decode cX1_readCode 32 = .ok (.aload_n 0, 1) := by decide +kernel
theorem dX1_readCode_33 : decode cX1_readCode 33 = .ok (.iload_n 2, 1) := by decide +kernel
theorem dX1_readCode_34 : decode cX1_readCode 34 = .ok (.invokevirtual 38, 3) := by decide +kernel
theorem dX1_readCode_37 : decode cX1_readCode 37 = .ok (.return_, 1) := by decide +kernel
theorem dX1_readSymbol_0 : decode cX1_readSymbol 0 = .ok (.aload_n 0, 1) := by decide +kernel
theorem dX1_readSymbol_1 : decode cX1_readSymbol 1 = .ok (.getfield 16, 3) := by decide +kernel
theorem dX1_readSymbol_4 : decode cX1_readSymbol 4 = .ok (.iconst 0, 1) := by decide +kernel
theorem dX1_readSymbol_5 : decode cX1_readSymbol 5 = .ok (.iaload, 1) := by decide +kernel
theorem dX1_readSymbol_6 : decode cX1_readSymbol 6 = .ok (.iconst 1, 1) := by decide +kernel
theorem dX1_readSymbol_7 : decode cX1_readSymbol 7 = .ok (.if_icmp .ne 10, 3) := by decide +kernel
theorem dX1_readSymbol_10 : decode cX1_readSymbol 10 = .ok (.aload_n 0, 1) := by decide +kernel
theorem dX1_readSymbol_11 : decode cX1_readSymbol 11 = .ok (.getfield 13, 3) := by decide +kernel
theorem dX1_readSymbol_14 : decode cX1_readSymbol 14 = .ok (.iconst 0, 1) := by decide +kernel
theorem dX1_readSymbol_15 : decode cX1_readSymbol 15 = .ok (.iaload, 1) := by decide +kernel
theorem dX1_readSymbol_16 : decode cX1_readSymbol 16 = .ok (.ireturn, 1) := by decide +kernel
theorem dX1_readSymbol_17 : decode cX1_readSymbol 17 = .ok (.iconst 0, 1) := by decide +kernel
theorem dX1_readSymbol_18 : decode cX1_readSymbol 18 = .ok (.istore_n 2, 1) := by decide +kernel
theorem dX1_readSymbol_19 : decode cX1_readSymbol 19 = .ok (.iconst 0, 1) := by decide +kernel
theorem dX1_readSymbol_20 : decode cX1_readSymbol 20 = .ok (.istore_n 3, 1) := by decide +kernel
theorem dX1_readSymbol_21 : decode cX1_readSymbol 21 = .ok (.iconst 0, 1) := by decide +kernel
theorem dX1_readSymbol_22 : decode cX1_readSymbol 22 = .ok (.istore 4, 2) := by decide +kernel
theorem dX1_readSymbol_24 : decode cX1_readSymbol 24 = .ok (.iconst 1, 1) := by decide +kernel
theorem dX1_readSymbol_25 : decode cX1_readSymbol 25 = .ok (.istore 5, 2) := by decide +kernel
theorem dX1_readSymbol_27 : decode cX1_readSymbol 27 = .ok (.iload 5, 2) := by decide +kernel
theorem dX1_readSymbol_29 : decode cX1_readSymbol 29 = .ok (.bipush 7, 2) := by decide +kernel
theorem dX1_readSymbol_31 : decode cX1_readSymbol 31 = .ok (.if_icmp .gt 70, 3) := by decide +kernel
theorem dX1_readSymbol_34 : decode cX1_readSymbol 34 = .ok (.iconst 2, 1) := by decide +kernel
theorem dX1_readSymbol_35 : decode cX1_readSymbol 35 = .ok (.iload_n 2, 1) := by decide +kernel
theorem dX1_readSymbol_36 : decode cX1_readSymbol 36 = .ok (.imul, 1) := by decide +kernel
theorem dX1_readSymbol_37 : decode cX1_readSymbol 37 = .ok (.aload_n 1, 1) := by decide +kernel
theorem dX1_readSymbol_38 : decode cX1_readSymbol 38 = .ok (.iconst 1, 1) := by decide +kernel
theorem dX1_readSymbol_39 : decode cX1_readSymbol 39 = .ok (.invokevirtual 25, 3) := by decide +kernel
theorem dX1_readSymbol_42 : decode cX1_readSymbol 42 = .ok (.iadd, 1) := by decide +kernel
theorem dX1_readSymbol_43 : decode cX1_readSymbol 43 = .ok (.istore_n 2, 1) := by decide +kernel
theorem dX1_readSymbol_44 : decode cX1_readSymbol 44 = .ok (.iconst 2, 1) := by decide +kernel
theorem dX1_readSymbol_45 : decode cX1_readSymbol 45 = .ok (.iload_n 3, 1) := by decide +kernel
theorem dX1_readSymbol_46 : decode cX1_readSymbol 46 = .ok (.imul, 1) := by decide +kernel
theorem dX1_readSymbol_47 : decode cX1_readSymbol 47 = .ok (.istore_n 3, 1) := by decide +kernel
theorem dX1_readSymbol_48 : decode cX1_readSymbol 48 = .ok (.iload_n 2, 1) := by decide +kernel
theorem dX1_readSymbol_49 : decode cX1_readSymbol 49 = .ok (.iload_n 3, 1) := by decide +kernel
theorem dX1_readSymbol_50 : decode cX1_readSymbol 50 = .ok (.isub, 1) := by decide +kernel
theorem dX1_readSymbol_51 : decode cX1_readSymbol 51 = .ok (.aload_n 0, 1) := by decide +kernel
theorem dX1_readSymbol_52 : decode cX1_readSymbol 52 = .ok (.getfield 16, 3) := by decide +kernel
theorem dX1_readSymbol_55 : decode cX1_readSymbol 55 = .ok (.iload 5, 2) := by decide +kernel
theorem dX1_readSymbol_57 : decode cX1_readSymbol 57 = .ok (.iaload, 1) := by decide +kernel
theorem dX1_readSymbol_58 : decode cX1_readSymbol 58 = .ok (.if_icmp .ge 15, 3) := by decide +kernel
theorem dX1_readSymbol_61 : decode cX1_readSymbol 61 = .ok (.aload_n 0, 1) := by decide +kernel
theorem dX1_readSymbol_62 : decode cX1_readSymbol 62 = .ok (.getfield 13, 3) := by decide +kernel
theorem dX1_readSymbol_65 : decode cX1_readSymbol 65 = .ok (.iload 4, 2) := by decide +kernel
theorem dX1_readSymbol_67 : decode cX1_readSymbol 67 = .ok (.iload_n 2, 1) := by decide +kernel
theorem dX1_readSymbol_68 : decode cX1_readSymbol 68 = .ok (.iadd, 1) := by decide +kernel
theorem dX1_readSymbol_69 : decode cX1_readSymbol 69 = .ok (.iload_n 3, 1) := by decide +kernel
theorem dX1_readSymbol_70 : decode cX1_readSymbol 70 = .ok (.isub, 1) := by decide +kernel
theorem dX1_readSymbol_71 : decode cX1_readSymbol 71 = .ok (.iaload, 1) := by decide +kernel
theorem dX1_readSymbol_72 : decode cX1_readSymbol 72 = .ok (.ireturn, 1) := by decide +kernel
theorem dX1_readSymbol_73 : decode cX1_readSymbol 73 = .ok (.iload_n 3, 1) := by decide +kernel
theorem dX1_readSymbol_74 : decode cX1_readSymbol 74 = .ok (.aload_n 0, 1) := by decide +kernel
theorem dX1_readSymbol_75 : decode cX1_readSymbol 75 = .ok (.getfield 16, 3) := by decide +kernel
theorem dX1_readSymbol_78 : decode cX1_readSymbol 78 = .ok (.iload 5, 2) := by decide +kernel
theorem dX1_readSymbol_80 : decode cX1_readSymbol 80 = .ok (.iaload, 1) := by decide +kernel
theorem dX1_readSymbol_81 : decode cX1_readSymbol 81 = .ok (.iadd, 1) := by decide +kernel
theorem dX1_readSymbol_82 : decode cX1_readSymbol 82 = .ok (.istore_n 3, 1) := by decide +kernel
theorem dX1_readSymbol_83 : decode cX1_readSymbol 83 = .ok (.iload 4, 2) := by decide +kernel
theorem dX1_readSymbol_85 : decode cX1_readSymbol 85 = .ok (.aload_n 0, 1) := by decide +kernel
theorem dX1_readSymbol_86 : decode cX1_readSymbol 86 = .ok (.getfield 16, 3) := by decide +kernel
theorem dX1_readSymbol_89 : decode cX1_readSymbol 89 = .ok (.iload 5, 2) := by decide +kernel
theorem dX1_readSymbol_91 : decode cX1_readSymbol 91 = .ok (.iaload, 1) := by decide +kernel
theorem dX1_readSymbol_92 : decode cX1_readSymbol 92 = .ok (.iadd, 1) := by decide +kernel
theorem dX1_readSymbol_93 : decode cX1_readSymbol 93 = .ok (.istore 4, 2) := by decide +kernel
theorem dX1_readSymbol_95 : decode cX1_readSymbol 95 = .ok (.iinc 5 1, 3) := by decide +kernel
theorem dX1_readSymbol_98 : decode cX1_readSymbol 98 = .ok (.goto (-71), 3) := by decide +kernel
theorem dX1_readSymbol_101 : decode cX1_readSymbol 101 = .ok (.new 42, 3) := by decide +kernel
theorem dX1_readSymbol_104 : decode cX1_readSymbol 104 = .ok (.dup, 1) := by decide +kernel
theorem dX1_readSymbol_105 : decode cX1_readSymbol 105 = .ok (.ldc 44, 2) := by decide +kernel
theorem dX1_readSymbol_107 : decode cX1_readSymbol 107 = .ok (.invokespecial 46, 3) := by decide +kernel
theorem dX1_readSymbol_110 : decode cX1_readSymbol 110 = .ok (.athrow, 1) := by decide +kernel
theorem dX1_readSimple_0 : decode cX1_readSimple 0 = .ok (.aload_n 1, 1) := by decide +kernel
theorem dX1_readSimple_1 : decode cX1_readSimple 1 = .ok (.iconst 2, 1) := by decide +kernel
theorem dX1_readSimple_2 : decode cX1_readSimple 2 = .ok (.invokevirtual 25, 3) := by decide +kernel
theorem dX1_readSimple_5 : decode cX1_readSimple 5 = .ok (.iconst 1, 1) := by decide +kernel
theorem dX1_readSimple_6 : decode cX1_readSimple 6 = .ok (.iadd, 1) := by decide +kernel
theorem dX1_readSimple_7 : decode cX1_readSimple 7 = .ok (.istore_n 3, 1) := by decide +kernel
theorem dX1_readSimple_8 : decode cX1_readSimple 8 = .ok (.iload_n 2, 1) := by decide +kernel
theorem dX1_readSimple_9 : decode cX1_readSimple 9 = .ok (.invokestatic 49, 3) := by decide +kernel
theorem dX1_readSimple_12 : decode cX1_readSimple 12 = .ok (.istore 4, 2) := by decide +kernel
theorem dX1_readSimple_14 : decode cX1_readSimple 14 = .ok (.iconst 0, 1) := by decide +kernel
theorem dX1_readSimple_15 : decode cX1_readSimple 15 = .ok (.istore 5, 2) := by decide +kernel
theorem dX1_readSimple_17 : decode cX1_readSimple 17 = .ok (.iload 5, 2) := by decide +kernel
theorem dX1_readSimple_19 : decode cX1_readSimple 19 = .ok (.iload_n 3, 1) := by decide +kernel
theorem dX1_readSimple_20 : decode cX1_readSimple 20 = .ok (.if_icmp .ge 61, 3) := by decide +kernel
theorem dX1_readSimple_23 : decode cX1_readSimple 23 = .ok (.aload_n 1, 1) := by decide +kernel
theorem dX1_readSimple_24 : decode cX1_readSimple 24 = .ok (.iload 4, 2) := by decide +kernel
theorem dX1_readSimple_26 : decode cX1_readSimple 26 = .ok (.invokevirtual 25, 3) := by decide +kernel
theorem dX1_readSimple_29 : decode cX1_readSimple 29 = .ok (.istore 6, 2) := by decide +kernel
theorem dX1_readSimple_31 : decode cX1_readSimple 31 = .ok (.iload 6, 2) := by decide +kernel
theorem dX1_readSimple_33 : decode cX1_readSimple 33 = .ok (.iload_n 2, 1) := by decide +kernel
theorem dX1_readSimple_34 : decode cX1_readSimple 34 = .ok (.if_icmp .ge 14, 3) := by decide +kernel
theorem dX1_readSimple_37 : decode cX1_readSimple 37 = .ok (.aload_n 0, 1) := by decide +kernel
theorem dX1_readSimple_38 : decode cX1_readSimple 38 = .ok (.getfield 9, 3) := by decide +kernel
theorem dX1_readSimple_41 : decode cX1_readSimple 41 = .ok (.iload 6, 2) := by decide +kernel
theorem dX1_readSimple_43 : decode cX1_readSimple 43 = .ok (.iaload, 1) := by decide +kernel
theorem dX1_readSimple_44 : decode cX1_readSimple 44 = .ok (.iconst (-1), 1) := by decide +kernel
theorem dX1_readSimple_45 : decode cX1_readSimple 45 = .ok (.if_icmp .eq 13, 3) := by decide +kernel
theorem dX1_readSimple_48 : decode cX1_readSimple 48 = .ok (.new 42, 3) := by decide +kernel
theorem dX1_readSimple_51 : decode cX1_readSimple 51 = .ok (.dup, 1) := by decide +kernel
theorem dX1_readSimple_52 : decode cX1_readSimple 52 = .ok (.ldc 52, 2) := by decide +kernel
theorem dX1_readSimple_54 : decode cX1_readSimple 54 = .ok (.invokespecial 46, 3) := by decide +kernel
theorem dX1_readSimple_57 : decode cX1_readSimple 57 = .ok (.athrow, 1) := by decide +kernel
theorem dX1_readSimple_58 : decode cX1_readSimple 58 = .ok (.aload_n 0, 1) := by decide +kernel
theorem dX1_readSimple_59 : decode cX1_readSimple 59 = .ok (.getfield 9, 3) := by decide +kernel
theorem dX1_readSimple_62 : decode cX1_readSimple 62 = .ok (.iload 6, 2) := by decide +kernel
theorem dX1_readSimple_64 : decode cX1_readSimple 64 = .ok (.iconst 0, 1) := by decide +kernel
theorem dX1_readSimple_65 : decode cX1_readSimple 65 = .ok (.iastore, 1) := by decide +kernel
theorem dX1_readSimple_66 : decode cX1_readSimple 66 = .ok (.aload_n 0, 1) := by decide +kernel
theorem dX1_readSimple_67 : decode cX1_readSimple 67 = .ok (.getfield 13, 3) := by decide +kernel
theorem dX1_readSimple_70 : decode cX1_readSimple 70 = .ok (.iload 5, 2) := by decide +kernel
theorem dX1_readSimple_72 : decode cX1_readSimple 72 = .ok (.iload 6, 2) := by decide +kernel
theorem dX1_readSimple_74 : decode cX1_readSimple 74 = .ok (.iastore, 1) := by decide +kernel
theorem dX1_readSimple_75 : decode cX1_readSimple 75 = .ok (.iinc 5 1, 3) := by decide +kernel
theorem dX1_readSimple_78 : decode cX1_readSimple 78 = .ok (.goto (-61), 3) := by decide +kernel
theorem dX1_readSimple_81 : decode cX1_readSimple 81 = .ok (.iload_n 3, 1) := by decide +kernel
theorem dX1_readSimple_82 : decode cX1_readSimple 82 = .ok (.istore 5, 2) := by decide +kernel
theorem dX1_readSimple_84 : decode cX1_readSimple 84 = .ok (.iload_n 3, 1) := by decide +kernel
theorem dX1_readSimple_85 : decode cX1_readSimple 85 = .ok (.iconst 4, 1) := by decide +kernel
theorem dX1_readSimple_86 : decode cX1_readSimple 86 = .ok (.if_icmp .ne 15, 3) := by decide +kernel
theorem dX1_readSimple_89 : decode cX1_readSimple 89 = .ok (.aload_n 1, 1) := by decide +kernel
theorem dX1_readSimple_90 : decode cX1_readSimple 90 = .ok (.iconst 1, 1) := by decide +kernel
theorem dX1_readSimple_91 : decode cX1_readSimple 91 = .ok (.invokevirtual 25, 3) := by decide +kernel
theorem dX1_readSimple_94 : decode cX1_readSimple 94 = .ok (.iconst 1, 1) := by decide +kernel
theorem dX1_readSimple_95 : decode cX1_readSimple 95 = .ok (.if_icmp .ne 6, 3) := by decide +kernel
theorem dX1_readSimple_98 : decode cX1_readSimple 98 = .ok (.iconst 5, 1) := by decide +kernel
theorem dX1_readSimple_99 : decode cX1_readSimple 99 = .ok (.istore 5, 2) := by decide +kernel
theorem dX1_readSimple_101 : decode cX1_readSimple 101 = .ok (.iload 5, 2) := by decide +kernel
theorem dX1_readSimple_103 : decode cX1_readSimple 103 = .ok (.iload 5, 2) := by decide +kernel
theorem dX1_readSimple_105 : decode cX1_readSimple 105 = .ok (.iconst 1, 1) := by decide +kernel
theorem dX1_readSimple_106 : decode cX1_readSimple 106 = .ok (.isub, 1) := by decide +kernel
theorem dX1_readSimple_107 : decode cX1_readSimple 107 = .ok (.imul, 1) := by decide +kernel
theorem dX1_readSimple_108 : decode cX1_readSimple 108 = .ok (.iconst 2, 1) := by decide +kernel
theorem dX1_readSimple_109 : decode cX1_readSimple 109 = .ok (.idiv, 1) := by decide +kernel
theorem dX1_readSimple_110 : decode cX1_readSimple 110 = .ok (.istore 6, 2) := by decide +kernel
theorem dX1_readSimple_112 : decode cX1_readSimple 112 = .ok (.iconst 0, 1) := by decide +kernel
theorem dX1_readSimple_113 : decode cX1_readSimple 113 = .ok (.istore 7, 2) := by decide +kernel
theorem dX1_readSimple_115 : decode cX1_readSimple 115 = .ok (.iload 7, 2) := by decide +kernel
theorem dX1_readSimple_117 : decode cX1_readSimple 117 = .ok (.iload_n 3, 1) := by decide +kernel
theorem dX1_readSimple_118 : decode cX1_readSimple 118 = .ok (.if_icmp .ge 30, 3) := by decide +kernel
theorem dX1_readSimple_121 : decode cX1_readSimple 121 = .ok (.aload_n 0, 1) := by decide +kernel
theorem dX1_readSimple_122 : decode cX1_readSimple 122 = .ok (.getfield 9, 3) := by decide +kernel
theorem dX1_readSimple_125 : decode cX1_readSimple 125 = .ok (.aload_n 0, 1) := by decide +kernel
theorem dX1_readSimple_126 : decode cX1_readSimple 126 = .ok (.getfield 13, 3) := by decide +kernel
theorem dX1_readSimple_129 : decode cX1_readSimple 129 = .ok (.iload 7, 2) := by decide +kernel
theorem dX1_readSimple_131 : decode cX1_readSimple 131 = .ok (.iaload, 1) := by decide +kernel
theorem dX1_readSimple_132 : decode cX1_readSimple 132 = .ok (.getstatic 54, 3) := by decide +kernel
theorem dX1_readSimple_135 : decode cX1_readSimple 135 = .ok (.iload 6, 2) := by decide +kernel
theorem dX1_readSimple_137 : decode cX1_readSimple 137 = .ok (.iload 7, 2) := by decide +kernel
theorem dX1_readSimple_139 : decode cX1_readSimple 139 = .ok (.iadd, 1) := by decide +kernel
theorem dX1_readSimple_140 : decode cX1_readSimple 140 = .ok (.iaload, 1) := by decide +kernel
theorem dX1_readSimple_141 : decode cX1_readSimple 141 = .ok (.iastore, 1) := by decide +kernel
theorem dX1_readSimple_142 : decode cX1_readSimple 142 = .ok (.iinc 7 1, 3) := by decide +kernel
theorem dX1_readSimple_145 : decode cX1_readSimple 145 = .ok (.goto (-30), 3) := by decide +kernel
theorem dX1_readSimple_148 : decode cX1_readSimple 148 = .ok (.return_, 1) := by decide +kernel
theorem dX1_readLengths_0 : decode cX1_readLengths 0 = .ok (.sipush 128, 3) := by decide +kernel
theorem dX1_readLengths_3 : decode cX1_readLengths 3 = .ok (.istore_n 3, 1) := by decide +kernel
theorem dX1_readLengths_4 : decode cX1_readLengths 4 = .ok (.iconst 0, 1) := by decide +kernel
theorem dX1_readLengths_5 : decode cX1_readLengths 5 = .ok (.istore 4, 2) := by decide +kernel
theorem dX1_readLengths_7 : decode cX1_readLengths 7 = .ok (.iload 4, 2) := by decide +kernel
theorem dX1_readLengths_9 : decode cX1_readLengths 9 = .ok (.iload_n 2, 1) := by decide +kernel
theorem dX1_readLengths_10 : decode cX1_readLengths 10 = .ok (.if_icmp .ge 57, 3) := by decide +kernel
theorem dX1_readLengths_13 : decode cX1_readLengths 13 = .ok (.iload_n 3, 1) := by decide +kernel
theorem dX1_readLengths_14 : decode cX1_readLengths 14 = .ok (.ifCond .le 53, 3) := by decide +kernel
theorem dX1_readLengths_17 : decode cX1_readLengths 17 = .ok (.aload_n 1, 1) := by decide +kernel
theorem dX1_readLengths_18 : decode cX1_readLengths 18 = .ok (.iconst 3, 1) := by decide +kernel
theorem dX1_readLengths_19 : decode cX1_readLengths 19 = .ok (.invokevirtual 25, 3) := by decide +kernel
theorem dX1_readLengths_22 : decode cX1_readLengths 22 = .ok (.istore 5, 2) := by decide +kernel
theorem dX1_readLengths_24 : decode cX1_readLengths 24 = .ok (.iload 5, 2) := by decide +kernel
theorem dX1_readLengths_26 : decode cX1_readLengths 26 = .ok (.ifCond .le 21, 3) := by decide +kernel
theorem dX1_readLengths_29 : decode cX1_readLengths 29 = .ok (.iload_n 3, 1) := by decide +kernel
theorem dX1_readLengths_30 : decode cX1_readLengths 30 = .ok (.sipush 128, 3) := by decide +kernel
theorem dX1_readLengths_33 : decode cX1_readLengths 33 = .ok (.iload 5, 2) := by decide +kernel
theorem dX1_readLengths_35 : decode cX1_readLengths 35 = .ok (.ishr, 1) := by decide +kernel
theorem dX1_readLengths_36 : decode cX1_readLengths 36 = .ok (.isub, 1) := by decide +kernel
theorem dX1_readLengths_37 : decode cX1_readLengths 37 = .ok (.istore_n 3, 1) := by decide +kernel
theorem dX1_readLengths_38 : decode cX1_readLengths 38 = .ok (.aload_n 0, 1) := by decide +kernel
theorem dX1_readLengths_39 : decode cX1_readLengths 39 = .ok (.getfield 9, 3) := by decide +kernel
theorem dX1_readLengths_42 : decode cX1_readLengths 42 = .ok (.iload 4, 2) := by decide +kernel
theorem dX1_readLengths_44 : decode cX1_readLengths 44 = .ok (.iload 5, 2) := by decide +kernel
theorem dX1_readLengths_46 : decode cX1_readLengths 46 = .ok (.iastore, 1) := by decide +kernel
theorem dX1_readLengths_47 : decode cX1_readLengths 47 = .ok (.iload_n 3, 1) := by decide +kernel
theorem dX1_readLengths_48 : decode cX1_readLengths 48 = .ok (.ifCond .ge 13, 3) := by decide +kernel
theorem dX1_readLengths_51 : decode cX1_readLengths 51 = .ok (.new 42, 3) := by decide +kernel
theorem dX1_readLengths_54 : decode cX1_readLengths 54 = .ok (.dup, 1) := by decide +kernel
theorem dX1_readLengths_55 : decode cX1_readLengths 55 = .ok (.ldc 57, 2) := by decide +kernel
theorem dX1_readLengths_57 : decode cX1_readLengths 57 = .ok (.invokespecial 46, 3) := by decide +kernel
theorem dX1_readLengths_60 : decode cX1_readLengths 60 = .ok (.athrow, 1) := by decide +kernel
theorem dX1_readLengths_61 : decode cX1_readLengths 61 = .ok (.iinc 4 1, 3) := by decide +kernel
theorem dX1_readLengths_64 : decode cX1_readLengths 64 = .ok (.goto (-57), 3) := by decide +kernel
theorem dX1_readLengths_67 : decode cX1_readLengths 67 = .ok (.iload_n 3, 1) := by decide +kernel
theorem dX1_readLengths_68 : decode cX1_readLengths 68 = .ok (.ifCond .le 13, 3) := by decide +kernel
theorem dX1_readLengths_71 : decode cX1_readLengths 71 = .ok (.new 42, 3) := by decide +kernel
theorem dX1_readLengths_74 : decode cX1_readLengths 74 = .ok (.dup, 1) := by decide +kernel
theorem dX1_readLengths_75 : decode cX1_readLengths 75 = .ok (.ldc 59, 2) := by decide +kernel
theorem dX1_readLengths_77 : decode cX1_readLengths 77 = .ok (.invokespecial 46, 3) := by decide +kernel
theorem dX1_readLengths_80 : decode cX1_readLengths 80 = .ok (.athrow, 1) := by decide +kernel
theorem dX1_readLengths_81 : decode cX1_readLengths 81 = .ok (.return_, 1) := by decide +kernel
theorem dX1_orderSymbols_0 : decode cX1_orderSymbols 0 = .ok (.iconst 0, 1) := by decide +kernel
theorem dX1_orderSymbols_1 : decode cX1_orderSymbols 1 = .ok (.istore_n 2, 1) := by decide +kernel
theorem dX1_orderSymbols_2 : decode cX1_orderSymbols 2 = .ok (.iconst 0, 1) := by decide +kernel
theorem dX1_orderSymbols_3 : decode cX1_orderSymbols 3 = .ok (.istore_n 3, 1) := by decide +kernel
theorem dX1_orderSymbols_4 : decode cX1_orderSymbols 4 = .ok (.iload_n 3, 1) := by decide +kernel
theorem dX1_orderSymbols_5 : decode cX1_orderSymbols 5 = .ok (.bipush 7, 2) := by decide +kernel
theorem dX1_orderSymbols_7 : decode cX1_orderSymbols 7 = .ok (.if_icmp .gt 59, 3) := by decide +kernel
theorem dX1_orderSymbols_10 : decode cX1_orderSymbols 10 = .ok (.iload_n 2, 1) := by decide +kernel
theorem dX1_orderSymbols_11 : decode cX1_orderSymbols 11 = .ok (.istore 4, 2) := by decide +kernel
theorem dX1_orderSymbols_13 : decode cX1_orderSymbols 13 = .ok (.iconst 0, 1) := by decide +kernel
theorem dX1_orderSymbols_14 : decode cX1_orderSymbols 14 = .ok (.istore 5, 2) := by decide +kernel
theorem dX1_orderSymbols_16 : decode cX1_orderSymbols 16 = .ok (.iload 5, 2) := by decide +kernel
theorem dX1_orderSymbols_18 : decode cX1_orderSymbols 18 = .ok (.iload_n 1, 1) := by decide +kernel
theorem dX1_orderSymbols_19 : decode cX1_orderSymbols 19 = .ok (.if_icmp .ge 31, 3) := by decide +kernel
theorem dX1_orderSymbols_22 : decode cX1_orderSymbols 22 = .ok (.aload_n 0, 1) := by decide +kernel
theorem dX1_orderSymbols_23 : decode cX1_orderSymbols 23 = .ok (.getfield 9, 3) := by decide +kernel
theorem dX1_orderSymbols_26 : decode cX1_orderSymbols 26 = .ok (.iload 5, 2) := by decide +kernel
theorem dX1_orderSymbols_28 : decode cX1_orderSymbols 28 = .ok (.iaload, 1) := by decide +kernel
theorem dX1_orderSymbols_29 : decode cX1_orderSymbols 29 = .ok (.iload_n 3, 1) := by decide +kernel
theorem dX1_orderSymbols_30 : decode cX1_orderSymbols 30 = .ok (.if_icmp .ne 14, 3) := by decide +kernel
theorem dX1_orderSymbols_33 : decode cX1_orderSymbols 33 = .ok (.aload_n 0, 1) := by decide +kernel
theorem dX1_orderSymbols_34 : decode cX1_orderSymbols 34 = .ok (.getfield 13, 3) := by decide +kernel
theorem dX1_orderSymbols_37 : decode cX1_orderSymbols 37 = .ok (.iload_n 2, 1) := by decide +kernel
theorem dX1_orderSymbols_38 : decode cX1_orderSymbols 38 = .ok (.iload 5, 2) := by decide +kernel
theorem dX1_orderSymbols_40 : decode cX1_orderSymbols 40 = .ok (.iastore, 1) := by decide +kernel
theorem dX1_orderSymbols_41 : decode cX1_orderSymbols 41 = .ok (.iinc 2 1, 3) := by decide +kernel
theorem dX1_orderSymbols_44 : decode cX1_orderSymbols 44 = .ok (.iinc 5 1, 3) := by decide +kernel
theorem dX1_orderSymbols_47 : decode cX1_orderSymbols 47 = .ok (.goto (-31), 3) := by decide +kernel
theorem dX1_orderSymbols_50 : decode cX1_orderSymbols 50 = .ok (.aload_n 0, 1) := by decide +kernel
theorem dX1_orderSymbols_51 : decode cX1_orderSymbols 51 = .ok (.getfield 16, 3) := by decide +kernel
theorem dX1_orderSymbols_54 : decode cX1_orderSymbols 54 = .ok (.iload_n 3, 1) := by decide +kernel
theorem dX1_orderSymbols_55 : decode cX1_orderSymbols 55 = .ok (.iload_n 2, 1) := by decide +kernel
theorem dX1_orderSymbols_56 : decode cX1_orderSymbols 56 = .ok (.iload 4, 2) := by decide +kernel
theorem dX1_orderSymbols_58 : decode cX1_orderSymbols 58 = .ok (.isub, 1) := by decide +kernel
theorem dX1_orderSymbols_59 : decode cX1_orderSymbols 59 = .ok (.iastore, 1) := by decide +kernel
theorem dX1_orderSymbols_60 : decode cX1_orderSymbols 60 = .ok (.iinc 3 1, 3) := by decide +kernel
theorem dX1_orderSymbols_63 : decode cX1_orderSymbols 63 = .ok (.goto (-59), 3) := by decide +kernel
theorem dX1_orderSymbols_66 : decode cX1_orderSymbols 66 = .ok (.return_, 1) := by decide +kernel
theorem dX1_symbolBits_0 : decode cX1_symbolBits 0 = .ok (.iconst 0, 1) := by decide +kernel
theorem dX1_symbolBits_1 : decode cX1_symbolBits 1 = .ok (.istore_n 1, 1) := by decide +kernel
theorem dX1_symbolBits_2 : decode cX1_symbolBits 2 = .ok (.iload_n 1, 1) := by decide +kernel
theorem dX1_symbolBits_3 : decode cX1_symbolBits 3 = .ok (.iconst 5, 1) := by decide +kernel
theorem dX1_symbolBits_4 : decode cX1_symbolBits 4 = .ok (.if_icmp .ge 16, 3) := by decide +kernel
theorem dX1_symbolBits_7 : decode cX1_symbolBits 7 = .ok (.iconst 1, 1) := by decide +kernel
theorem dX1_symbolBits_8 : decode cX1_symbolBits 8 = .ok (.iload_n 1, 1) := by decide +kernel
theorem dX1_symbolBits_9 : decode cX1_symbolBits 9 = .ok (.ishl, 1) := by decide +kernel
theorem dX1_symbolBits_10 : decode cX1_symbolBits 10 = .ok (.iload_n 0, 1) := by decide +kernel
theorem dX1_symbolBits_11 : decode cX1_symbolBits 11 = .ok (.if_icmp .ge 9, 3) := by decide +kernel
theorem dX1_symbolBits_14 : decode cX1_symbolBits 14 = .ok (.iinc 1 1, 3) := by decide +kernel
theorem dX1_symbolBits_17 : decode cX1_symbolBits 17 = .ok (.goto (-15), 3) := by decide +kernel
theorem dX1_symbolBits_20 : decode cX1_symbolBits 20 = .ok (.iload_n 1, 1) := by decide +kernel
theorem dX1_symbolBits_21 : decode cX1_symbolBits 21 = .ok (.ireturn, 1) := by decide +kernel
theorem dX2_init_0 : decode cX2_init 0 = .ok (.aload_n 0, 1) := by decide +kernel
theorem dX2_init_1 : decode cX2_init 1 = .ok (.invokespecial 1, 3) := by decide +kernel
theorem dX2_init_4 : decode cX2_init 4 = .ok (.aload_n 0, 1) := by decide +kernel
theorem dX2_init_5 : decode cX2_init 5 = .ok (.new 7, 3) := by decide +kernel
theorem dX2_init_8 : decode cX2_init 8 = .ok (.dup, 1) := by decide +kernel
theorem dX2_init_9 : decode cX2_init 9 = .ok (.invokespecial 9, 3) := by decide +kernel
theorem dX2_init_12 : decode cX2_init 12 = .ok (.putfield 10, 3) := by decide +kernel
theorem dX2_init_15 : decode cX2_init 15 = .ok (.aload_n 0, 1) := by decide +kernel
theorem dX2_init_16 : decode cX2_init 16 = .ok (.iconst 4, 1) := by decide +kernel
theorem dX2_init_17 : decode cX2_init 17 = .ok (.anewarray 7, 3) := by decide +kernel
theorem dX2_init_20 : decode cX2_init 20 = .ok (.dup, 1) := by decide +kernel
theorem dX2_init_21 : decode cX2_init 21 = .ok (.iconst 0, 1) := by decide +kernel
theorem dX2_init_22 : decode cX2_init 22 = .ok (.new 7, 3) := by decide +kernel
theorem dX2_init_25 : decode cX2_init 25 = .ok (.dup, 1) := by decide +kernel
theorem dX2_init_26 : decode cX2_init 26 = .ok (.invokespecial 9, 3) := by decide +kernel
theorem dX2_init_29 : decode cX2_init 29 = .ok (.aastore, 1) := by decide +kernel
theorem dX2_init_30 : decode cX2_init 30 = .ok (.dup, 1) := by decide +kernel
theorem dX2_init_31 : decode cX2_init 31 = .ok (.iconst 1, 1) := by decide +kernel
theorem dX2_init_32 : decode cX2_init 32 = .ok (.new 7, 3) := by decide +kernel
theorem dX2_init_35 : decode cX2_init 35 = .ok (.dup, 1) := by decide +kernel
theorem dX2_init_36 : decode cX2_init 36 = .ok (.invokespecial 9, 3) := by decide +kernel
theorem dX2_init_39 : decode cX2_init 39 = .ok (.aastore, 1) := by decide +kernel
theorem dX2_init_40 : decode cX2_init 40 = .ok (.dup, 1) := by decide +kernel
theorem dX2_init_41 : decode cX2_init 41 = .ok (.iconst 2, 1) := by decide +kernel
theorem dX2_init_42 : decode cX2_init 42 = .ok (.new 7, 3) := by decide +kernel
theorem dX2_init_45 : decode cX2_init 45 = .ok (.dup, 1) := by decide +kernel
theorem dX2_init_46 : decode cX2_init 46 = .ok (.invokespecial 9, 3) := by decide +kernel
theorem dX2_init_49 : decode cX2_init 49 = .ok (.aastore, 1) := by decide +kernel
theorem dX2_init_50 : decode cX2_init 50 = .ok (.dup, 1) := by decide +kernel
theorem dX2_init_51 : decode cX2_init 51 = .ok (.iconst 3, 1) := by decide +kernel
theorem dX2_init_52 : decode cX2_init 52 = .ok (.new 7, 3) := by decide +kernel
theorem dX2_init_55 : decode cX2_init 55 = .ok (.dup, 1) := by decide +kernel
theorem dX2_init_56 : decode cX2_init 56 = .ok (.invokespecial 9, 3) := by decide +kernel
theorem dX2_init_59 : decode cX2_init 59 = .ok (.aastore, 1) := by decide +kernel
theorem dX2_init_60 : decode cX2_init 60 = .ok (.putfield 16, 3) := by decide +kernel
theorem dX2_init_63 : decode cX2_init 63 = .ok (.aload_n 0, 1) := by decide +kernel
theorem dX2_init_64 : decode cX2_init 64 = .ok (.iconst 3, 1) := by decide +kernel
theorem dX2_init_65 : decode cX2_init 65 = .ok (.newarray .int, 2) := by decide +kernel
theorem dX2_init_67 : decode cX2_init 67 = .ok (.putfield 20, 3) := by decide +kernel
theorem dX2_init_70 : decode cX2_init 70 = .ok (.aload_n 0, 1) := by decide +kernel
theorem dX2_init_71 : decode cX2_init 71 = .ok (.bipush 12, 2) := by decide +kernel
theorem dX2_init_73 : decode cX2_init 73 = .ok (.newarray .int, 2) := by decide +kernel
theorem dX2_init_75 : decode cX2_init 75 = .ok (.putfield 24, 3) := by decide +kernel
theorem dX2_init_78 : decode cX2_init 78 = .ok (.aload_n 0, 1) := by decide +kernel
theorem dX2_init_79 : decode cX2_init 79 = .ok (.iconst 4, 1) := by decide +kernel
theorem dX2_init_80 : decode cX2_init 80 = .ok (.newarray .int, 2) := by decide +kernel
theorem dX2_init_82 : decode cX2_init 82 = .ok (.putfield 27, 3) := by decide +kernel
theorem dX2_init_85 : decode cX2_init 85 = .ok (.return_, 1) := by decide +kernel
theorem dX2_readTypes_0 : decode cX2_readTypes 0 = .ok (.aload_n 0, 1) := by decide +kernel
theorem dX2_readTypes_1 : decode cX2_readTypes 1 = .ok (.aload_n 1, 1) := by decide +kernel
theorem dX2_readTypes_2 : decode cX2_readTypes 2 = .ok (.iconst 2, 1) := by decide +kernel
theorem dX2_readTypes_3 : decode cX2_readTypes 3 = .ok (.invokevirtual 30, 3) := by decide +kernel
theorem dX2_readTypes_6 : decode cX2_readTypes 6 = .ok (.iconst 1, 1) := by decide +kernel
theorem dX2_readTypes_7 : decode cX2_readTypes 7 = .ok (.iadd, 1) := by decide +kernel
theorem dX2_readTypes_8 : decode cX2_readTypes 8 = .ok (.putfield 36, 3) := by decide +kernel
theorem dX2_readTypes_11 : decode cX2_readTypes 11 = .ok (.aload_n 0, 1) := by decide +kernel
theorem dX2_readTypes_12 : decode cX2_readTypes 12 = .ok (.getfield 36, 3) := by decide +kernel
theorem dX2_readTypes_15 : decode cX2_readTypes 15 = .ok (.iconst 3, 1) := by decide +kernel
theorem dX2_readTypes_16 : decode cX2_readTypes 16 = .ok (.if_icmp .le 13, 3) := by decide +kernel
theorem dX2_readTypes_19 : decode cX2_readTypes 19 = .ok (.new 40, 3) := by decide +kernel
theorem dX2_readTypes_22 : decode cX2_readTypes 22 = .ok (.dup, 1) := by decide +kernel
theorem dX2_readTypes_23 : decode cX2_readTypes 23 = .ok (.ldc 42, 2) := by decide +kernel
theorem dX2_readTypes_25 : decode cX2_readTypes 25 = .ok (.invokespecial 44, 3) := by decide +kernel
theorem dX2_readTypes_28 : decode cX2_readTypes 28 = .ok (.athrow, 1) := by decide +kernel
theorem dX2_readTypes_29 : decode cX2_readTypes 29 = .ok (.aload_n 0, 1) := by decide +kernel
theorem dX2_readTypes_30 : decode cX2_readTypes 30 = .ok (.iconst 0, 1) := by decide +kernel
theorem dX2_readTypes_31 : decode cX2_readTypes 31 = .ok (.putfield 47, 3) := by decide +kernel
theorem dX2_readTypes_34 : decode cX2_readTypes 34 = .ok (.aload_n 0, 1) := by decide +kernel
theorem dX2_readTypes_35 : decode cX2_readTypes 35 = .ok (.iconst 1, 1) := by decide +kernel
theorem dX2_readTypes_36 : decode cX2_readTypes 36 = .ok (.putfield 50, 3) := by decide +kernel
theorem dX2_readTypes_39 : decode cX2_readTypes 39 = .ok (.aload_n 0, 1) := by decide +kernel
theorem dX2_readTypes_40 : decode cX2_readTypes 40 = .ok (.getfield 36, 3) := by decide +kernel
theorem dX2_readTypes_43 : decode cX2_readTypes 43 = .ok (.iconst 1, 1) := by decide +kernel
theorem dX2_readTypes_44 : decode cX2_readTypes 44 = .ok (.if_icmp .le 28, 3) := by decide +kernel
theorem dX2_readTypes_47 : decode cX2_readTypes 47 = .ok (.aload_n 0, 1) := by decide +kernel
theorem dX2_readTypes_48 : decode cX2_readTypes 48 = .ok (.getfield 10, 3) := by decide +kernel
theorem dX2_readTypes_51 : decode cX2_readTypes 51 = .ok (.aload_n 1, 1) := by decide +kernel
theorem dX2_readTypes_52 : decode cX2_readTypes 52 = .ok (.aload_n 0, 1) := by decide +kernel
theorem dX2_readTypes_53 : decode cX2_readTypes 53 = .ok (.getfield 36, 3) := by decide +kernel
theorem dX2_readTypes_56 : decode cX2_readTypes 56 = .ok (.iconst 2, 1) := by decide +kernel
theorem dX2_readTypes_57 : decode cX2_readTypes 57 = .ok (.iadd, 1) := by decide +kernel
theorem dX2_readTypes_58 : decode cX2_readTypes 58 = .ok (.invokevirtual 53, 3) := by decide +kernel
theorem dX2_readTypes_61 : decode cX2_readTypes 61 = .ok (.aload_n 0, 1) := by decide +kernel
theorem dX2_readTypes_62 : decode cX2_readTypes 62 = .ok (.aload_n 1, 1) := by decide +kernel
theorem dX2_readTypes_63 : decode cX2_readTypes 63 = .ok (.iconst 5, 1) := by decide +kernel
theorem dX2_readTypes_64 : decode cX2_readTypes 64 = .ok (.invokevirtual 30, 3) := by decide +kernel
theorem dX2_readTypes_67 : decode cX2_readTypes 67 = .ok (.iconst 1, 1) := by decide +kernel
theorem dX2_readTypes_68 : decode cX2_readTypes 68 = .ok (.iadd, 1) := by decide +kernel
theorem dX2_readTypes_69 : decode cX2_readTypes 69 = .ok (.putfield 57, 3) := by decide +kernel
theorem dX2_readTypes_72 : decode cX2_readTypes 72 = .ok (.iconst 0, 1) := by decide +kernel
theorem dX2_readTypes_73 : decode cX2_readTypes 73 = .ok (.istore_n 2, 1) := by decide +kernel
theorem dX2_readTypes_74 : decode cX2_readTypes 74 = .ok (.iload_n 2, 1) := by decide +kernel
theorem dX2_readTypes_75 : decode cX2_readTypes 75 = .ok (.aload_n 0, 1) := by decide +kernel
theorem dX2_readTypes_76 : decode cX2_readTypes 76 = .ok (.getfield 36, 3) := by decide +kernel
theorem dX2_readTypes_79 : decode cX2_readTypes 79 = .ok (.if_icmp .ge 20, 3) := by decide +kernel
theorem dX2_readTypes_82 : decode cX2_readTypes 82 = .ok (.aload_n 0, 1) := by decide +kernel
theorem dX2_readTypes_83 : decode cX2_readTypes 83 = .ok (.getfield 20, 3) := by decide +kernel
theorem dX2_readTypes_86 : decode cX2_readTypes 86 = .ok (.iload_n 2, 1) := by decide +kernel
theorem dX2_readTypes_87 : decode cX2_readTypes 87 = .ok (.aload_n 1, 1) := by decide +kernel
theorem dX2_readTypes_88 : decode cX2_readTypes 88 = .ok (.iconst 2, 1) := by decide +kernel
theorem dX2_readTypes_89 : decode cX2_readTypes 89 = .ok (.invokevirtual 30, 3) := by decide +kernel
theorem dX2_readTypes_92 : decode cX2_readTypes 92 = .ok (.iastore, 1) := by decide +kernel
theorem dX2_readTypes_93 : decode cX2_readTypes 93 = .ok (.iinc 2 1, 3) := by decide +kernel
theorem dX2_readTypes_96 : decode cX2_readTypes 96 = .ok (.goto (-22), 3) := by decide +kernel
theorem dX2_readTypes_99 : decode cX2_readTypes 99 = .ok (.return_, 1) := by decide +kernel
theorem dX2_readLetterCodes_0 : decode cX2_readLetterCodes 0 = .ok (.aload_n 1, 1) := by decide +kernel
theorem dX2_readLetterCodes_1 : decode cX2_readLetterCodes 1 = .ok (.iconst 2, 1) := by decide +kernel
theorem dX2_readLetterCodes_2 : decode cX2_readLetterCodes 2 = .ok (.invokevirtual 30, 3) := by decide +kernel
theorem dX2_readLetterCodes_5 : decode cX2_readLetterCodes 5 = .ok (.iconst 1, 1) := by decide +kernel
theorem dX2_readLetterCodes_6 : decode cX2_readLetterCodes 6 = .ok (.iadd, 1) := by decide +kernel
theorem dX2_readLetterCodes_7 : decode cX2_readLetterCodes 7 = .ok (.istore_n 2, 1) := by decide +kernel
theorem dX2_readLetterCodes_8 : decode cX2_readLetterCodes 8 = .ok (.iload_n 2, 1) := by decide +kernel
theorem dX2_readLetterCodes_9 : decode cX2_readLetterCodes 9 = .ok (.iconst 1, 1) := by decide +kernel
theorem dX2_readLetterCodes_10 : decode cX2_readLetterCodes 10 = .ok (.if_icmp .le 12, 3) := by decide +kernel
theorem dX2_readLetterCodes_13 : decode cX2_readLetterCodes 13 = .ok (.aload_n 0, 1) := by decide +kernel
theorem dX2_readLetterCodes_14 : decode cX2_readLetterCodes 14 = .ok (.aload_n 1, 1) := by decide +kernel
theorem dX2_readLetterCodes_15 : decode cX2_readLetterCodes 15 = .ok (.iload_n 2, 1) := by decide +kernel
theorem dX2_readLetterCodes_16 : decode cX2_readLetterCodes 16 = .ok (.invokevirtual 60, 3) := by decide +kernel
theorem dX2_readLetterCodes_19 : decode cX2_readLetterCodes 19 = .ok (.goto 11, 3) := by decide +kernel
theorem dX2_readLetterCodes_22 : decode cX2_readLetterCodes 22 = .ok (.aload_n 0, 1) := by decide +kernel
theorem dX2_readLetterCodes_23 : decode cX2_readLetterCodes 23 = .ok (.getfield 24, 3) := by decide +kernel
theorem dX2_readLetterCodes_26 : decode cX2_readLetterCodes 26 = .ok (.iconst 0, 1) := by decide +kernel
theorem dX2_readLetterCodes_27 : decode cX2_readLetterCodes 27 = .ok (.invokestatic 63, 3) := by decide +kernel
theorem dX2_readLetterCodes_30 : decode cX2_readLetterCodes 30 = .ok (.iconst 0, 1) := by decide +kernel
theorem dX2_readLetterCodes_31 : decode cX2_readLetterCodes 31 = .ok (.istore_n 3, 1) := by decide +kernel
theorem dX2_readLetterCodes_32 : decode cX2_readLetterCodes 32 = .ok (.iload_n 3, 1) := by decide +kernel
theorem dX2_readLetterCodes_33 : decode cX2_readLetterCodes 33 = .ok (.iload_n 2, 1) := by decide +kernel
theorem dX2_readLetterCodes_34 : decode cX2_readLetterCodes 34 = .ok (.if_icmp .ge 21, 3) := by decide +kernel
theorem dX2_readLetterCodes_37 : decode cX2_readLetterCodes 37 = .ok (.aload_n 0, 1) := by decide +kernel
theorem dX2_readLetterCodes_38 : decode cX2_readLetterCodes 38 = .ok (.getfield 16, 3) := by decide +kernel
theorem dX2_readLetterCodes_41 : decode cX2_readLetterCodes 41 = .ok (.iload_n 3, 1) := by decide +kernel
theorem dX2_readLetterCodes_42 : decode cX2_readLetterCodes 42 = .ok (.aaload, 1) := by decide +kernel
theorem dX2_readLetterCodes_43 : decode cX2_readLetterCodes 43 = .ok (.aload_n 1, 1) := by decide +kernel
theorem dX2_readLetterCodes_44 : decode cX2_readLetterCodes 44 = .ok (.bipush 32, 2) := by decide +kernel
theorem dX2_readLetterCodes_46 : decode cX2_readLetterCodes 46 = .ok (.invokevirtual 53, 3) := by decide +kernel
theorem dX2_readLetterCodes_49 : decode cX2_readLetterCodes 49 = .ok (.iinc 3 1, 3) := by decide +kernel
theorem dX2_readLetterCodes_52 : decode cX2_readLetterCodes 52 = .ok (.goto (-20), 3) := by decide +kernel
theorem dX2_readLetterCodes_55 : decode cX2_readLetterCodes 55 = .ok (.return_, 1) := by decide +kernel
theorem dX2_stretchIsOver_0 : decode cX2_stretchIsOver 0 = .ok (.aload_n 0, 1) := by decide +kernel
theorem dX2_stretchIsOver_1 : decode cX2_stretchIsOver 1 = .ok (.getfield 36, 3) := by decide +kernel
theorem dX2_stretchIsOver_4 : decode cX2_stretchIsOver 4 = .ok (.iconst 1, 1) := by decide +kernel
theorem dX2_stretchIsOver_5 : decode cX2_stretchIsOver 5 = .ok (.if_icmp .le 14, 3) := by decide +kernel
theorem dX2_stretchIsOver_8 : decode cX2_stretchIsOver 8 = .ok (.aload_n 0, 1) := by decide +kernel
theorem dX2_stretchIsOver_9 : decode cX2_stretchIsOver 9 = .ok (.getfield 57, 3) := by decide +kernel
theorem dX2_stretchIsOver_12 : decode cX2_stretchIsOver 12 = .ok (.ifCond .ne 7, 3) := by decide +kernel
theorem dX2_stretchIsOver_15 : decode cX2_stretchIsOver 15 = .ok (.iconst 1, 1) := by decide +kernel
theorem dX2_stretchIsOver_16 : decode cX2_stretchIsOver 16 = .ok (.goto 4, 3) := by decide +kernel
theorem dX2_stretchIsOver_19 : decode cX2_stretchIsOver 19 = .ok (.iconst 0, 1) := by decide +kernel
theorem dX2_stretchIsOver_20 : decode cX2_stretchIsOver 20 = .ok (.ireturn, 1) := by decide +kernel
theorem dX2_readStretch_0 : decode cX2_readStretch 0 = .ok (.aload_n 0, 1) := by decide +kernel
theorem dX2_readStretch_1 : decode cX2_readStretch 1 = .ok (.getfield 10, 3) := by decide +kernel
theorem dX2_readStretch_4 : decode cX2_readStretch 4 = .ok (.aload_n 1, 1) := by decide +kernel
theorem dX2_readStretch_5 : decode cX2_readStretch 5 = .ok (.invokevirtual 69, 3) := by decide +kernel
theorem dX2_readStretch_8 : decode cX2_readStretch 8 = .ok (.istore_n 2, 1) := by decide +kernel
theorem dX2_readStretch_9 : decode cX2_readStretch 9 = .ok (.aload_n 0, 1) := by decide +kernel
theorem dX2_readStretch_10 : decode cX2_readStretch 10 = .ok (.getfield 47, 3) := by decide +kernel
theorem dX2_readStretch_13 : decode cX2_readStretch 13 = .ok (.istore_n 3, 1) := by decide +kernel
theorem dX2_readStretch_14 : decode cX2_readStretch 14 = .ok (.iload_n 2, 1) := by decide +kernel
theorem dX2_readStretch_15 : decode cX2_readStretch 15 = .ok (.ifCond .ne 14, 3) := by decide +kernel
theorem dX2_readStretch_18 : decode cX2_readStretch 18 = .ok (.aload_n 0, 1) := by decide +kernel
theorem dX2_readStretch_19 : decode cX2_readStretch 19 = .ok (.aload_n 0, 1) := by decide +kernel
theorem dX2_readStretch_20 : decode cX2_readStretch 20 = .ok (.getfield 50, 3) := by decide +kernel
theorem dX2_readStretch_23 : decode cX2_readStretch 23 = .ok (.putfield 47, 3) := by decide +kernel
theorem dX2_readStretch_26 : decode cX2_readStretch 26 = .ok (.goto 39, 3) := by decide +kernel
theorem dX2_readStretch_29 : decode cX2_readStretch 29 = .ok (.iload_n 2, 1) := by decide +kernel
theorem dX2_readStretch_30 : decode cX2_readStretch 30 = .ok (.iconst 1, 1) := by decide +kernel
theorem dX2_readStretch_31 : decode cX2_readStretch 31 = .ok (.if_icmp .ne 27, 3) := by decide +kernel
theorem dX2_readStretch_34 : decode cX2_readStretch 34 = .ok (.aload_n 0, 1) := by decide +kernel
theorem dX2_readStretch_35 : decode cX2_readStretch 35 = .ok (.iload_n 3, 1) := by decide +kernel
theorem dX2_readStretch_36 : decode cX2_readStretch 36 = .ok (.iconst 1, 1) := by decide +kernel
theorem dX2_readStretch_37 : decode cX2_readStretch 37 = .ok (.iadd, 1) := by decide +kernel
theorem dX2_readStretch_38 : decode cX2_readStretch 38 = .ok (.aload_n 0, 1) := by decide +kernel
theorem dX2_readStretch_39 : decode cX2_readStretch 39 = .ok (.getfield 36, 3) := by decide +kernel
theorem dX2_readStretch_42 : decode cX2_readStretch 42 = .ok (.if_icmp .ge 9, 3) := by decide +kernel
theorem dX2_readStretch_45 : decode cX2_readStretch 45 = .ok (.iload_n 3, 1) := by decide +kernel
theorem dX2_readStretch_46 : decode cX2_readStretch 46 = .ok (.iconst 1, 1) := by decide +kernel
theorem dX2_readStretch_47 : decode cX2_readStretch 47 = .ok (.iadd, 1) := by decide +kernel
theorem dX2_readStretch_48 : decode cX2_readStretch 48 = .ok (.goto 4, 3) := by decide +kernel
theorem dX2_readStretch_51 : decode cX2_readStretch 51 = .ok (.iconst 0, 1) := by decide +kernel
theorem dX2_readStretch_52 : decode cX2_readStretch 52 = .ok (.putfield 47, 3) := by decide +kernel
theorem dX2_readStretch_55 : decode cX2_readStretch 55 = .ok (.goto 10, 3) := by decide +kernel
theorem dX2_readStretch_58 : decode cX2_readStretch 58 = .ok (.aload_n 0, 1) := by decide +kernel
theorem dX2_readStretch_59 : decode cX2_readStretch 59 = .ok (.iload_n 2, 1) := by decide +kernel
theorem dX2_readStretch_60 : decode cX2_readStretch 60 = .ok (.iconst 2, 1) := by decide +kernel
theorem dX2_readStretch_61 : decode cX2_readStretch 61 = .ok (.isub, 1) := by decide +kernel
theorem dX2_readStretch_62 : decode cX2_readStretch 62 = .ok (.putfield 47, 3) := by decide +kernel
theorem dX2_readStretch_65 : decode cX2_readStretch 65 = .ok (.aload_n 0, 1) := by decide +kernel
theorem dX2_readStretch_66 : decode cX2_readStretch 66 = .ok (.iload_n 3, 1) := by decide +kernel
theorem dX2_readStretch_67 : decode cX2_readStretch 67 = .ok (.putfield 50, 3) := by decide +kernel
theorem dX2_readStretch_70 : decode cX2_readStretch 70 = .ok (.aload_n 0, 1) := by decide +kernel
theorem dX2_readStretch_71 : decode cX2_readStretch 71 = .ok (.aload_n 1, 1) := by decide +kernel
theorem dX2_readStretch_72 : decode cX2_readStretch 72 = .ok (.iconst 5, 1) := by decide +kernel
theorem dX2_readStretch_73 : decode cX2_readStretch 73 = .ok (.invokevirtual 30, 3) := by decide +kernel
theorem dX2_readStretch_76 : decode cX2_readStretch 76 = .ok (.iconst 1, 1) := by decide +kernel
theorem dX2_readStretch_77 : decode cX2_readStretch 77 = .ok (.iadd, 1) := by decide +kernel
theorem dX2_readStretch_78 : decode cX2_readStretch 78 = .ok (.putfield 57, 3) := by decide +kernel
theorem dX2_readStretch_81 : decode cX2_readStretch 81 = .ok (.return_, 1) := by decide +kernel
theorem dX2_readLetter_0 : decode cX2_readLetter 0 = .ok (.aload_n 0, 1) := by decide +kernel
theorem dX2_readLetter_1 : decode cX2_readLetter 1 = .ok (.getfield 36, 3) := by decide +kernel
theorem dX2_readLetter_4 : decode cX2_readLetter 4 = .ok (.iconst 1, 1) := by decide +kernel
theorem dX2_readLetter_5 : decode cX2_readLetter 5 = .ok (.if_icmp .le 13, 3) := by decide +kernel
theorem dX2_readLetter_8 : decode cX2_readLetter 8 = .ok (.aload_n 0, 1) := by decide +kernel
theorem dX2_readLetter_9 : decode cX2_readLetter 9 = .ok (.dup, 1) := by decide +kernel
theorem dX2_readLetter_10 : decode cX2_readLetter 10 = .ok (.getfield 57, 3) := by decide +kernel
theorem dX2_readLetter_13 : decode cX2_readLetter 13 = .ok (.iconst 1, 1) := by decide +kernel
theorem dX2_readLetter_14 : decode cX2_readLetter 14 = .ok (.isub, 1) := by decide +kernel
theorem dX2_readLetter_15 : decode cX2_readLetter 15 = .ok (.putfield 57, 3) := by decide +kernel
theorem dX2_readLetter_18 : decode cX2_readLetter 18 = .ok (.aload_n 0, 1) := by decide +kernel
theorem dX2_readLetter_19 : decode cX2_readLetter 19 = .ok (.getfield 24, 3) := by decide +kernel
theorem dX2_readLetter_22 : decode cX2_readLetter 22 = .ok (.aload_n 0, 1) := by decide +kernel
theorem dX2_readLetter_23 : decode cX2_readLetter 23 = .ok (.getfield 47, 3) := by decide +kernel
theorem dX2_readLetter_26 : decode cX2_readLetter 26 = .ok (.iconst 4, 1) := by decide +kernel
theorem dX2_readLetter_27 : decode cX2_readLetter 27 = .ok (.imul, 1) := by decide +kernel
theorem dX2_readLetter_28 : decode cX2_readLetter 28 = .ok (.aload_n 0, 1) := by decide +kernel
theorem dX2_readLetter_29 : decode cX2_readLetter 29 = .ok (.getfield 20, 3) := by decide +kernel
theorem dX2_readLetter_32 : decode cX2_readLetter 32 = .ok (.aload_n 0, 1) := by decide +kernel
theorem dX2_readLetter_33 : decode cX2_readLetter 33 = .ok (.getfield 47, 3) := by decide +kernel
theorem dX2_readLetter_36 : decode cX2_readLetter 36 = .ok (.iaload, 1) := by decide +kernel
theorem dX2_readLetter_37 : decode cX2_readLetter 37 = .ok (.iload_n 2, 1) := by decide +kernel
theorem dX2_readLetter_38 : decode cX2_readLetter 38 = .ok (.iload_n 3, 1) := by decide +kernel
theorem dX2_readLetter_39 : decode cX2_readLetter 39 = .ok (.invokestatic 73, 3) := by decide +kernel
theorem dX2_readLetter_42 : decode cX2_readLetter 42 = .ok (.iadd, 1) := by decide +kernel
theorem dX2_readLetter_43 : decode cX2_readLetter 43 = .ok (.iaload, 1) := by decide +kernel
theorem dX2_readLetter_44 : decode cX2_readLetter 44 = .ok (.istore 4, 2) := by decide +kernel
theorem dX2_readLetter_46 : decode cX2_readLetter 46 = .ok (.aload_n 0, 1) := by decide +kernel
theorem dX2_readLetter_47 : decode cX2_readLetter 47 = .ok (.getfield 16, 3) := by decide +kernel
theorem dX2_readLetter_50 : decode cX2_readLetter 50 = .ok (.iload 4, 2) := by decide +kernel
theorem dX2_readLetter_52 : decode cX2_readLetter 52 = .ok (.aaload, 1) := by decide +kernel
theorem dX2_readLetter_53 : decode cX2_readLetter 53 = .ok (.aload_n 1, 1) := by decide +kernel
theorem dX2_readLetter_54 : decode cX2_readLetter 54 = .ok (.invokevirtual 69, 3) := by decide +kernel
theorem dX2_readLetter_57 : decode cX2_readLetter 57 = .ok (.ireturn, 1) := by decide +kernel
theorem dX2_readMap_0 : decode cX2_readMap 0 = .ok (.aload_n 0, 1) := by decide +kernel
theorem dX2_readMap_1 : decode cX2_readMap 1 = .ok (.getfield 36, 3) := by decide +kernel
theorem dX2_readMap_4 : decode cX2_readMap 4 = .ok (.iconst 4, 1) := by decide +kernel
theorem dX2_readMap_5 : decode cX2_readMap 5 = .ok (.imul, 1) := by decide +kernel
theorem dX2_readMap_6 : decode cX2_readMap 6 = .ok (.istore_n 3, 1) := by decide +kernel
theorem dX2_readMap_7 : decode cX2_readMap 7 = .ok (.iconst 0, 1) := by decide +kernel
theorem dX2_readMap_8 : decode cX2_readMap 8 = .ok (.istore 4, 2) := by decide +kernel
theorem dX2_readMap_10 : decode cX2_readMap 10 = .ok (.iload 4, 2) := by decide +kernel
theorem dX2_readMap_12 : decode cX2_readMap 12 = .ok (.iload_n 3, 1) := by decide +kernel
theorem dX2_readMap_13 : decode cX2_readMap 13 = .ok (.if_icmp .ge 42, 3) := by decide +kernel
theorem dX2_readMap_16 : decode cX2_readMap 16 = .ok (.aload_n 0, 1) := by decide +kernel
theorem dX2_readMap_17 : decode cX2_readMap 17 = .ok (.getfield 24, 3) := by decide +kernel
theorem dX2_readMap_20 : decode cX2_readMap 20 = .ok (.iload 4, 2) := by decide +kernel
theorem dX2_readMap_22 : decode cX2_readMap 22 = .ok (.aload_n 1, 1) := by decide +kernel
theorem dX2_readMap_23 : decode cX2_readMap 23 = .ok (.iconst 2, 1) := by decide +kernel
theorem dX2_readMap_24 : decode cX2_readMap 24 = .ok (.invokevirtual 30, 3) := by decide +kernel
theorem dX2_readMap_27 : decode cX2_readMap 27 = .ok (.iastore, 1) := by decide +kernel
theorem dX2_readMap_28 : decode cX2_readMap 28 = .ok (.aload_n 0, 1) := by decide +kernel
theorem dX2_readMap_29 : decode cX2_readMap 29 = .ok (.getfield 24, 3) := by decide +kernel
theorem dX2_readMap_32 : decode cX2_readMap 32 = .ok (.iload 4, 2) := by decide +kernel
theorem dX2_readMap_34 : decode cX2_readMap 34 = .ok (.iaload, 1) := by decide +kernel
theorem dX2_readMap_35 : decode cX2_readMap 35 = .ok (.iload_n 2, 1) := by decide +kernel
theorem dX2_readMap_36 : decode cX2_readMap 36 = .ok (.if_icmp .lt 13, 3) := by decide +kernel
theorem dX2_readMap_39 : decode cX2_readMap 39 = .ok (.new 40, 3) := by decide +kernel
theorem dX2_readMap_42 : decode cX2_readMap 42 = .ok (.dup, 1) := by decide +kernel
theorem dX2_readMap_43 : decode cX2_readMap 43 = .ok (.ldc 77, 2) := by decide +kernel
theorem dX2_readMap_45 : decode cX2_readMap 45 = .ok (.invokespecial 44, 3) := by decide +kernel
theorem dX2_readMap_48 : decode cX2_readMap 48 = .ok (.athrow, 1) := by decide +kernel
theorem dX2_readMap_49 : decode cX2_readMap 49 = .ok (.iinc 4 1, 3) := by decide +kernel
theorem dX2_readMap_52 : decode cX2_readMap 52 = .ok (.goto (-42), 3) := by decide +kernel
theorem dX2_readMap_55 : decode cX2_readMap 55 = .ok (.aload_n 1, 1) := by decide +kernel
theorem dX2_readMap_56 : decode cX2_readMap 56 = .ok (.iconst 1, 1) := by decide +kernel
theorem dX2_readMap_57 : decode cX2_readMap 57 = .ok (.invokevirtual 30, 3) := by decide +kernel
theorem dX2_readMap_60 : decode cX2_readMap 60 = .ok (.iconst 1, 1) := by decide +kernel
theorem dX2_readMap_61 : decode cX2_readMap 61 = .ok (.if_icmp .ne 8, 3) := by decide +kernel
theorem dX2_readMap_64 : decode cX2_readMap 64 = .ok (.aload_n 0, 1) := by decide +kernel
theorem dX2_readMap_65 : decode cX2_readMap 65 = .ok (.iload_n 3, 1) := by decide +kernel
theorem dX2_readMap_66 : decode cX2_readMap 66 = .ok (.invokevirtual 79, 3) := by decide +kernel
theorem dX2_readMap_69 : decode cX2_readMap 69 = .ok (.return_, 1) := by decide +kernel
theorem dX2_replacePlaces_0 : decode cX2_replacePlaces 0 = .ok (.iconst 0, 1) := by decide +kernel
theorem dX2_replacePlaces_1 : decode cX2_replacePlaces 1 = .ok (.istore_n 2, 1) := by decide +kernel
theorem dX2_replacePlaces_2 : decode cX2_replacePlaces 2 = .ok (.iload_n 2, 1) := by decide +kernel
theorem dX2_replacePlaces_3 : decode cX2_replacePlaces 3 = .ok (.iconst 4, 1) := by decide +kernel
theorem dX2_replacePlaces_4 : decode cX2_replacePlaces 4 = .ok (.if_icmp .ge 16, 3) := by decide +kernel
theorem dX2_replacePlaces_7 : decode cX2_replacePlaces 7 = .ok (.aload_n 0, 1) := by decide +kernel
theorem dX2_replacePlaces_8 : decode cX2_replacePlaces 8 = .ok (.getfield 27, 3) := by decide +kernel
theorem dX2_replacePlaces_11 : decode cX2_replacePlaces 11 = .ok (.iload_n 2, 1) := by decide +kernel
theorem dX2_replacePlaces_12 : decode cX2_replacePlaces 12 = .ok (.iload_n 2, 1) := by decide +kernel
theorem dX2_replacePlaces_13 : decode cX2_replacePlaces 13 = .ok (.iastore, 1) := by decide +kernel
theorem dX2_replacePlaces_14 : decode cX2_replacePlaces 14 = .ok (.iinc 2 1, 3) := by decide +kernel
theorem dX2_replacePlaces_17 : decode cX2_replacePlaces 17 = .ok (.goto (-15), 3) := by decide +kernel
theorem dX2_replacePlaces_20 : decode cX2_replacePlaces 20 = .ok (.iconst 0, 1) := by decide +kernel
theorem dX2_replacePlaces_21 : decode cX2_replacePlaces 21 = .ok (.istore_n 2, 1) := by decide +kernel
theorem dX2_replacePlaces_22 : decode cX2_replacePlaces 22 = .ok (.iload_n 2, 1) := by decide +kernel
theorem dX2_replacePlaces_23 : decode cX2_replacePlaces 23 = .ok (.iload_n 1, 1) := by decide +kernel
theorem dX2_replacePlaces_24 : decode cX2_replacePlaces 24 = .ok (.if_icmp .ge 70, 3) := by decide +kernel
theorem dX2_replacePlaces_27 : decode cX2_replacePlaces 27 = .ok (.aload_n 0, 1) := by decide +kernel
theorem dX2_replacePlaces_28 : decode cX2_replacePlaces 28 = .ok (.getfield 24, 3) := by decide +kernel
theorem dX2_replacePlaces_31 : decode cX2_replacePlaces 31 = .ok (.iload_n 2, 1) := by decide +kernel
theorem dX2_replacePlaces_32 : decode cX2_replacePlaces 32 = .ok (.iaload, 1) := by decide +kernel
theorem dX2_replacePlaces_33 : decode cX2_replacePlaces 33 = .ok (.istore_n 3, 1) := by decide +kernel
theorem dX2_replacePlaces_34 : decode cX2_replacePlaces 34 = .ok (.aload_n 0, 1) := by decide +kernel
theorem dX2_replacePlaces_35 : decode cX2_replacePlaces 35 = .ok (.getfield 27, 3) := by decide +kernel
theorem dX2_replacePlaces_38 : decode cX2_replacePlaces 38 = .ok (.iload_n 3, 1) := by decide +kernel
theorem dX2_replacePlaces_39 : decode cX2_replacePlaces 39 = .ok (.iaload, 1) := by decide +kernel
theorem dX2_replacePlaces_40 : decode cX2_replacePlaces 40 = .ok (.istore 4, 2) := by decide +kernel
theorem dX2_replacePlaces_42 : decode cX2_replacePlaces 42 = .ok (.iload_n 3, 1) := by decide +kernel
theorem dX2_replacePlaces_43 : decode cX2_replacePlaces 43 = .ok (.istore 5, 2) := by decide +kernel
theorem dX2_replacePlaces_45 : decode cX2_replacePlaces 45 = .ok (.iload 5, 2) := by decide +kernel
theorem dX2_replacePlaces_47 : decode cX2_replacePlaces 47 = .ok (.ifCond .le 25, 3) := by decide +kernel
theorem dX2_replacePlaces_50 : decode cX2_replacePlaces 50 = .ok (.aload_n 0, 1) := by decide +kernel
theorem dX2_replacePlaces_51 : decode cX2_replacePlaces 51 = .ok (.getfield 27, 3) := by decide +kernel
theorem dX2_replacePlaces_54 : decode cX2_replacePlaces 54 = .ok (.iload 5, 2) := by decide +kernel
theorem dX2_replacePlaces_56 : decode cX2_replacePlaces 56 = .ok (.aload_n 0, 1) := by decide +kernel
theorem dX2_replacePlaces_57 : decode cX2_replacePlaces 57 = .ok (.getfield 27, 3) := by decide +kernel
theorem dX2_replacePlaces_60 : decode cX2_replacePlaces 60 = .ok (.iload 5, 2) := by decide +kernel
theorem dX2_replacePlaces_62 : decode cX2_replacePlaces 62 = .ok (.iconst 1, 1) := by decide +kernel
theorem dX2_replacePlaces_63 : decode cX2_replacePlaces 63 = .ok (.isub, 1) := by decide +kernel
theorem dX2_replacePlaces_64 : decode cX2_replacePlaces 64 = .ok (.iaload, 1) := by decide +kernel
theorem dX2_replacePlaces_65 : decode cX2_replacePlaces 65 = .ok (.iastore, 1) := by decide +kernel
theorem dX2_replacePlaces_66 : decode cX2_replacePlaces 66 = .ok (.iinc 5 (-1), 3) := by decide +kernel
theorem dX2_replacePlaces_69 : decode cX2_replacePlaces 69 = .ok (.goto (-24), 3) := by decide +kernel
theorem dX2_replacePlaces_72 : decode cX2_replacePlaces 72 = .ok (.aload_n 0, 1) := by decide +kernel
theorem dX2_replacePlaces_73 : decode cX2_replacePlaces 73 = .ok (.getfield 27, 3) := by decide +kernel
theorem dX2_replacePlaces_76 : decode cX2_replacePlaces 76 = .ok (.iconst 0, 1) := by decide +kernel
theorem dX2_replacePlaces_77 : decode cX2_replacePlaces 77 = .ok (.iload 4, 2) := by decide +kernel
theorem dX2_replacePlaces_79 : decode cX2_replacePlaces 79 = .ok (.iastore, 1) := by decide +kernel
theorem dX2_replacePlaces_80 : decode cX2_replacePlaces 80 = .ok (.aload_n 0, 1) := by decide +kernel
theorem dX2_replacePlaces_81 : decode cX2_replacePlaces 81 = .ok (.getfield 24, 3) := by decide +kernel
theorem dX2_replacePlaces_84 : decode cX2_replacePlaces 84 = .ok (.iload_n 2, 1) := by decide +kernel
theorem dX2_replacePlaces_85 : decode cX2_replacePlaces 85 = .ok (.iload 4, 2) := by decide +kernel
theorem dX2_replacePlaces_87 : decode cX2_replacePlaces 87 = .ok (.iastore, 1) := by decide +kernel
theorem dX2_replacePlaces_88 : decode cX2_replacePlaces 88 = .ok (.iinc 2 1, 3) := by decide +kernel
theorem dX2_replacePlaces_91 : decode cX2_replacePlaces 91 = .ok (.goto (-69), 3) := by decide +kernel
theorem dX2_replacePlaces_94 : decode cX2_replacePlaces 94 = .ok (.return_, 1) := by decide +kernel
theorem dX2_context_0 : decode cX2_context 0 = .ok (.iload_n 0, 1) := by decide +kernel
theorem dX2_context_1 : decode cX2_context 1 = .ok (.tableswitch 66 0 2 #[27, 31, 36], 27) := by decide +kernel
theorem dX2_context_28 : decode cX2_context 28 = .ok (.iload_n 1, 1) := by decide +kernel
theorem dX2_context_29 : decode cX2_context 29 = .ok (.iconst 4, 1) := by decide +kernel
theorem dX2_context_30 : decode cX2_context 30 = .ok (.irem, 1) := by decide +kernel
theorem dX2_context_31 : decode cX2_context 31 = .ok (.ireturn, 1) := by decide +kernel
theorem dX2_context_32 : decode cX2_context 32 = .ok (.iload_n 1, 1) := by decide +kernel
theorem dX2_context_33 : decode cX2_context 33 = .ok (.bipush 8, 2) := by decide +kernel
theorem dX2_context_35 : decode cX2_context 35 = .ok (.idiv, 1) := by decide +kernel
theorem dX2_context_36 : decode cX2_context 36 = .ok (.ireturn, 1) := by decide +kernel
theorem dX2_context_37 : decode cX2_context 37 = .ok (.iload_n 1, 1) := by decide +kernel
theorem dX2_context_38 : decode cX2_context 38 = .ok (.ifCond .ne 7, 3) := by decide +kernel
theorem dX2_context_41 : decode cX2_context 41 = .ok (.iconst 0, 1) := by decide +kernel
theorem dX2_context_42 : decode cX2_context 42 = .ok (.goto 24, 3) := by decide +kernel
theorem dX2_context_45 : decode cX2_context 45 = .ok (.iload_n 1, 1) := by decide +kernel
theorem dX2_context_46 : decode cX2_context 46 = .ok (.bipush 8, 2) := by decide +kernel
theorem dX2_context_48 : decode cX2_context 48 = .ok (.if_icmp .ge 7, 3) := by decide +kernel
theorem dX2_context_51 : decode cX2_context 51 = .ok (.iconst 1, 1) := by decide +kernel
theorem dX2_context_52 : decode cX2_context 52 = .ok (.goto 14, 3) := by decide +kernel
theorem dX2_context_55 : decode cX2_context 55 = .ok (.iload_n 1, 1) := by decide +kernel
theorem dX2_context_56 : decode cX2_context 56 = .ok (.bipush 20, 2) := by decide +kernel
theorem dX2_context_58 : decode cX2_context 58 = .ok (.if_icmp .ge 7, 3) := by decide +kernel
theorem dX2_context_61 : decode cX2_context 61 = .ok (.iconst 2, 1) := by decide +kernel
theorem dX2_context_62 : decode cX2_context 62 = .ok (.goto 4, 3) := by decide +kernel
theorem dX2_context_65 : decode cX2_context 65 = .ok (.iconst 3, 1) := by decide +kernel
theorem dX2_context_66 : decode cX2_context 66 = .ok (.ireturn, 1) := by decide +kernel
theorem dX2_context_67 : decode cX2_context 67 = .ok (.iconst 2, 1) := by decide +kernel
theorem dX2_context_68 : decode cX2_context 68 = .ok (.iload_n 1, 1) := by decide +kernel
theorem dX2_context_69 : decode cX2_context 69 = .ok (.bipush 16, 2) := by decide +kernel
theorem dX2_context_71 : decode cX2_context 71 = .ok (.idiv, 1) := by decide +kernel
theorem dX2_context_72 : decode cX2_context 72 = .ok (.imul, 1) := by decide +kernel
theorem dX2_context_73 : decode cX2_context 73 = .ok (.iload_n 2, 1) := by decide +kernel
theorem dX2_context_74 : decode cX2_context 74 = .ok (.bipush 16, 2) := by decide +kernel
theorem dX2_context_76 : decode cX2_context 76 = .ok (.idiv, 1) := by decide +kernel
theorem dX2_context_77 : decode cX2_context 77 = .ok (.iadd, 1) := by decide +kernel
theorem dX2_context_78 : decode cX2_context 78 = .ok (.ireturn, 1) := by decide +kernel
theorem dX3_init_0 : decode cX3_init 0 = .ok (.aload_n 0, 1) := by decide +kernel
theorem dX3_init_1 : decode cX3_init 1 = .ok (.invokespecial 3, 3) := by decide +kernel
theorem dX3_init_4 : decode cX3_init 4 = .ok (.aload_n 0, 1) := by decide +kernel
theorem dX3_init_5 : decode cX3_init 5 = .ok (.sipush 400, 3) := by decide +kernel
theorem dX3_init_8 : decode cX3_init 8 = .ok (.newarray .int, 2) := by decide +kernel
theorem dX3_init_10 : decode cX3_init 10 = .ok (.putfield 9, 3) := by decide +kernel
theorem dX3_init_13 : decode cX3_init 13 = .ok (.aload_n 0, 1) := by decide +kernel
theorem dX3_init_14 : decode cX3_init 14 = .ok (.getstatic 15, 3) := by decide +kernel
theorem dX3_init_17 : decode cX3_init 17 = .ok (.invokevirtual 18, 3) := by decide +kernel
theorem dX3_init_20 : decode cX3_init 20 = .ok (.checkcast 19, 3) := by decide +kernel
theorem dX3_init_23 : decode cX3_init 23 = .ok (.putfield 23, 3) := by decide +kernel
theorem dX3_init_26 : decode cX3_init 26 = .ok (.return_, 1) := by decide +kernel
theorem dX3_clear_0 : decode cX3_clear 0 = .ok (.aload_n 0, 1) := by decide +kernel
theorem dX3_clear_1 : decode cX3_clear 1 = .ok (.iconst 0, 1) := by decide +kernel
theorem dX3_clear_2 : decode cX3_clear 2 = .ok (.putfield 26, 3) := by decide +kernel
theorem dX3_clear_5 : decode cX3_clear 5 = .ok (.getstatic 15, 3) := by decide +kernel
theorem dX3_clear_8 : decode cX3_clear 8 = .ok (.iconst 0, 1) := by decide +kernel
theorem dX3_clear_9 : decode cX3_clear 9 = .ok (.aload_n 0, 1) := by decide +kernel
theorem dX3_clear_10 : decode cX3_clear 10 = .ok (.getfield 23, 3) := by decide +kernel
theorem dX3_clear_13 : decode cX3_clear 13 = .ok (.iconst 0, 1) := by decide +kernel
theorem dX3_clear_14 : decode cX3_clear 14 = .ok (.bipush 9, 2) := by decide +kernel
theorem dX3_clear_16 : decode cX3_clear 16 = .ok (.invokestatic 30, 3) := by decide +kernel
theorem dX3_clear_19 : decode cX3_clear 19 = .ok (.return_, 1) := by decide +kernel
theorem dX3_add_0 : decode cX3_add 0 = .ok (.aload_n 0, 1) := by decide +kernel
theorem dX3_add_1 : decode cX3_add 1 = .ok (.getfield 9, 3) := by decide +kernel
theorem dX3_add_4 : decode cX3_add 4 = .ok (.aload_n 0, 1) := by decide +kernel
theorem dX3_add_5 : decode cX3_add 5 = .ok (.getfield 26, 3) := by decide +kernel
theorem dX3_add_8 : decode cX3_add 8 = .ok (.iload_n 1, 1) := by decide +kernel
theorem dX3_add_9 : decode cX3_add 9 = .ok (.iastore, 1) := by decide +kernel
theorem dX3_add_10 : decode cX3_add 10 = .ok (.aload_n 0, 1) := by decide +kernel
theorem dX3_add_11 : decode cX3_add 11 = .ok (.dup, 1) := by decide +kernel
theorem dX3_add_12 : decode cX3_add 12 = .ok (.getfield 26, 3) := by decide +kernel
theorem dX3_add_15 : decode cX3_add 15 = .ok (.iconst 1, 1) := by decide +kernel
theorem dX3_add_16 : decode cX3_add 16 = .ok (.iadd, 1) := by decide +kernel
theorem dX3_add_17 : decode cX3_add 17 = .ok (.putfield 26, 3) := by decide +kernel
theorem dX3_add_20 : decode cX3_add 20 = .ok (.aload_n 0, 1) := by decide +kernel
theorem dX3_add_21 : decode cX3_add 21 = .ok (.getfield 23, 3) := by decide +kernel
theorem dX3_add_24 : decode cX3_add 24 = .ok (.iload_n 2, 1) := by decide +kernel
theorem dX3_add_25 : decode cX3_add 25 = .ok (.dup2, 1) := by decide +kernel
theorem dX3_add_26 : decode cX3_add 26 = .ok (.iaload, 1) := by decide +kernel
theorem dX3_add_27 : decode cX3_add 27 = .ok (.iconst 1, 1) := by decide +kernel
theorem dX3_add_28 : decode cX3_add 28 = .ok (.iadd, 1) := by decide +kernel
theorem dX3_add_29 : decode cX3_add 29 = .ok (.iastore, 1) := by decide +kernel
theorem dX3_add_30 : decode cX3_add 30 = .ok (.return_, 1) := by decide +kernel
theorem dX3_back_0 : decode cX3_back 0 = .ok (.iload_n 1, 1) := by decide +kernel
theorem dX3_back_1 : decode cX3_back 1 = .ok (.aload_n 0, 1) := by decide +kernel
theorem dX3_back_2 : decode cX3_back 2 = .ok (.getfield 26, 3) := by decide +kernel
theorem dX3_back_5 : decode cX3_back 5 = .ok (.if_icmp .gt 17, 3) := by decide +kernel
theorem dX3_back_8 : decode cX3_back 8 = .ok (.aload_n 0, 1) := by decide +kernel
theorem dX3_back_9 : decode cX3_back 9 = .ok (.getfield 9, 3) := by decide +kernel
theorem dX3_back_12 : decode cX3_back 12 = .ok (.aload_n 0, 1) := by decide +kernel
theorem dX3_back_13 : decode cX3_back 13 = .ok (.getfield 26, 3) := by decide +kernel
theorem dX3_back_16 : decode cX3_back 16 = .ok (.iload_n 1, 1) := by decide +kernel
theorem dX3_back_17 : decode cX3_back 17 = .ok (.isub, 1) := by decide +kernel
theorem dX3_back_18 : decode cX3_back 18 = .ok (.iaload, 1) := by decide +kernel
theorem dX3_back_19 : decode cX3_back 19 = .ok (.goto 4, 3) := by decide +kernel
theorem dX3_back_22 : decode cX3_back 22 = .ok (.iconst 0, 1) := by decide +kernel
theorem dX3_back_23 : decode cX3_back 23 = .ok (.ireturn, 1) := by decide +kernel
theorem dX3_remember_0 : decode cX3_remember 0 = .ok (.bipush 8, 2) := by decide +kernel
theorem dX3_remember_2 : decode cX3_remember 2 = .ok (.istore_n 2, 1) := by decide +kernel
theorem dX3_remember_3 : decode cX3_remember 3 = .ok (.iload_n 2, 1) := by decide +kernel
theorem dX3_remember_4 : decode cX3_remember 4 = .ok (.iconst 5, 1) := by decide +kernel
theorem dX3_remember_5 : decode cX3_remember 5 = .ok (.if_icmp .le 23, 3) := by decide +kernel
theorem dX3_remember_8 : decode cX3_remember 8 = .ok (.aload_n 0, 1) := by decide +kernel
theorem dX3_remember_9 : decode cX3_remember 9 = .ok (.getfield 23, 3) := by decide +kernel
theorem dX3_remember_12 : decode cX3_remember 12 = .ok (.iload_n 2, 1) := by decide +kernel
theorem dX3_remember_13 : decode cX3_remember 13 = .ok (.aload_n 0, 1) := by decide +kernel
theorem dX3_remember_14 : decode cX3_remember 14 = .ok (.getfield 23, 3) := by decide +kernel
theorem dX3_remember_17 : decode cX3_remember 17 = .ok (.iload_n 2, 1) := by decide +kernel
theorem dX3_remember_18 : decode cX3_remember 18 = .ok (.iconst 1, 1) := by decide +kernel
theorem dX3_remember_19 : decode cX3_remember 19 = .ok (.isub, 1) := by decide +kernel
theorem dX3_remember_20 : decode cX3_remember 20 = .ok (.iaload, 1) := by decide +kernel
theorem dX3_remember_21 : decode cX3_remember 21 = .ok (.iastore, 1) := by decide +kernel
theorem dX3_remember_22 : decode cX3_remember 22 = .ok (.iinc 2 (-1), 3) := by decide +kernel
theorem dX3_remember_25 : decode cX3_remember 25 = .ok (.goto (-22), 3) := by decide +kernel
theorem dX3_remember_28 : decode cX3_remember 28 = .ok (.aload_n 0, 1) := by decide +kernel
theorem dX3_remember_29 : decode cX3_remember 29 = .ok (.getfield 23, 3) := by decide +kernel
theorem dX3_remember_32 : decode cX3_remember 32 = .ok (.iconst 5, 1) := by decide +kernel
theorem dX3_remember_33 : decode cX3_remember 33 = .ok (.iload_n 1, 1) := by decide +kernel
theorem dX3_remember_34 : decode cX3_remember 34 = .ok (.iastore, 1) := by decide +kernel
theorem dX3_remember_35 : decode cX3_remember 35 = .ok (.return_, 1) := by decide +kernel
theorem dX4_init_0 : decode cX4_init 0 = .ok (.aload_n 0, 1) := by decide +kernel
theorem dX4_init_1 : decode cX4_init 1 = .ok (.invokespecial 3, 3) := by decide +kernel
theorem dX4_init_4 : decode cX4_init 4 = .ok (.aload_n 0, 1) := by decide +kernel
theorem dX4_init_5 : decode cX4_init 5 = .ok (.sipush 2000, 3) := by decide +kernel
theorem dX4_init_8 : decode cX4_init 8 = .ok (.newarray .boolean, 2) := by decide +kernel
theorem dX4_init_10 : decode cX4_init 10 = .ok (.putfield 9, 3) := by decide +kernel
theorem dX4_init_13 : decode cX4_init 13 = .ok (.return_, 1) := by decide +kernel
theorem dX4_append_0 : decode cX4_append 0 = .ok (.iconst 0, 1) := by decide +kernel
theorem dX4_append_1 : decode cX4_append 1 = .ok (.istore_n 3, 1) := by decide +kernel
theorem dX4_append_2 : decode cX4_append 2 = .ok (.iload_n 3, 1) := by decide +kernel
theorem dX4_append_3 : decode cX4_append 3 = .ok (.iload_n 2, 1) := by decide +kernel
theorem dX4_append_4 : decode cX4_append 4 = .ok (.if_icmp .ge 34, 3) := by decide +kernel
theorem dX4_append_7 : decode cX4_append 7 = .ok (.aload_n 0, 1) := by decide +kernel
theorem dX4_append_8 : decode cX4_append 8 = .ok (.getfield 9, 3) := by decide +kernel
theorem dX4_append_11 : decode cX4_append 11 = .ok (.aload_n 0, 1) := by decide +kernel
theorem dX4_append_12 : decode cX4_append 12 = .ok (.getfield 15, 3) := by decide +kernel
theorem dX4_append_15 : decode cX4_append 15 = .ok (.iload_n 3, 1) := by decide +kernel
theorem dX4_append_16 : decode cX4_append 16 = .ok (.iadd, 1) := by decide +kernel
theorem dX4_append_17 : decode cX4_append 17 = .ok (.iload_n 1, 1) := by decide +kernel
theorem dX4_append_18 : decode cX4_append 18 = .ok (.iload_n 3, 1) := by decide +kernel
theorem dX4_append_19 : decode cX4_append 19 = .ok (.ishr, 1) := by decide +kernel
theorem dX4_append_20 : decode cX4_append 20 = .ok (.iconst 1, 1) := by decide +kernel
theorem dX4_append_21 : decode cX4_append 21 = .ok (.iand, 1) := by decide +kernel
theorem dX4_append_22 : decode cX4_append 22 = .ok (.iconst 1, 1) := by decide +kernel
theorem dX4_append_23 : decode cX4_append 23 = .ok (.if_icmp .ne 7, 3) := by decide +kernel
theorem dX4_append_26 : decode cX4_append 26 = .ok (.iconst 1, 1) := by decide +kernel
theorem dX4_append_27 : decode cX4_append 27 = .ok (.goto 4, 3) := by decide +kernel
theorem dX4_append_30 : decode cX4_append 30 = .ok (.iconst 0, 1) := by decide +kernel
theorem dX4_append_31 : decode cX4_append 31 = .ok (.bastore, 1) := by decide +kernel
theorem dX4_append_32 : decode cX4_append 32 = .ok (.iinc 3 1, 3) := by decide +kernel
theorem dX4_append_35 : decode cX4_append 35 = .ok (.goto (-33), 3) := by decide +kernel
theorem dX4_append_38 : decode cX4_append 38 = .ok (.aload_n 0, 1) := by decide +kernel
theorem dX4_append_39 : decode cX4_append 39 = .ok (.dup, 1) := by decide +kernel
theorem dX4_append_40 : decode cX4_append 40 = .ok (.getfield 15, 3) := by decide +kernel
theorem dX4_append_43 : decode cX4_append 43 = .ok (.iload_n 2, 1) := by decide +kernel
theorem dX4_append_44 : decode cX4_append 44 = .ok (.iadd, 1) := by decide +kernel
theorem dX4_append_45 : decode cX4_append 45 = .ok (.putfield 15, 3) := by decide +kernel
theorem dX4_append_48 : decode cX4_append 48 = .ok (.return_, 1) := by decide +kernel
theorem dX4_readNumber_0 : decode cX4_readNumber 0 = .ok (.iload_n 1, 1) := by decide +kernel
theorem dX4_readNumber_1 : decode cX4_readNumber 1 = .ok (.aload_n 0, 1) := by decide +kernel
theorem dX4_readNumber_2 : decode cX4_readNumber 2 = .ok (.getfield 15, 3) := by decide +kernel
theorem dX4_readNumber_5 : decode cX4_readNumber 5 = .ok (.aload_n 0, 1) := by decide +kernel
theorem dX4_readNumber_6 : decode cX4_readNumber 6 = .ok (.getfield 19, 3) := by decide +kernel
theorem dX4_readNumber_9 : decode cX4_readNumber 9 = .ok (.isub, 1) := by decide +kernel
theorem dX4_readNumber_10 : decode cX4_readNumber 10 = .ok (.if_icmp .le 13, 3) := by decide +kernel
theorem dX4_readNumber_13 : decode cX4_readNumber 13 = .ok (.new 22, 3) := by decide +kernel
theorem dX4_readNumber_16 : decode cX4_readNumber 16 = .ok (.dup, 1) := by decide +kernel
theorem dX4_readNumber_17 : decode cX4_readNumber 17 = .ok (.ldc 24, 2) := by decide +kernel
theorem dX4_readNumber_19 : decode cX4_readNumber 19 = .ok (.invokespecial 26, 3) := by decide +kernel
theorem dX4_readNumber_22 : decode cX4_readNumber 22 = .ok (.athrow, 1) := by decide +kernel
theorem dX4_readNumber_23 : decode cX4_readNumber 23 = .ok (.iconst 0, 1) := by decide +kernel
theorem dX4_readNumber_24 : decode cX4_readNumber 24 = .ok (.istore_n 2, 1) := by decide +kernel
theorem dX4_readNumber_25 : decode cX4_readNumber 25 = .ok (.iconst 0, 1) := by decide +kernel
theorem dX4_readNumber_26 : decode cX4_readNumber 26 = .ok (.istore_n 3, 1) := by decide +kernel
theorem dX4_readNumber_27 : decode cX4_readNumber 27 = .ok (.iload_n 3, 1) := by decide +kernel
theorem dX4_readNumber_28 : decode cX4_readNumber 28 = .ok (.iload_n 1, 1) := by decide +kernel
theorem dX4_readNumber_29 : decode cX4_readNumber 29 = .ok (.if_icmp .ge 29, 3) := by decide +kernel
theorem dX4_readNumber_32 : decode cX4_readNumber 32 = .ok (.aload_n 0, 1) := by decide +kernel
theorem dX4_readNumber_33 : decode cX4_readNumber 33 = .ok (.getfield 9, 3) := by decide +kernel
theorem dX4_readNumber_36 : decode cX4_readNumber 36 = .ok (.aload_n 0, 1) := by decide +kernel
theorem dX4_readNumber_37 : decode cX4_readNumber 37 = .ok (.getfield 19, 3) := by decide +kernel
theorem dX4_readNumber_40 : decode cX4_readNumber 40 = .ok (.iload_n 3, 1) := by decide +kernel
theorem dX4_readNumber_41 : decode cX4_readNumber 41 = .ok (.iadd, 1) := by decide +kernel
theorem dX4_readNumber_42 : decode cX4_readNumber 42 = .ok (.baload, 1) := by decide +kernel
theorem dX4_readNumber_43 : decode cX4_readNumber 43 = .ok (.ifCond .eq 9, 3) := by decide +kernel
theorem dX4_readNumber_46 : decode cX4_readNumber 46 = .ok (.iload_n 2, 1) := by decide +kernel
theorem dX4_readNumber_47 : decode cX4_readNumber 47 = .ok (.iconst 1, 1) := by decide +kernel
theorem dX4_readNumber_48 : decode cX4_readNumber 48 = .ok (.iload_n 3, 1) := by decide +kernel
theorem dX4_readNumber_49 : decode cX4_readNumber 49 = .ok (.ishl, 1) := by decide +kernel
theorem dX4_readNumber_50 : decode cX4_readNumber 50 = .ok (.ior, 1) := by decide +kernel
theorem dX4_readNumber_51 : decode cX4_readNumber 51 = .ok (.istore_n 2, 1) := by decide +kernel
theorem dX4_readNumber_52 : decode cX4_readNumber 52 = .ok (.iinc 3 1, 3) := by decide +kernel
theorem dX4_readNumber_55 : decode cX4_readNumber 55 = .ok (.goto (-28), 3) := by decide +kernel
theorem dX4_readNumber_58 : decode cX4_readNumber 58 = .ok (.aload_n 0, 1) := by decide +kernel
theorem dX4_readNumber_59 : decode cX4_readNumber 59 = .ok (.dup, 1) := by decide +kernel
theorem dX4_readNumber_60 : decode cX4_readNumber 60 = .ok (.getfield 19, 3) := by decide +kernel
theorem dX4_readNumber_63 : decode cX4_readNumber 63 = .ok (.iload_n 1, 1) := by decide +kernel
theorem dX4_readNumber_64 : decode cX4_readNumber 64 = .ok (.iadd, 1) := by decide +kernel
theorem dX4_readNumber_65 : decode cX4_readNumber 65 = .ok (.putfield 19, 3) := by decide +kernel
theorem dX4_readNumber_68 : decode cX4_readNumber 68 = .ok (.iload_n 2, 1) := by decide +kernel
theorem dX4_readNumber_69 : decode cX4_readNumber 69 = .ok (.ireturn, 1) := by decide +kernel
theorem dX5_init_0 : decode cX5_init 0 = .ok (.aload_n 0, 1) := by decide +kernel
theorem dX5_init_1 : decode cX5_init 1 = .ok (.invokespecial 3, 3) := by decide +kernel
theorem dX5_init_4 : decode cX5_init 4 = .ok (.aload_n 0, 1) := by decide +kernel
theorem dX5_init_5 : decode cX5_init 5 = .ok (.new 9, 3) := by decide +kernel
theorem dX5_init_8 : decode cX5_init 8 = .ok (.dup, 1) := by decide +kernel
theorem dX5_init_9 : decode cX5_init 9 = .ok (.invokespecial 11, 3) := by decide +kernel
theorem dX5_init_12 : decode cX5_init 12 = .ok (.putfield 12, 3) := by decide +kernel
theorem dX5_init_15 : decode cX5_init 15 = .ok (.aload_n 0, 1) := by decide +kernel
theorem dX5_init_16 : decode cX5_init 16 = .ok (.new 16, 3) := by decide +kernel
theorem dX5_init_19 : decode cX5_init 19 = .ok (.dup, 1) := by decide +kernel
theorem dX5_init_20 : decode cX5_init 20 = .ok (.invokespecial 18, 3) := by decide +kernel
theorem dX5_init_23 : decode cX5_init 23 = .ok (.putfield 19, 3) := by decide +kernel
theorem dX5_init_26 : decode cX5_init 26 = .ok (.aload_n 0, 1) := by decide +kernel
theorem dX5_init_27 : decode cX5_init 27 = .ok (.new 23, 3) := by decide +kernel
theorem dX5_init_30 : decode cX5_init 30 = .ok (.dup, 1) := by decide +kernel
theorem dX5_init_31 : decode cX5_init 31 = .ok (.invokespecial 25, 3) := by decide +kernel
theorem dX5_init_34 : decode cX5_init 34 = .ok (.putfield 26, 3) := by decide +kernel
theorem dX5_init_37 : decode cX5_init 37 = .ok (.aload_n 0, 1) := by decide +kernel
theorem dX5_init_38 : decode cX5_init 38 = .ok (.new 23, 3) := by decide +kernel
theorem dX5_init_41 : decode cX5_init 41 = .ok (.dup, 1) := by decide +kernel
theorem dX5_init_42 : decode cX5_init 42 = .ok (.invokespecial 25, 3) := by decide +kernel
theorem dX5_init_45 : decode cX5_init 45 = .ok (.putfield 30, 3) := by decide +kernel
theorem dX5_init_48 : decode cX5_init 48 = .ok (.return_, 1) := by decide +kernel
theorem dX5_put_0 : decode cX5_put 0 = .ok (.iload_n 2, 1) := by decide +kernel
theorem dX5_put_1 : decode cX5_put 1 = .ok (.ifCond .lt 9, 3) := by decide +kernel
theorem dX5_put_4 : decode cX5_put 4 = .ok (.iload_n 2, 1) := by decide +kernel
theorem dX5_put_5 : decode cX5_put 5 = .ok (.bipush 24, 2) := by decide +kernel
theorem dX5_put_7 : decode cX5_put 7 = .ok (.if_icmp .le 13, 3) := by decide +kernel
theorem dX5_put_10 : decode cX5_put 10 = .ok (.new 33, 3) := by decide +kernel
theorem dX5_put_13 : decode cX5_put 13 = .ok (.dup, 1) := by decide +kernel
theorem dX5_put_14 : decode cX5_put 14 = .ok (.ldc 35, 2) := by decide +kernel
theorem dX5_put_16 : decode cX5_put 16 = .ok (.invokespecial 37, 3) := by decide +kernel
theorem dX5_put_19 : decode cX5_put 19 = .ok (.athrow, 1) := by decide +kernel
theorem dX5_put_20 : decode cX5_put 20 = .ok (.iload_n 1, 1) := by decide +kernel
theorem dX5_put_21 : decode cX5_put 21 = .ok (.ifCond .lt 9, 3) := by decide +kernel
theorem dX5_put_24 : decode cX5_put 24 = .ok (.iload_n 1, 1) := by decide +kernel
theorem dX5_put_25 : decode cX5_put 25 = .ok (.iload_n 2, 1) := by decide +kernel
theorem dX5_put_26 : decode cX5_put 26 = .ok (.ishr, 1) := by decide +kernel
theorem dX5_put_27 : decode cX5_put 27 = .ok (.ifCond .eq 13, 3) := by decide +kernel
theorem dX5_put_30 : decode cX5_put 30 = .ok (.new 33, 3) := by decide +kernel
theorem dX5_put_33 : decode cX5_put 33 = .ok (.dup, 1) := by decide +kernel
theorem dX5_put_34 : decode cX5_put 34 = .ok (.ldc 40, 2) := by decide +kernel
theorem dX5_put_36 : decode cX5_put 36 = .ok (.invokespecial 37, 3) := by decide +kernel
theorem dX5_put_39 : decode cX5_put 39 = .ok (.athrow, 1) := by decide +kernel
theorem dX5_put_40 : decode cX5_put 40 = .ok (.iload_n 2, 1) := by decide +kernel
theorem dX5_put_41 : decode cX5_put 41 = .ok (.sipush 2000, 3) := by decide +kernel
theorem dX5_put_44 : decode cX5_put 44 = .ok (.aload_n 0, 1) := by decide +kernel
theorem dX5_put_45 : decode cX5_put 45 = .ok (.getfield 12, 3) := by decide +kernel
theorem dX5_put_48 : decode cX5_put 48 = .ok (.getfield 42, 3) := by decide +kernel
theorem dX5_put_51 : decode cX5_put 51 = .ok (.isub, 1) := by decide +kernel
theorem dX5_put_52 : decode cX5_put 52 = .ok (.if_icmp .le 13, 3) := by decide +kernel
theorem dX5_put_55 : decode cX5_put 55 = .ok (.new 46, 3) := by decide +kernel
theorem dX5_put_58 : decode cX5_put 58 = .ok (.dup, 1) := by decide +kernel
theorem dX5_put_59 : decode cX5_put 59 = .ok (.ldc 48, 2) := by decide +kernel
theorem dX5_put_61 : decode cX5_put 61 = .ok (.invokespecial 50, 3) := by decide +kernel
theorem dX5_put_64 : decode cX5_put 64 = .ok (.athrow, 1) := by decide +kernel
theorem dX5_put_65 : decode cX5_put 65 = .ok (.aload_n 0, 1) := by decide +kernel
theorem dX5_put_66 : decode cX5_put 66 = .ok (.getfield 12, 3) := by decide +kernel
theorem dX5_put_69 : decode cX5_put 69 = .ok (.iload_n 1, 1) := by decide +kernel
theorem dX5_put_70 : decode cX5_put 70 = .ok (.iload_n 2, 1) := by decide +kernel
theorem dX5_put_71 : decode cX5_put 71 = .ok (.invokevirtual 51, 3) := by decide +kernel
theorem dX5_put_74 : decode cX5_put 74 = .ok (.aload_n 0, 1) := by decide +kernel
theorem dX5_put_75 : decode cX5_put 75 = .ok (.getfield 12, 3) := by decide +kernel
theorem dX5_put_78 : decode cX5_put 78 = .ok (.getfield 42, 3) := by decide +kernel
theorem dX5_put_81 : decode cX5_put 81 = .ok (.ireturn, 1) := by decide +kernel
theorem dX5_bit_0 : decode cX5_bit 0 = .ok (.iload_n 1, 1) := by decide +kernel
theorem dX5_bit_1 : decode cX5_bit 1 = .ok (.ifCond .lt 14, 3) := by decide +kernel
theorem dX5_bit_4 : decode cX5_bit 4 = .ok (.iload_n 1, 1) := by decide +kernel
theorem dX5_bit_5 : decode cX5_bit 5 = .ok (.aload_n 0, 1) := by decide +kernel
theorem dX5_bit_6 : decode cX5_bit 6 = .ok (.getfield 12, 3) := by decide +kernel
theorem dX5_bit_9 : decode cX5_bit 9 = .ok (.getfield 42, 3) := by decide +kernel
theorem dX5_bit_12 : decode cX5_bit 12 = .ok (.if_icmp .lt 13, 3) := by decide +kernel
theorem dX5_bit_15 : decode cX5_bit 15 = .ok (.new 55, 3) := by decide +kernel
theorem dX5_bit_18 : decode cX5_bit 18 = .ok (.dup, 1) := by decide +kernel
theorem dX5_bit_19 : decode cX5_bit 19 = .ok (.ldc 57, 2) := by decide +kernel
theorem dX5_bit_21 : decode cX5_bit 21 = .ok (.invokespecial 59, 3) := by decide +kernel
theorem dX5_bit_24 : decode cX5_bit 24 = .ok (.athrow, 1) := by decide +kernel
theorem dX5_bit_25 : decode cX5_bit 25 = .ok (.aload_n 0, 1) := by decide +kernel
theorem dX5_bit_26 : decode cX5_bit 26 = .ok (.getfield 12, 3) := by decide +kernel
theorem dX5_bit_29 : decode cX5_bit 29 = .ok (.getfield 60, 3) := by decide +kernel
theorem dX5_bit_32 : decode cX5_bit 32 = .ok (.iload_n 1, 1) := by decide +kernel
theorem dX5_bit_33 : decode cX5_bit 33 = .ok (.baload, 1) := by decide +kernel
theorem dX5_bit_34 : decode cX5_bit 34 = .ok (.ireturn, 1) := by decide +kernel
theorem dX5_flip_0 : decode cX5_flip 0 = .ok (.iload_n 1, 1) := by decide +kernel
theorem dX5_flip_1 : decode cX5_flip 1 = .ok (.ifCond .lt 14, 3) := by decide +kernel
theorem dX5_flip_4 : decode cX5_flip 4 = .ok (.iload_n 1, 1) := by decide +kernel
theorem dX5_flip_5 : decode cX5_flip 5 = .ok (.aload_n 0, 1) := by decide +kernel
theorem dX5_flip_6 : decode cX5_flip 6 = .ok (.getfield 12, 3) := by decide +kernel
theorem dX5_flip_9 : decode cX5_flip 9 = .ok (.getfield 42, 3) := by decide +kernel
theorem dX5_flip_12 : decode cX5_flip 12 = .ok (.if_icmp .lt 13, 3) := by decide +kernel
theorem dX5_flip_15 : decode cX5_flip 15 = .ok (.new 55, 3) := by decide +kernel
theorem dX5_flip_18 : decode cX5_flip 18 = .ok (.dup, 1) := by decide +kernel
theorem dX5_flip_19 : decode cX5_flip 19 = .ok (.ldc 57, 2) := by decide +kernel
theorem dX5_flip_21 : decode cX5_flip 21 = .ok (.invokespecial 59, 3) := by decide +kernel
theorem dX5_flip_24 : decode cX5_flip 24 = .ok (.athrow, 1) := by decide +kernel
theorem dX5_flip_25 : decode cX5_flip 25 = .ok (.aload_n 0, 1) := by decide +kernel
theorem dX5_flip_26 : decode cX5_flip 26 = .ok (.getfield 12, 3) := by decide +kernel
theorem dX5_flip_29 : decode cX5_flip 29 = .ok (.getfield 60, 3) := by decide +kernel
theorem dX5_flip_32 : decode cX5_flip 32 = .ok (.iload_n 1, 1) := by decide +kernel
theorem dX5_flip_33 : decode cX5_flip 33 = .ok (.aload_n 0, 1) := by decide +kernel
theorem dX5_flip_34 : decode cX5_flip 34 = .ok (.getfield 12, 3) := by decide +kernel
theorem dX5_flip_37 : decode cX5_flip 37 = .ok (.getfield 60, 3) := by decide +kernel
theorem dX5_flip_40 : decode cX5_flip 40 = .ok (.iload_n 1, 1) := by decide +kernel
theorem dX5_flip_41 : decode cX5_flip 41 = .ok (.baload, 1) := by decide +kernel
theorem dX5_flip_42 : decode cX5_flip 42 = .ok (.ifCond .ne 7, 3) := by decide +kernel
theorem dX5_flip_45 : decode cX5_flip 45 = .ok (.iconst 1, 1) := by decide +kernel
theorem dX5_flip_46 : decode cX5_flip 46 = .ok (.goto 4, 3) := by decide +kernel
theorem dX5_flip_49 : decode cX5_flip 49 = .ok (.iconst 0, 1) := by decide +kernel
theorem dX5_flip_50 : decode cX5_flip 50 = .ok (.bastore, 1) := by decide +kernel
theorem dX5_flip_51 : decode cX5_flip 51 = .ok (.return_, 1) := by decide +kernel
theorem dX5_cut_0 : decode cX5_cut 0 = .ok (.iload_n 1, 1) := by decide +kernel
theorem dX5_cut_1 : decode cX5_cut 1 = .ok (.ifCond .lt 14, 3) := by decide +kernel
theorem dX5_cut_4 : decode cX5_cut 4 = .ok (.iload_n 1, 1) := by decide +kernel
theorem dX5_cut_5 : decode cX5_cut 5 = .ok (.aload_n 0, 1) := by decide +kernel
theorem dX5_cut_6 : decode cX5_cut 6 = .ok (.getfield 12, 3) := by decide +kernel
theorem dX5_cut_9 : decode cX5_cut 9 = .ok (.getfield 42, 3) := by decide +kernel
theorem dX5_cut_12 : decode cX5_cut 12 = .ok (.if_icmp .le 13, 3) := by decide +kernel
theorem dX5_cut_15 : decode cX5_cut 15 = .ok (.new 33, 3) := by decide +kernel
theorem dX5_cut_18 : decode cX5_cut 18 = .ok (.dup, 1) := by decide +kernel
theorem dX5_cut_19 : decode cX5_cut 19 = .ok (.ldc 64, 2) := by decide +kernel
theorem dX5_cut_21 : decode cX5_cut 21 = .ok (.invokespecial 37, 3) := by decide +kernel
theorem dX5_cut_24 : decode cX5_cut 24 = .ok (.athrow, 1) := by decide +kernel
theorem dX5_cut_25 : decode cX5_cut 25 = .ok (.aload_n 0, 1) := by decide +kernel
theorem dX5_cut_26 : decode cX5_cut 26 = .ok (.getfield 12, 3) := by decide +kernel
theorem dX5_cut_29 : decode cX5_cut 29 = .ok (.getfield 42, 3) := by decide +kernel
theorem dX5_cut_32 : decode cX5_cut 32 = .ok (.iload_n 1, 1) := by decide +kernel
theorem dX5_cut_33 : decode cX5_cut 33 = .ok (.isub, 1) := by decide +kernel
theorem dX5_cut_34 : decode cX5_cut 34 = .ok (.istore_n 2, 1) := by decide +kernel
theorem dX5_cut_35 : decode cX5_cut 35 = .ok (.aload_n 0, 1) := by decide +kernel
theorem dX5_cut_36 : decode cX5_cut 36 = .ok (.getfield 12, 3) := by decide +kernel
theorem dX5_cut_39 : decode cX5_cut 39 = .ok (.iload_n 1, 1) := by decide +kernel
theorem dX5_cut_40 : decode cX5_cut 40 = .ok (.putfield 42, 3) := by decide +kernel
theorem dX5_cut_43 : decode cX5_cut 43 = .ok (.iload_n 2, 1) := by decide +kernel
theorem dX5_cut_44 : decode cX5_cut 44 = .ok (.ireturn, 1) := by decide +kernel
theorem dX5_unfold_0 : decode cX5_unfold 0 = .ok (.aload_n 0, 1) := by decide +kernel
theorem dX5_unfold_1 : decode cX5_unfold 1 = .ok (.getfield 12, 3) := by decide +kernel
theorem dX5_unfold_4 : decode cX5_unfold 4 = .ok (.iconst 0, 1) := by decide +kernel
theorem dX5_unfold_5 : decode cX5_unfold 5 = .ok (.putfield 66, 3) := by decide +kernel
theorem dX5_unfold_8 : decode cX5_unfold 8 = .ok (.aload_n 0, 1) := by decide +kernel
theorem dX5_unfold_9 : decode cX5_unfold 9 = .ok (.getfield 30, 3) := by decide +kernel
theorem dX5_unfold_12 : decode cX5_unfold 12 = .ok (.invokevirtual 69, 3) := by decide +kernel
theorem dX5_unfold_15 : decode cX5_unfold 15 = .ok (.iconst 0, 1) := by decide +kernel
theorem dX5_unfold_16 : decode cX5_unfold 16 = .ok (.istore_n 1, 1) := by decide +kernel
theorem dX5_unfold_17 : decode cX5_unfold 17 = .ok (.iconst 0, 1) := by decide +kernel
theorem dX5_unfold_18 : decode cX5_unfold 18 = .ok (.istore_n 2, 1) := by decide +kernel
theorem dX5_unfold_19 : decode cX5_unfold 19 = .ok (.iload_n 2, 1) := by decide +kernel
theorem dX5_unfold_20 : decode cX5_unfold 20 = .ok (.sipush 401, 3) := by decide +kernel
theorem dX5_unfold_23 : decode cX5_unfold 23 = .ok (.if_icmp .ge 29, 3) := by decide +kernel
theorem dX5_unfold_26 : decode cX5_unfold 26 = .ok (.iload_n 1, 1) := by decide +kernel
theorem dX5_unfold_27 : decode cX5_unfold 27 = .ok (.ifCond .ne 25, 3) := by decide +kernel
theorem dX5_unfold_30 : decode cX5_unfold 30 = .ok (.aload_n 0, 1) := by decide +kernel
theorem dX5_unfold_31 : decode cX5_unfold 31 = .ok (.getfield 19, 3) := by decide +kernel
theorem dX5_unfold_34 : decode cX5_unfold 34 = .ok (.aload_n 0, 1) := by decide +kernel
theorem dX5_unfold_35 : decode cX5_unfold 35 = .ok (.getfield 12, 3) := by decide +kernel
theorem dX5_unfold_38 : decode cX5_unfold 38 = .ok (.aload_n 0, 1) := by decide +kernel
theorem dX5_unfold_39 : decode cX5_unfold 39 = .ok (.getfield 30, 3) := by decide +kernel
theorem dX5_unfold_42 : decode cX5_unfold 42 = .ok (.invokevirtual 72, 3) := by decide +kernel
theorem dX5_unfold_45 : decode cX5_unfold 45 = .ok (.istore_n 1, 1) := by decide +kernel
theorem dX5_unfold_46 : decode cX5_unfold 46 = .ok (.iinc 2 1, 3) := by decide +kernel
theorem dX5_unfold_49 : decode cX5_unfold 49 = .ok (.goto (-30), 3) := by decide +kernel
theorem dX5_unfold_52 : decode cX5_unfold 52 = .ok (.aload_n 0, 1) := by decide +kernel
theorem dX5_unfold_53 : decode cX5_unfold 53 = .ok (.getfield 30, 3) := by decide +kernel
theorem dX5_unfold_56 : decode cX5_unfold 56 = .ok (.astore_n 2, 1) := by decide +kernel
theorem dX5_unfold_57 : decode cX5_unfold 57 = .ok (.aload_n 0, 1) := by decide +kernel
theorem dX5_unfold_58 : decode cX5_unfold 58 = .ok (.aload_n 0, 1) := by decide +kernel
theorem dX5_unfold_59 : decode cX5_unfold 59 = .ok (.getfield 26, 3) := by decide +kernel
theorem dX5_unfold_62 : decode cX5_unfold 62 = .ok (.putfield 30, 3) := by decide +kernel
theorem dX5_unfold_65 : decode cX5_unfold 65 = .ok (.aload_n 0, 1) := by decide +kernel
theorem dX5_unfold_66 : decode cX5_unfold 66 = .ok (.aload_n 2, 1) := by decide +kernel
theorem dX5_unfold_67 : decode cX5_unfold 67 = .ok (.putfield 26, 3) := by decide +kernel
theorem dX5_unfold_70 : decode cX5_unfold 70 = .ok (.aload_n 0, 1) := by decide +kernel
theorem dX5_unfold_71 : decode cX5_unfold 71 = .ok (.getfield 26, 3) := by decide +kernel
theorem dX5_unfold_74 : decode cX5_unfold 74 = .ok (.getfield 76, 3) := by decide +kernel
theorem dX5_unfold_77 : decode cX5_unfold 77 = .ok (.ireturn, 1) := by decide +kernel
theorem dX5_taken_0 : decode cX5_taken 0 = .ok (.aload_n 0, 1) := by decide +kernel
theorem dX5_taken_1 : decode cX5_taken 1 = .ok (.getfield 12, 3) := by decide +kernel
theorem dX5_taken_4 : decode cX5_taken 4 = .ok (.getfield 66, 3) := by decide +kernel
theorem dX5_taken_7 : decode cX5_taken 7 = .ok (.ireturn, 1) := by decide +kernel
theorem dX5_letter_0 : decode cX5_letter 0 = .ok (.iload_n 1, 1) := by decide +kernel
theorem dX5_letter_1 : decode cX5_letter 1 = .ok (.ifCond .lt 14, 3) := by decide +kernel
theorem dX5_letter_4 : decode cX5_letter 4 = .ok (.iload_n 1, 1) := by decide +kernel
theorem dX5_letter_5 : decode cX5_letter 5 = .ok (.aload_n 0, 1) := by decide +kernel
theorem dX5_letter_6 : decode cX5_letter 6 = .ok (.getfield 26, 3) := by decide +kernel
theorem dX5_letter_9 : decode cX5_letter 9 = .ok (.getfield 76, 3) := by decide +kernel
theorem dX5_letter_12 : decode cX5_letter 12 = .ok (.if_icmp .lt 13, 3) := by decide +kernel
theorem dX5_letter_15 : decode cX5_letter 15 = .ok (.new 55, 3) := by decide +kernel
theorem dX5_letter_18 : decode cX5_letter 18 = .ok (.dup, 1) := by decide +kernel
theorem dX5_letter_19 : decode cX5_letter 19 = .ok (.ldc 77, 2) := by decide +kernel
theorem dX5_letter_21 : decode cX5_letter 21 = .ok (.invokespecial 59, 3) := by decide +kernel
theorem dX5_letter_24 : decode cX5_letter 24 = .ok (.athrow, 1) := by decide +kernel
theorem dX5_letter_25 : decode cX5_letter 25 = .ok (.aload_n 0, 1) := by decide +kernel
theorem dX5_letter_26 : decode cX5_letter 26 = .ok (.getfield 26, 3) := by decide +kernel
theorem dX5_letter_29 : decode cX5_letter 29 = .ok (.getfield 79, 3) := by decide +kernel
theorem dX5_letter_32 : decode cX5_letter 32 = .ok (.iload_n 1, 1) := by decide +kernel
theorem dX5_letter_33 : decode cX5_letter 33 = .ok (.iaload, 1) := by decide +kernel
theorem dX5_letter_34 : decode cX5_letter 34 = .ok (.ireturn, 1) := by decide +kernel
theorem dX5_count_0 : decode cX5_count 0 = .ok (.iload_n 1, 1) := by decide +kernel
theorem dX5_count_1 : decode cX5_count 1 = .ok (.ifCond .lt 9, 3) := by decide +kernel
theorem dX5_count_4 : decode cX5_count 4 = .ok (.iload_n 1, 1) := by decide +kernel
theorem dX5_count_5 : decode cX5_count 5 = .ok (.bipush 9, 2) := by decide +kernel
theorem dX5_count_7 : decode cX5_count 7 = .ok (.if_icmp .lt 13, 3) := by decide +kernel
theorem dX5_count_10 : decode cX5_count 10 = .ok (.new 33, 3) := by decide +kernel
theorem dX5_count_13 : decode cX5_count 13 = .ok (.dup, 1) := by decide +kernel
theorem dX5_count_14 : decode cX5_count 14 = .ok (.ldc 83, 2) := by decide +kernel
theorem dX5_count_16 : decode cX5_count 16 = .ok (.invokespecial 37, 3) := by decide +kernel
theorem dX5_count_19 : decode cX5_count 19 = .ok (.athrow, 1) := by decide +kernel
theorem dX5_count_20 : decode cX5_count 20 = .ok (.aload_n 0, 1) := by decide +kernel
theorem dX5_count_21 : decode cX5_count 21 = .ok (.getfield 26, 3) := by decide +kernel
theorem dX5_count_24 : decode cX5_count 24 = .ok (.getfield 85, 3) := by decide +kernel
theorem dX5_count_27 : decode cX5_count 27 = .ok (.iload_n 1, 1) := by decide +kernel
theorem dX5_count_28 : decode cX5_count 28 = .ok (.iaload, 1) := by decide +kernel
theorem dX5_count_29 : decode cX5_count 29 = .ok (.ireturn, 1) := by decide +kernel
theorem dJ7_fill_53178_0 : decode cJ7_fill_53178 0 = .ok (.iconst 0, 1) := by decide +kernel
theorem dJ7_fill_53178_1 : decode cJ7_fill_53178 1 = .ok (.istore_n 2, 1) := by decide +kernel
theorem dJ7_fill_53178_2 : decode cJ7_fill_53178 2 = .ok (.aload_n 0, 1) := by decide +kernel
theorem dJ7_fill_53178_3 : decode cJ7_fill_53178 3 = .ok (.arraylength, 1) := by decide +kernel
theorem dJ7_fill_53178_4 : decode cJ7_fill_53178 4 = .ok (.istore_n 3, 1) := by decide +kernel
theorem dJ7_fill_53178_5 : decode cJ7_fill_53178 5 = .ok (.iload_n 2, 1) := by decide +kernel
theorem dJ7_fill_53178_6 : decode cJ7_fill_53178 6 = .ok (.iload_n 3, 1) := by decide +kernel
theorem dJ7_fill_53178_7 : decode cJ7_fill_53178 7 = .ok (.if_icmp .ge 13, 3) := by decide +kernel
theorem dJ7_fill_53178_10 : decode cJ7_fill_53178 10 = .ok (.aload_n 0, 1) := by decide +kernel
theorem dJ7_fill_53178_11 : decode cJ7_fill_53178 11 = .ok (.iload_n 2, 1) := by decide +kernel
theorem dJ7_fill_53178_12 : decode cJ7_fill_53178 12 = .ok (.iload_n 1, 1) := by decide +kernel
theorem dJ7_fill_53178_13 : decode cJ7_fill_53178 13 = .ok (.iastore, 1) := by decide +kernel
theorem dJ7_fill_53178_14 : decode cJ7_fill_53178 14 = .ok (.iinc 2 1, 3) := by decide +kernel
theorem dJ7_fill_53178_17 : decode cJ7_fill_53178 17 = .ok (.goto (-12), 3) := by decide +kernel
theorem dJ7_fill_53178_20 : decode cJ7_fill_53178 20 = .ok (.return_, 1) := by decide +kernel
theorem dL_put_0 : decode cL_put 0 = .ok (.aload_n 3, 1) := by decide +kernel
theorem dL_put_1 : decode cL_put 1 = .ok (.iconst 0, 1) := by decide +kernel
theorem dL_put_2 : decode cL_put 2 = .ok (.aload_n 0, 1) := by decide +kernel
theorem dL_put_3 : decode cL_put 3 = .ok (.iload_n 1, 1) := by decide +kernel
theorem dL_put_4 : decode cL_put 4 = .ok (.iload_n 2, 1) := by decide +kernel
theorem dL_put_5 : decode cL_put 5 = .ok (.invokevirtual 7, 3) := by decide +kernel
theorem dL_put_8 : decode cL_put 8 = .ok (.i2l, 1) := by decide +kernel
theorem dL_put_9 : decode cL_put 9 = .ok (.lastore, 1) := by decide +kernel
theorem dL_put_10 : decode cL_put 10 = .ok (.goto 11, 3) := by decide +kernel
theorem dL_put_13 : decode cL_put 13 = .ok (.astore 4, 2) := by decide +kernel
theorem dL_put_15 : decode cL_put 15 = .ok (.iconst 1, 1) := by decide +kernel
theorem dL_put_16 : decode cL_put 16 = .ok (.ireturn, 1) := by decide +kernel
theorem dL_put_17 : decode cL_put 17 = .ok (.astore 4, 2) := by decide +kernel
theorem dL_put_19 : decode cL_put 19 = .ok (.iconst 2, 1) := by decide +kernel
theorem dL_put_20 : decode cL_put 20 = .ok (.ireturn, 1) := by decide +kernel
theorem dL_put_21 : decode cL_put 21 = .ok (.iconst 0, 1) := by decide +kernel
theorem dL_put_22 : decode cL_put 22 = .ok (.ireturn, 1) := by decide +kernel
theorem dL_bit_0 : decode cL_bit 0 = .ok (.aload_n 2, 1) := by decide +kernel
theorem dL_bit_1 : decode cL_bit 1 = .ok (.iconst 0, 1) := by decide +kernel
theorem dL_bit_2 : decode cL_bit 2 = .ok (.aload_n 0, 1) := by decide +kernel
theorem dL_bit_3 : decode cL_bit 3 = .ok (.iload_n 1, 1) := by decide +kernel
theorem dL_bit_4 : decode cL_bit 4 = .ok (.invokevirtual 17, 3) := by decide +kernel
theorem dL_bit_7 : decode cL_bit 7 = .ok (.ifCond .eq 7, 3) := by decide +kernel
theorem dL_bit_10 : decode cL_bit 10 = .ok (.lconst 1, 1) := by decide +kernel
theorem dL_bit_11 : decode cL_bit 11 = .ok (.goto 4, 3) := by decide +kernel
theorem dL_bit_14 : decode cL_bit 14 = .ok (.lconst 0, 1) := by decide +kernel
theorem dL_bit_15 : decode cL_bit 15 = .ok (.lastore, 1) := by decide +kernel
theorem dL_bit_16 : decode cL_bit 16 = .ok (.goto 6, 3) := by decide +kernel
theorem dL_bit_19 : decode cL_bit 19 = .ok (.astore_n 3, 1) := by decide +kernel
theorem dL_bit_20 : decode cL_bit 20 = .ok (.iconst 1, 1) := by decide +kernel
theorem dL_bit_21 : decode cL_bit 21 = .ok (.ireturn, 1) := by decide +kernel
theorem dL_bit_22 : decode cL_bit 22 = .ok (.iconst 0, 1) := by decide +kernel
theorem dL_bit_23 : decode cL_bit 23 = .ok (.ireturn, 1) := by decide +kernel
theorem dL_flip_0 : decode cL_flip 0 = .ok (.aload_n 0, 1) := by decide +kernel
theorem dL_flip_1 : decode cL_flip 1 = .ok (.iload_n 1, 1) := by decide +kernel
theorem dL_flip_2 : decode cL_flip 2 = .ok (.invokevirtual 23, 3) := by decide +kernel
theorem dL_flip_5 : decode cL_flip 5 = .ok (.goto 6, 3) := by decide +kernel
theorem dL_flip_8 : decode cL_flip 8 = .ok (.astore_n 2, 1) := by decide +kernel
theorem dL_flip_9 : decode cL_flip 9 = .ok (.iconst 1, 1) := by decide +kernel
theorem dL_flip_10 : decode cL_flip 10 = .ok (.ireturn, 1) := by decide +kernel
theorem dL_flip_11 : decode cL_flip 11 = .ok (.iconst 0, 1) := by decide +kernel
theorem dL_flip_12 : decode cL_flip 12 = .ok (.ireturn, 1) := by decide +kernel
theorem dL_cut_0 : decode cL_cut 0 = .ok (.aload_n 2, 1) := by decide +kernel
theorem dL_cut_1 : decode cL_cut 1 = .ok (.iconst 0, 1) := by decide +kernel
theorem dL_cut_2 : decode cL_cut 2 = .ok (.aload_n 0, 1) := by decide +kernel
theorem dL_cut_3 : decode cL_cut 3 = .ok (.iload_n 1, 1) := by decide +kernel
theorem dL_cut_4 : decode cL_cut 4 = .ok (.invokevirtual 27, 3) := by decide +kernel
theorem dL_cut_7 : decode cL_cut 7 = .ok (.i2l, 1) := by decide +kernel
theorem dL_cut_8 : decode cL_cut 8 = .ok (.lastore, 1) := by decide +kernel
theorem dL_cut_9 : decode cL_cut 9 = .ok (.goto 6, 3) := by decide +kernel
theorem dL_cut_12 : decode cL_cut 12 = .ok (.astore_n 3, 1) := by decide +kernel
theorem dL_cut_13 : decode cL_cut 13 = .ok (.iconst 1, 1) := by decide +kernel
theorem dL_cut_14 : decode cL_cut 14 = .ok (.ireturn, 1) := by decide +kernel
theorem dL_cut_15 : decode cL_cut 15 = .ok (.iconst 0, 1) := by decide +kernel
theorem dL_cut_16 : decode cL_cut 16 = .ok (.ireturn, 1) := by decide +kernel
theorem dL_unfold_0 : decode cL_unfold 0 = .ok (.aload_n 1, 1) := by decide +kernel
theorem dL_unfold_1 : decode cL_unfold 1 = .ok (.iconst 0, 1) := by decide +kernel
theorem dL_unfold_2 : decode cL_unfold 2 = .ok (.aload_n 0, 1) := by decide +kernel
theorem dL_unfold_3 : decode cL_unfold 3 = .ok (.invokevirtual 31, 3) := by decide +kernel
theorem dL_unfold_6 : decode cL_unfold 6 = .ok (.i2l, 1) := by decide +kernel
theorem dL_unfold_7 : decode cL_unfold 7 = .ok (.lastore, 1) := by decide +kernel
theorem dL_unfold_8 : decode cL_unfold 8 = .ok (.goto 6, 3) := by decide +kernel
theorem dL_unfold_11 : decode cL_unfold 11 = .ok (.astore_n 2, 1) := by decide +kernel
theorem dL_unfold_12 : decode cL_unfold 12 = .ok (.iconst 1, 1) := by decide +kernel
theorem dL_unfold_13 : decode cL_unfold 13 = .ok (.ireturn, 1) := by decide +kernel
theorem dL_unfold_14 : decode cL_unfold 14 = .ok (.iconst 0, 1) := by decide +kernel
theorem dL_unfold_15 : decode cL_unfold 15 = .ok (.ireturn, 1) := by decide +kernel
theorem dL_letter_0 : decode cL_letter 0 = .ok (.aload_n 2, 1) := by decide +kernel
theorem dL_letter_1 : decode cL_letter 1 = .ok (.iconst 0, 1) := by decide +kernel
theorem dL_letter_2 : decode cL_letter 2 = .ok (.aload_n 0, 1) := by decide +kernel
theorem dL_letter_3 : decode cL_letter 3 = .ok (.iload_n 1, 1) := by decide +kernel
theorem dL_letter_4 : decode cL_letter 4 = .ok (.invokevirtual 35, 3) := by decide +kernel
theorem dL_letter_7 : decode cL_letter 7 = .ok (.i2l, 1) := by decide +kernel
theorem dL_letter_8 : decode cL_letter 8 = .ok (.lastore, 1) := by decide +kernel
theorem dL_letter_9 : decode cL_letter 9 = .ok (.goto 6, 3) := by decide +kernel
theorem dL_letter_12 : decode cL_letter 12 = .ok (.astore_n 3, 1) := by decide +kernel
theorem dL_letter_13 : decode cL_letter 13 = .ok (.iconst 1, 1) := by decide +kernel
theorem dL_letter_14 : decode cL_letter 14 = .ok (.ireturn, 1) := by decide +kernel
theorem dL_letter_15 : decode cL_letter 15 = .ok (.iconst 0, 1) := by decide +kernel
theorem dL_letter_16 : decode cL_letter 16 = .ok (.ireturn, 1) := by decide +kernel
theorem dL_count_0 : decode cL_count 0 = .ok (.aload_n 2, 1) := by decide +kernel
theorem dL_count_1 : decode cL_count 1 = .ok (.iconst 0, 1) := by decide +kernel
theorem dL_count_2 : decode cL_count 2 = .ok (.aload_n 0, 1) := by decide +kernel
theorem dL_count_3 : decode cL_count 3 = .ok (.iload_n 1, 1) := by decide +kernel
theorem dL_count_4 : decode cL_count 4 = .ok (.invokevirtual 38, 3) := by decide +kernel
theorem dL_count_7 : decode cL_count 7 = .ok (.i2l, 1) := by decide +kernel
theorem dL_count_8 : decode cL_count 8 = .ok (.lastore, 1) := by decide +kernel
theorem dL_count_9 : decode cL_count 9 = .ok (.goto 6, 3) := by decide +kernel
theorem dL_count_12 : decode cL_count 12 = .ok (.astore_n 3, 1) := by decide +kernel
theorem dL_count_13 : decode cL_count 13 = .ok (.iconst 1, 1) := by decide +kernel
theorem dL_count_14 : decode cL_count 14 = .ok (.ireturn, 1) := by decide +kernel
theorem dL_count_15 : decode cL_count 15 = .ok (.iconst 0, 1) := by decide +kernel
theorem dL_count_16 : decode cL_count 16 = .ok (.ireturn, 1) := by decide +kernel
theorem dL_law_0 : decode cL_law 0 = .ok (.new 8, 3) := by decide +kernel
theorem dL_law_3 : decode cL_law 3 = .ok (.dup, 1) := by decide +kernel
theorem dL_law_4 : decode cL_law 4 = .ok (.invokespecial 41, 3) := by decide +kernel
theorem dL_law_7 : decode cL_law 7 = .ok (.astore_n 1, 1) := by decide +kernel
theorem dL_law_8 : decode cL_law 8 = .ok (.new 42, 3) := by decide +kernel
theorem dL_law_11 : decode cL_law 11 = .ok (.dup, 1) := by decide +kernel
theorem dL_law_12 : decode cL_law 12 = .ok (.invokespecial 44, 3) := by decide +kernel
theorem dL_law_15 : decode cL_law 15 = .ok (.astore_n 2, 1) := by decide +kernel
theorem dL_law_16 : decode cL_law 16 = .ok (.iconst 1, 1) := by decide +kernel
theorem dL_law_17 : decode cL_law 17 = .ok (.newarray .long, 2) := by decide +kernel
theorem dL_law_19 : decode cL_law 19 = .ok (.astore_n 3, 1) := by decide +kernel
theorem dL_law_20 : decode cL_law 20 = .ok (.iconst 0, 1) := by decide +kernel
theorem dL_law_21 : decode cL_law 21 = .ok (.istore 4, 2) := by decide +kernel
theorem dL_law_23 : decode cL_law 23 = .ok (.iload 4, 2) := by decide +kernel
theorem dL_law_25 : decode cL_law 25 = .ok (.aload_n 0, 1) := by decide +kernel
theorem dL_law_26 : decode cL_law 26 = .ok (.arraylength, 1) := by decide +kernel
theorem dL_law_27 : decode cL_law 27 = .ok (.iconst 3, 1) := by decide +kernel
theorem dL_law_28 : decode cL_law 28 = .ok (.isub, 1) := by decide +kernel
theorem dL_law_29 : decode cL_law 29 = .ok (.if_icmp .gt 453, 3) := by decide +kernel
theorem dL_law_32 : decode cL_law 32 = .ok (.aload_n 0, 1) := by decide +kernel
theorem dL_law_33 : decode cL_law 33 = .ok (.iload 4, 2) := by decide +kernel
theorem dL_law_35 : decode cL_law 35 = .ok (.iaload, 1) := by decide +kernel
theorem dL_law_36 : decode cL_law 36 = .ok (.bipush 7, 2) := by decide +kernel
theorem dL_law_38 : decode cL_law 38 = .ok (.iand, 1) := by decide +kernel
theorem dL_law_39 : decode cL_law 39 = .ok (.tableswitch 437 0 7 #[45, 113, 176, 212, 268, 312, 325, 381], 45) := by decide +kernel
theorem dL_law_84 : decode cL_law 84 = .ok (.aload_n 1, 1) := by decide +kernel
theorem dL_law_85 : decode cL_law 85 = .ok (.aload_n 0, 1) := by decide +kernel
theorem dL_law_86 : decode cL_law 86 = .ok (.iload 4, 2) := by decide +kernel
theorem dL_law_88 : decode cL_law 88 = .ok (.iconst 1, 1) := by decide +kernel
theorem dL_law_89 : decode cL_law 89 = .ok (.iadd, 1) := by decide +kernel
theorem dL_law_90 : decode cL_law 90 = .ok (.iaload, 1) := by decide +kernel
theorem dL_law_91 : decode cL_law 91 = .ok (.aload_n 0, 1) := by decide +kernel
theorem dL_law_92 : decode cL_law 92 = .ok (.iload 4, 2) := by decide +kernel
theorem dL_law_94 : decode cL_law 94 = .ok (.iconst 2, 1) := by decide +kernel
theorem dL_law_95 : decode cL_law 95 = .ok (.iadd, 1) := by decide +kernel
theorem dL_law_96 : decode cL_law 96 = .ok (.iaload, 1) := by decide +kernel
theorem dL_law_97 : decode cL_law 97 = .ok (.aload_n 3, 1) := by decide +kernel
theorem dL_law_98 : decode cL_law 98 = .ok (.invokestatic 45, 3) := by decide +kernel
theorem dL_law_101 : decode cL_law 101 = .ok (.istore 5, 2) := by decide +kernel
theorem dL_law_103 : decode cL_law 103 = .ok (.aload_n 2, 1) := by decide +kernel
theorem dL_law_104 : decode cL_law 104 = .ok (.aload_n 0, 1) := by decide +kernel
theorem dL_law_105 : decode cL_law 105 = .ok (.iload 4, 2) := by decide +kernel
theorem dL_law_107 : decode cL_law 107 = .ok (.iconst 1, 1) := by decide +kernel
theorem dL_law_108 : decode cL_law 108 = .ok (.iadd, 1) := by decide +kernel
theorem dL_law_109 : decode cL_law 109 = .ok (.iaload, 1) := by decide +kernel
theorem dL_law_110 : decode cL_law 110 = .ok (.aload_n 0, 1) := by decide +kernel
theorem dL_law_111 : decode cL_law 111 = .ok (.iload 4, 2) := by decide +kernel
theorem dL_law_113 : decode cL_law 113 = .ok (.iconst 2, 1) := by decide +kernel
theorem dL_law_114 : decode cL_law 114 = .ok (.iadd, 1) := by decide +kernel
theorem dL_law_115 : decode cL_law 115 = .ok (.iaload, 1) := by decide +kernel
theorem dL_law_116 : decode cL_law 116 = .ok (.invokevirtual 50, 3) := by decide +kernel
theorem dL_law_119 : decode cL_law 119 = .ok (.istore 6, 2) := by decide +kernel
theorem dL_law_121 : decode cL_law 121 = .ok (.aload_n 2, 1) := by decide +kernel
theorem dL_law_122 : decode cL_law 122 = .ok (.invokevirtual 51, 3) := by decide +kernel
theorem dL_law_125 : decode cL_law 125 = .ok (.iload 5, 2) := by decide +kernel
theorem dL_law_127 : decode cL_law 127 = .ok (.if_icmp .eq 5, 3) := by decide +kernel
theorem dL_law_130 : decode cL_law 130 = .ok (.iconst 0, 1) := by decide +kernel
theorem dL_law_131 : decode cL_law 131 = .ok (.ireturn, 1) := by decide +kernel
theorem dL_law_132 : decode cL_law 132 = .ok (.iload 5, 2) := by decide +kernel
theorem dL_law_134 : decode cL_law 134 = .ok (.ifCond .ne 15, 3) := by decide +kernel
theorem dL_law_137 : decode cL_law 137 = .ok (.aload_n 3, 1) := by decide +kernel
theorem dL_law_138 : decode cL_law 138 = .ok (.iconst 0, 1) := by decide +kernel
theorem dL_law_139 : decode cL_law 139 = .ok (.laload, 1) := by decide +kernel
theorem dL_law_140 : decode cL_law 140 = .ok (.iload 6, 2) := by decide +kernel
theorem dL_law_142 : decode cL_law 142 = .ok (.i2l, 1) := by decide +kernel
theorem dL_law_143 : decode cL_law 143 = .ok (.lcmp, 1) := by decide +kernel
theorem dL_law_144 : decode cL_law 144 = .ok (.ifCond .eq 5, 3) := by decide +kernel
theorem dL_law_147 : decode cL_law 147 = .ok (.iconst 0, 1) := by decide +kernel
theorem dL_law_148 : decode cL_law 148 = .ok (.ireturn, 1) := by decide +kernel
theorem dL_law_149 : decode cL_law 149 = .ok (.goto 327, 3) := by decide +kernel
theorem dL_law_152 : decode cL_law 152 = .ok (.aload_n 1, 1) := by decide +kernel
theorem dL_law_153 : decode cL_law 153 = .ok (.aload_n 0, 1) := by decide +kernel
theorem dL_law_154 : decode cL_law 154 = .ok (.iload 4, 2) := by decide +kernel
theorem dL_law_156 : decode cL_law 156 = .ok (.iconst 1, 1) := by decide +kernel
theorem dL_law_157 : decode cL_law 157 = .ok (.iadd, 1) := by decide +kernel
theorem dL_law_158 : decode cL_law 158 = .ok (.iaload, 1) := by decide +kernel
theorem dL_law_159 : decode cL_law 159 = .ok (.aload_n 3, 1) := by decide +kernel
theorem dL_law_160 : decode cL_law 160 = .ok (.invokestatic 54, 3) := by decide +kernel
theorem dL_law_163 : decode cL_law 163 = .ok (.istore 5, 2) := by decide +kernel
theorem dL_law_165 : decode cL_law 165 = .ok (.aload_n 2, 1) := by decide +kernel
theorem dL_law_166 : decode cL_law 166 = .ok (.aload_n 0, 1) := by decide +kernel
theorem dL_law_167 : decode cL_law 167 = .ok (.iload 4, 2) := by decide +kernel
theorem dL_law_169 : decode cL_law 169 = .ok (.iconst 1, 1) := by decide +kernel
theorem dL_law_170 : decode cL_law 170 = .ok (.iadd, 1) := by decide +kernel
theorem dL_law_171 : decode cL_law 171 = .ok (.iaload, 1) := by decide +kernel
theorem dL_law_172 : decode cL_law 172 = .ok (.invokevirtual 57, 3) := by decide +kernel
theorem dL_law_175 : decode cL_law 175 = .ok (.istore 6, 2) := by decide +kernel
theorem dL_law_177 : decode cL_law 177 = .ok (.aload_n 2, 1) := by decide +kernel
theorem dL_law_178 : decode cL_law 178 = .ok (.invokevirtual 51, 3) := by decide +kernel
theorem dL_law_181 : decode cL_law 181 = .ok (.iload 5, 2) := by decide +kernel
theorem dL_law_183 : decode cL_law 183 = .ok (.if_icmp .eq 5, 3) := by decide +kernel
theorem dL_law_186 : decode cL_law 186 = .ok (.iconst 0, 1) := by decide +kernel
theorem dL_law_187 : decode cL_law 187 = .ok (.ireturn, 1) := by decide +kernel
theorem dL_law_188 : decode cL_law 188 = .ok (.iload 5, 2) := by decide +kernel
theorem dL_law_190 : decode cL_law 190 = .ok (.ifCond .ne 22, 3) := by decide +kernel
theorem dL_law_193 : decode cL_law 193 = .ok (.aload_n 3, 1) := by decide +kernel
theorem dL_law_194 : decode cL_law 194 = .ok (.iconst 0, 1) := by decide +kernel
theorem dL_law_195 : decode cL_law 195 = .ok (.laload, 1) := by decide +kernel
theorem dL_law_196 : decode cL_law 196 = .ok (.iload 6, 2) := by decide +kernel
theorem dL_law_198 : decode cL_law 198 = .ok (.ifCond .eq 7, 3) := by decide +kernel
theorem dL_law_201 : decode cL_law 201 = .ok (.lconst 1, 1) := by decide +kernel
theorem dL_law_202 : decode cL_law 202 = .ok (.goto 4, 3) := by decide +kernel
theorem dL_law_205 : decode cL_law 205 = .ok (.lconst 0, 1) := by decide +kernel
theorem dL_law_206 : decode cL_law 206 = .ok (.lcmp, 1) := by decide +kernel
theorem dL_law_207 : decode cL_law 207 = .ok (.ifCond .eq 5, 3) := by decide +kernel
theorem dL_law_210 : decode cL_law 210 = .ok (.iconst 0, 1) := by decide +kernel
theorem dL_law_211 : decode cL_law 211 = .ok (.ireturn, 1) := by decide +kernel
theorem dL_law_212 : decode cL_law 212 = .ok (.goto 264, 3) := by decide +kernel
theorem dL_law_215 : decode cL_law 215 = .ok (.aload_n 1, 1) := by decide +kernel
theorem dL_law_216 : decode cL_law 216 = .ok (.aload_n 0, 1) := by decide +kernel
theorem dL_law_217 : decode cL_law 217 = .ok (.iload 4, 2) := by decide +kernel
theorem dL_law_219 : decode cL_law 219 = .ok (.iconst 1, 1) := by decide +kernel
theorem dL_law_220 : decode cL_law 220 = .ok (.iadd, 1) := by decide +kernel
theorem dL_law_221 : decode cL_law 221 = .ok (.iaload, 1) := by decide +kernel
theorem dL_law_222 : decode cL_law 222 = .ok (.invokestatic 58, 3) := by decide +kernel
theorem dL_law_225 : decode cL_law 225 = .ok (.istore 5, 2) := by decide +kernel
theorem dL_law_227 : decode cL_law 227 = .ok (.aload_n 2, 1) := by decide +kernel
theorem dL_law_228 : decode cL_law 228 = .ok (.aload_n 0, 1) := by decide +kernel
theorem dL_law_229 : decode cL_law 229 = .ok (.iload 4, 2) := by decide +kernel
theorem dL_law_231 : decode cL_law 231 = .ok (.iconst 1, 1) := by decide +kernel
theorem dL_law_232 : decode cL_law 232 = .ok (.iadd, 1) := by decide +kernel
theorem dL_law_233 : decode cL_law 233 = .ok (.iaload, 1) := by decide +kernel
theorem dL_law_234 : decode cL_law 234 = .ok (.invokevirtual 61, 3) := by decide +kernel
theorem dL_law_237 : decode cL_law 237 = .ok (.aload_n 2, 1) := by decide +kernel
theorem dL_law_238 : decode cL_law 238 = .ok (.invokevirtual 51, 3) := by decide +kernel
theorem dL_law_241 : decode cL_law 241 = .ok (.iload 5, 2) := by decide +kernel
theorem dL_law_243 : decode cL_law 243 = .ok (.if_icmp .eq 5, 3) := by decide +kernel
theorem dL_law_246 : decode cL_law 246 = .ok (.iconst 0, 1) := by decide +kernel
theorem dL_law_247 : decode cL_law 247 = .ok (.ireturn, 1) := by decide +kernel
theorem dL_law_248 : decode cL_law 248 = .ok (.goto 228, 3) := by decide +kernel
theorem dL_law_251 : decode cL_law 251 = .ok (.aload_n 1, 1) := by decide +kernel
theorem dL_law_252 : decode cL_law 252 = .ok (.aload_n 0, 1) := by decide +kernel
theorem dL_law_253 : decode cL_law 253 = .ok (.iload 4, 2) := by decide +kernel
theorem dL_law_255 : decode cL_law 255 = .ok (.iconst 1, 1) := by decide +kernel
theorem dL_law_256 : decode cL_law 256 = .ok (.iadd, 1) := by decide +kernel
theorem dL_law_257 : decode cL_law 257 = .ok (.iaload, 1) := by decide +kernel
theorem dL_law_258 : decode cL_law 258 = .ok (.aload_n 3, 1) := by decide +kernel
theorem dL_law_259 : decode cL_law 259 = .ok (.invokestatic 62, 3) := by decide +kernel
theorem dL_law_262 : decode cL_law 262 = .ok (.istore 5, 2) := by decide +kernel
theorem dL_law_264 : decode cL_law 264 = .ok (.aload_n 2, 1) := by decide +kernel
theorem dL_law_265 : decode cL_law 265 = .ok (.aload_n 0, 1) := by decide +kernel
theorem dL_law_266 : decode cL_law 266 = .ok (.iload 4, 2) := by decide +kernel
theorem dL_law_268 : decode cL_law 268 = .ok (.iconst 1, 1) := by decide +kernel
theorem dL_law_269 : decode cL_law 269 = .ok (.iadd, 1) := by decide +kernel
theorem dL_law_270 : decode cL_law 270 = .ok (.iaload, 1) := by decide +kernel
theorem dL_law_271 : decode cL_law 271 = .ok (.invokevirtual 64, 3) := by decide +kernel
theorem dL_law_274 : decode cL_law 274 = .ok (.istore 6, 2) := by decide +kernel
theorem dL_law_276 : decode cL_law 276 = .ok (.aload_n 2, 1) := by decide +kernel
theorem dL_law_277 : decode cL_law 277 = .ok (.invokevirtual 51, 3) := by decide +kernel
theorem dL_law_280 : decode cL_law 280 = .ok (.iload 5, 2) := by decide +kernel
theorem dL_law_282 : decode cL_law 282 = .ok (.if_icmp .eq 5, 3) := by decide +kernel
theorem dL_law_285 : decode cL_law 285 = .ok (.iconst 0, 1) := by decide +kernel
theorem dL_law_286 : decode cL_law 286 = .ok (.ireturn, 1) := by decide +kernel
theorem dL_law_287 : decode cL_law 287 = .ok (.iload 5, 2) := by decide +kernel
theorem dL_law_289 : decode cL_law 289 = .ok (.ifCond .ne 15, 3) := by decide +kernel
theorem dL_law_292 : decode cL_law 292 = .ok (.aload_n 3, 1) := by decide +kernel
theorem dL_law_293 : decode cL_law 293 = .ok (.iconst 0, 1) := by decide +kernel
theorem dL_law_294 : decode cL_law 294 = .ok (.laload, 1) := by decide +kernel
theorem dL_law_295 : decode cL_law 295 = .ok (.iload 6, 2) := by decide +kernel
theorem dL_law_297 : decode cL_law 297 = .ok (.i2l, 1) := by decide +kernel
theorem dL_law_298 : decode cL_law 298 = .ok (.lcmp, 1) := by decide +kernel
theorem dL_law_299 : decode cL_law 299 = .ok (.ifCond .eq 5, 3) := by decide +kernel
theorem dL_law_302 : decode cL_law 302 = .ok (.iconst 0, 1) := by decide +kernel
theorem dL_law_303 : decode cL_law 303 = .ok (.ireturn, 1) := by decide +kernel
theorem dL_law_304 : decode cL_law 304 = .ok (.goto 172, 3) := by decide +kernel
theorem dL_law_307 : decode cL_law 307 = .ok (.aload_n 1, 1) := by decide +kernel
theorem dL_law_308 : decode cL_law 308 = .ok (.aload_n 3, 1) := by decide +kernel
theorem dL_law_309 : decode cL_law 309 = .ok (.invokestatic 65, 3) := by decide +kernel
theorem dL_law_312 : decode cL_law 312 = .ok (.istore 5, 2) := by decide +kernel
theorem dL_law_314 : decode cL_law 314 = .ok (.aload_n 2, 1) := by decide +kernel
theorem dL_law_315 : decode cL_law 315 = .ok (.invokevirtual 68, 3) := by decide +kernel
theorem dL_law_318 : decode cL_law 318 = .ok (.istore 6, 2) := by decide +kernel
theorem dL_law_320 : decode cL_law 320 = .ok (.aload_n 2, 1) := by decide +kernel
theorem dL_law_321 : decode cL_law 321 = .ok (.invokevirtual 51, 3) := by decide +kernel
theorem dL_law_324 : decode cL_law 324 = .ok (.iload 5, 2) := by decide +kernel
theorem dL_law_326 : decode cL_law 326 = .ok (.if_icmp .eq 5, 3) := by decide +kernel
theorem dL_law_329 : decode cL_law 329 = .ok (.iconst 0, 1) := by decide +kernel
theorem dL_law_330 : decode cL_law 330 = .ok (.ireturn, 1) := by decide +kernel
theorem dL_law_331 : decode cL_law 331 = .ok (.iload 5, 2) := by decide +kernel
theorem dL_law_333 : decode cL_law 333 = .ok (.ifCond .ne 15, 3) := by decide +kernel
theorem dL_law_336 : decode cL_law 336 = .ok (.aload_n 3, 1) := by decide +kernel
theorem dL_law_337 : decode cL_law 337 = .ok (.iconst 0, 1) := by decide +kernel
theorem dL_law_338 : decode cL_law 338 = .ok (.laload, 1) := by decide +kernel
theorem dL_law_339 : decode cL_law 339 = .ok (.iload 6, 2) := by decide +kernel
theorem dL_law_341 : decode cL_law 341 = .ok (.i2l, 1) := by decide +kernel
theorem dL_law_342 : decode cL_law 342 = .ok (.lcmp, 1) := by decide +kernel
theorem dL_law_343 : decode cL_law 343 = .ok (.ifCond .eq 5, 3) := by decide +kernel
theorem dL_law_346 : decode cL_law 346 = .ok (.iconst 0, 1) := by decide +kernel
theorem dL_law_347 : decode cL_law 347 = .ok (.ireturn, 1) := by decide +kernel
theorem dL_law_348 : decode cL_law 348 = .ok (.goto 128, 3) := by decide +kernel
theorem dL_law_351 : decode cL_law 351 = .ok (.aload_n 1, 1) := by decide +kernel
theorem dL_law_352 : decode cL_law 352 = .ok (.invokevirtual 69, 3) := by decide +kernel
theorem dL_law_355 : decode cL_law 355 = .ok (.aload_n 2, 1) := by decide +kernel
theorem dL_law_356 : decode cL_law 356 = .ok (.invokevirtual 72, 3) := by decide +kernel
theorem dL_law_359 : decode cL_law 359 = .ok (.if_icmp .eq 117, 3) := by decide +kernel
theorem dL_law_362 : decode cL_law 362 = .ok (.iconst 0, 1) := by decide +kernel
theorem dL_law_363 : decode cL_law 363 = .ok (.ireturn, 1) := by decide +kernel
theorem dL_law_364 : decode cL_law 364 = .ok (.aload_n 1, 1) := by decide +kernel
theorem dL_law_365 : decode cL_law 365 = .ok (.aload_n 0, 1) := by decide +kernel
theorem dL_law_366 : decode cL_law 366 = .ok (.iload 4, 2) := by decide +kernel
theorem dL_law_368 : decode cL_law 368 = .ok (.iconst 1, 1) := by decide +kernel
theorem dL_law_369 : decode cL_law 369 = .ok (.iadd, 1) := by decide +kernel
theorem dL_law_370 : decode cL_law 370 = .ok (.iaload, 1) := by decide +kernel
theorem dL_law_371 : decode cL_law 371 = .ok (.aload_n 3, 1) := by decide +kernel
theorem dL_law_372 : decode cL_law 372 = .ok (.invokestatic 73, 3) := by decide +kernel
theorem dL_law_375 : decode cL_law 375 = .ok (.istore 5, 2) := by decide +kernel
theorem dL_law_377 : decode cL_law 377 = .ok (.aload_n 2, 1) := by decide +kernel
theorem dL_law_378 : decode cL_law 378 = .ok (.aload_n 0, 1) := by decide +kernel
theorem dL_law_379 : decode cL_law 379 = .ok (.iload 4, 2) := by decide +kernel
theorem dL_law_381 : decode cL_law 381 = .ok (.iconst 1, 1) := by decide +kernel
theorem dL_law_382 : decode cL_law 382 = .ok (.iadd, 1) := by decide +kernel
theorem dL_law_383 : decode cL_law 383 = .ok (.iaload, 1) := by decide +kernel
theorem dL_law_384 : decode cL_law 384 = .ok (.invokevirtual 75, 3) := by decide +kernel
theorem dL_law_387 : decode cL_law 387 = .ok (.istore 6, 2) := by decide +kernel
theorem dL_law_389 : decode cL_law 389 = .ok (.aload_n 2, 1) := by decide +kernel
theorem dL_law_390 : decode cL_law 390 = .ok (.invokevirtual 51, 3) := by decide +kernel
theorem dL_law_393 : decode cL_law 393 = .ok (.iload 5, 2) := by decide +kernel
theorem dL_law_395 : decode cL_law 395 = .ok (.if_icmp .eq 5, 3) := by decide +kernel
theorem dL_law_398 : decode cL_law 398 = .ok (.iconst 0, 1) := by decide +kernel
theorem dL_law_399 : decode cL_law 399 = .ok (.ireturn, 1) := by decide +kernel
theorem dL_law_400 : decode cL_law 400 = .ok (.iload 5, 2) := by decide +kernel
theorem dL_law_402 : decode cL_law 402 = .ok (.ifCond .ne 15, 3) := by decide +kernel
theorem dL_law_405 : decode cL_law 405 = .ok (.aload_n 3, 1) := by decide +kernel
theorem dL_law_406 : decode cL_law 406 = .ok (.iconst 0, 1) := by decide +kernel
theorem dL_law_407 : decode cL_law 407 = .ok (.laload, 1) := by decide +kernel
theorem dL_law_408 : decode cL_law 408 = .ok (.iload 6, 2) := by decide +kernel
theorem dL_law_410 : decode cL_law 410 = .ok (.i2l, 1) := by decide +kernel
theorem dL_law_411 : decode cL_law 411 = .ok (.lcmp, 1) := by decide +kernel
theorem dL_law_412 : decode cL_law 412 = .ok (.ifCond .eq 5, 3) := by decide +kernel
theorem dL_law_415 : decode cL_law 415 = .ok (.iconst 0, 1) := by decide +kernel
theorem dL_law_416 : decode cL_law 416 = .ok (.ireturn, 1) := by decide +kernel
theorem dL_law_417 : decode cL_law 417 = .ok (.goto 59, 3) := by decide +kernel
theorem dL_law_420 : decode cL_law 420 = .ok (.aload_n 1, 1) := by decide +kernel
theorem dL_law_421 : decode cL_law 421 = .ok (.aload_n 0, 1) := by decide +kernel
theorem dL_law_422 : decode cL_law 422 = .ok (.iload 4, 2) := by decide +kernel
theorem dL_law_424 : decode cL_law 424 = .ok (.iconst 1, 1) := by decide +kernel
theorem dL_law_425 : decode cL_law 425 = .ok (.iadd, 1) := by decide +kernel
theorem dL_law_426 : decode cL_law 426 = .ok (.iaload, 1) := by decide +kernel
theorem dL_law_427 : decode cL_law 427 = .ok (.aload_n 3, 1) := by decide +kernel
theorem dL_law_428 : decode cL_law 428 = .ok (.invokestatic 76, 3) := by decide +kernel
theorem dL_law_431 : decode cL_law 431 = .ok (.istore 5, 2) := by decide +kernel
theorem dL_law_433 : decode cL_law 433 = .ok (.aload_n 2, 1) := by decide +kernel
theorem dL_law_434 : decode cL_law 434 = .ok (.aload_n 0, 1) := by decide +kernel
theorem dL_law_435 : decode cL_law 435 = .ok (.iload 4, 2) := by decide +kernel
theorem dL_law_437 : decode cL_law 437 = .ok (.iconst 1, 1) := by decide +kernel
theorem dL_law_438 : decode cL_law 438 = .ok (.iadd, 1) := by decide +kernel
theorem dL_law_439 : decode cL_law 439 = .ok (.iaload, 1) := by decide +kernel
theorem dL_law_440 : decode cL_law 440 = .ok (.invokevirtual 78, 3) := by decide +kernel
theorem dL_law_443 : decode cL_law 443 = .ok (.istore 6, 2) := by decide +kernel
theorem dL_law_445 : decode cL_law 445 = .ok (.aload_n 2, 1) := by decide +kernel
theorem dL_law_446 : decode cL_law 446 = .ok (.invokevirtual 51, 3) := by decide +kernel
theorem dL_law_449 : decode cL_law 449 = .ok (.iload 5, 2) := by decide +kernel
theorem dL_law_451 : decode cL_law 451 = .ok (.if_icmp .eq 5, 3) := by decide +kernel
theorem dL_law_454 : decode cL_law 454 = .ok (.iconst 0, 1) := by decide +kernel
theorem dL_law_455 : decode cL_law 455 = .ok (.ireturn, 1) := by decide +kernel
theorem dL_law_456 : decode cL_law 456 = .ok (.iload 5, 2) := by decide +kernel
theorem dL_law_458 : decode cL_law 458 = .ok (.ifCond .ne 15, 3) := by decide +kernel
theorem dL_law_461 : decode cL_law 461 = .ok (.aload_n 3, 1) := by decide +kernel
theorem dL_law_462 : decode cL_law 462 = .ok (.iconst 0, 1) := by decide +kernel
theorem dL_law_463 : decode cL_law 463 = .ok (.laload, 1) := by decide +kernel
theorem dL_law_464 : decode cL_law 464 = .ok (.iload 6, 2) := by decide +kernel
theorem dL_law_466 : decode cL_law 466 = .ok (.i2l, 1) := by decide +kernel
theorem dL_law_467 : decode cL_law 467 = .ok (.lcmp, 1) := by decide +kernel
theorem dL_law_468 : decode cL_law 468 = .ok (.ifCond .eq 5, 3) := by decide +kernel
theorem dL_law_471 : decode cL_law 471 = .ok (.iconst 0, 1) := by decide +kernel
theorem dL_law_472 : decode cL_law 472 = .ok (.ireturn, 1) := by decide +kernel
theorem dL_law_473 : decode cL_law 473 = .ok (.goto 3, 3) := by decide +kernel
theorem dL_law_476 : decode cL_law 476 = .ok (.iinc 4 3, 3) := by decide +kernel
theorem dL_law_479 : decode cL_law 479 = .ok (.goto (-456), 3) := by decide +kernel
theorem dL_law_482 : decode cL_law 482 = .ok (.iconst 1, 1) := by decide +kernel
theorem dL_law_483 : decode cL_law 483 = .ok (.ireturn, 1) := by decide +kernel
