theorem dX6_init_0 : decode cX6_init 0 = .ok (.aload_n 0, 1) := by decide +kernel
theorem dX6_init_1 : decode cX6_init 1 = .ok (.invokespecial 1, 3) := by decide +kernel
theorem dX6_init_4 : decode cX6_init 4 = .ok (.aload_n 0, 1) := by decide +kernel
theorem dX6_init_5 : decode cX6_init 5 = .ok (.sipush 2000, 3) := by decide +kernel
theorem dX6_init_8 : decode cX6_init 8 = .ok (.newarray .boolean, 2) := by decide +kernel
theorem dX6_init_10 : decode cX6_init 10 = .ok (.putfield 7, 3) := by decide +kernel
theorem dX6_init_13 : decode cX6_init 13 = .ok (.aload_n 0, 1) := by decide +kernel
theorem dX6_init_14 : decode cX6_init 14 = .ok (.sipush 400, 3) := by decide +kernel
theorem dX6_init_17 : decode cX6_init 17 = .ok (.newarray .int, 2) := by decide +kernel
theorem dX6_init_19 : decode cX6_init 19 = .ok (.putfield 13, 3) := by decide +kernel
theorem dX6_init_22 : decode cX6_init 22 = .ok (.aload_n 0, 1) := by decide +kernel
theorem dX6_init_23 : decode cX6_init 23 = .ok (.sipush 400, 3) := by decide +kernel
theorem dX6_init_26 : decode cX6_init 26 = .ok (.newarray .int, 2) := by decide +kernel
theorem dX6_init_28 : decode cX6_init 28 = .ok (.putfield 17, 3) := by decide +kernel
theorem dX6_init_31 : decode cX6_init 31 = .ok (.aload_n 0, 1) := by decide +kernel
theorem dX6_init_32 : decode cX6_init 32 = .ok (.bipush 9, 2) := by decide +kernel
theorem dX6_init_34 : decode cX6_init 34 = .ok (.newarray .int, 2) := by decide +kernel
theorem dX6_init_36 : decode cX6_init 36 = .ok (.putfield 20, 3) := by decide +kernel
theorem dX6_init_39 : decode cX6_init 39 = .ok (.aload_n 0, 1) := by decide +kernel
theorem dX6_init_40 : decode cX6_init 40 = .ok (.bipush 9, 2) := by decide +kernel
theorem dX6_init_42 : decode cX6_init 42 = .ok (.newarray .int, 2) := by decide +kernel
theorem dX6_init_44 : decode cX6_init 44 = .ok (.putfield 23, 3) := by decide +kernel
theorem dX6_init_47 : decode cX6_init 47 = .ok (.aload_n 0, 1) := by decide +kernel
theorem dX6_init_48 : decode cX6_init 48 = .ok (.sipush 224, 3) := by decide +kernel
theorem dX6_init_51 : decode cX6_init 51 = .ok (.newarray .int, 2) := by decide +kernel
theorem dX6_init_53 : decode cX6_init 53 = .ok (.putfield 26, 3) := by decide +kernel
theorem dX6_init_56 : decode cX6_init 56 = .ok (.aload_n 0, 1) := by decide +kernel
theorem dX6_init_57 : decode cX6_init 57 = .ok (.bipush 7, 2) := by decide +kernel
theorem dX6_init_59 : decode cX6_init 59 = .ok (.newarray .int, 2) := by decide +kernel
theorem dX6_init_61 : decode cX6_init 61 = .ok (.putfield 29, 3) := by decide +kernel
theorem dX6_init_64 : decode cX6_init 64 = .ok (.aload_n 0, 1) := by decide +kernel
theorem dX6_init_65 : decode cX6_init 65 = .ok (.iconst 4, 1) := by decide +kernel
theorem dX6_init_66 : decode cX6_init 66 = .ok (.newarray .int, 2) := by decide +kernel
theorem dX6_init_68 : decode cX6_init 68 = .ok (.putfield 32, 3) := by decide +kernel
theorem dX6_init_71 : decode cX6_init 71 = .ok (.aload_n 0, 1) := by decide +kernel
theorem dX6_init_72 : decode cX6_init 72 = .ok (.iconst 3, 1) := by decide +kernel
theorem dX6_init_73 : decode cX6_init 73 = .ok (.newarray .int, 2) := by decide +kernel
theorem dX6_init_75 : decode cX6_init 75 = .ok (.putfield 35, 3) := by decide +kernel
theorem dX6_init_78 : decode cX6_init 78 = .ok (.aload_n 0, 1) := by decide +kernel
theorem dX6_init_79 : decode cX6_init 79 = .ok (.bipush 12, 2) := by decide +kernel
theorem dX6_init_81 : decode cX6_init 81 = .ok (.newarray .int, 2) := by decide +kernel
theorem dX6_init_83 : decode cX6_init 83 = .ok (.putfield 38, 3) := by decide +kernel
theorem dX6_init_86 : decode cX6_init 86 = .ok (.aload_n 0, 1) := by decide +kernel
theorem dX6_init_87 : decode cX6_init 87 = .ok (.iconst 4, 1) := by decide +kernel
theorem dX6_init_88 : decode cX6_init 88 = .ok (.newarray .int, 2) := by decide +kernel
theorem dX6_init_90 : decode cX6_init 90 = .ok (.putfield 41, 3) := by decide +kernel
theorem dX6_init_93 : decode cX6_init 93 = .ok (.aload_n 0, 1) := by decide +kernel
theorem dX6_init_94 : decode cX6_init 94 = .ok (.aload_n 0, 1) := by decide +kernel
theorem dX6_init_95 : decode cX6_init 95 = .ok (.getfield 20, 3) := by decide +kernel
theorem dX6_init_98 : decode cX6_init 98 = .ok (.invokevirtual 44, 3) := by decide +kernel
theorem dX6_init_101 : decode cX6_init 101 = .ok (.return_, 1) := by decide +kernel
theorem dX6_thrown_0 : decode cX6_thrown 0 = .ok (.aload_n 0, 1) := by decide +kernel
theorem dX6_thrown_1 : decode cX6_thrown 1 = .ok (.getfield 48, 3) := by decide +kernel
theorem dX6_thrown_4 : decode cX6_thrown 4 = .ok (.ireturn, 1) := by decide +kernel
theorem dX6_first_0 : decode cX6_first 0 = .ok (.iconst 0, 1) := by decide +kernel
theorem dX6_first_1 : decode cX6_first 1 = .ok (.istore_n 2, 1) := by decide +kernel
theorem dX6_first_2 : decode cX6_first 2 = .ok (.iload_n 2, 1) := by decide +kernel
theorem dX6_first_3 : decode cX6_first 3 = .ok (.iconst 5, 1) := by decide +kernel
theorem dX6_first_4 : decode cX6_first 4 = .ok (.if_icmp .ge 13, 3) := by decide +kernel
theorem dX6_first_7 : decode cX6_first 7 = .ok (.aload_n 1, 1) := by decide +kernel
theorem dX6_first_8 : decode cX6_first 8 = .ok (.iload_n 2, 1) := by decide +kernel
theorem dX6_first_9 : decode cX6_first 9 = .ok (.iconst 0, 1) := by decide +kernel
theorem dX6_first_10 : decode cX6_first 10 = .ok (.iastore, 1) := by decide +kernel
theorem dX6_first_11 : decode cX6_first 11 = .ok (.iinc 2 1, 3) := by decide +kernel
theorem dX6_first_14 : decode cX6_first 14 = .ok (.goto (-12), 3) := by decide +kernel
theorem dX6_first_17 : decode cX6_first 17 = .ok (.aload_n 1, 1) := by decide +kernel
theorem dX6_first_18 : decode cX6_first 18 = .ok (.iconst 5, 1) := by decide +kernel
theorem dX6_first_19 : decode cX6_first 19 = .ok (.iconst 4, 1) := by decide +kernel
theorem dX6_first_20 : decode cX6_first 20 = .ok (.iastore, 1) := by decide +kernel
theorem dX6_first_21 : decode cX6_first 21 = .ok (.aload_n 1, 1) := by decide +kernel
theorem dX6_first_22 : decode cX6_first 22 = .ok (.bipush 6, 2) := by decide +kernel
theorem dX6_first_24 : decode cX6_first 24 = .ok (.bipush 11, 2) := by decide +kernel
theorem dX6_first_26 : decode cX6_first 26 = .ok (.iastore, 1) := by decide +kernel
theorem dX6_first_27 : decode cX6_first 27 = .ok (.aload_n 1, 1) := by decide +kernel
theorem dX6_first_28 : decode cX6_first 28 = .ok (.bipush 7, 2) := by decide +kernel
theorem dX6_first_30 : decode cX6_first 30 = .ok (.bipush 15, 2) := by decide +kernel
theorem dX6_first_32 : decode cX6_first 32 = .ok (.iastore, 1) := by decide +kernel
theorem dX6_first_33 : decode cX6_first 33 = .ok (.aload_n 1, 1) := by decide +kernel
theorem dX6_first_34 : decode cX6_first 34 = .ok (.bipush 8, 2) := by decide +kernel
theorem dX6_first_36 : decode cX6_first 36 = .ok (.bipush 16, 2) := by decide +kernel
theorem dX6_first_38 : decode cX6_first 38 = .ok (.iastore, 1) := by decide +kernel
theorem dX6_first_39 : decode cX6_first 39 = .ok (.return_, 1) := by decide +kernel
theorem dX6_put_0 : decode cX6_put 0 = .ok (.iload_n 2, 1) := by decide +kernel
theorem dX6_put_1 : decode cX6_put 1 = .ok (.ifCond .lt 13, 3) := by decide +kernel
theorem dX6_put_4 : decode cX6_put 4 = .ok (.iload_n 2, 1) := by decide +kernel
theorem dX6_put_5 : decode cX6_put 5 = .ok (.bipush 24, 2) := by decide +kernel
theorem dX6_put_7 : decode cX6_put 7 = .ok (.if_icmp .gt 7, 3) := by decide +kernel
theorem dX6_put_10 : decode cX6_put 10 = .ok (.iload_n 1, 1) := by decide +kernel
theorem dX6_put_11 : decode cX6_put 11 = .ok (.ifCond .ge 7, 3) := by decide +kernel
theorem dX6_put_14 : decode cX6_put 14 = .ok (.iconst 1, 1) := by decide +kernel
theorem dX6_put_15 : decode cX6_put 15 = .ok (.goto 4, 3) := by decide +kernel
theorem dX6_put_18 : decode cX6_put 18 = .ok (.iconst 0, 1) := by decide +kernel
theorem dX6_put_19 : decode cX6_put 19 = .ok (.istore_n 3, 1) := by decide +kernel
theorem dX6_put_20 : decode cX6_put 20 = .ok (.aload_n 0, 1) := by decide +kernel
theorem dX6_put_21 : decode cX6_put 21 = .ok (.iload_n 3, 1) := by decide +kernel
theorem dX6_put_22 : decode cX6_put 22 = .ok (.ifCond .eq 7, 3) := by decide +kernel
theorem dX6_put_25 : decode cX6_put 25 = .ok (.iconst 1, 1) := by decide +kernel
theorem dX6_put_26 : decode cX6_put 26 = .ok (.goto 30, 3) := by decide +kernel
theorem dX6_put_29 : decode cX6_put 29 = .ok (.iload_n 1, 1) := by decide +kernel
theorem dX6_put_30 : decode cX6_put 30 = .ok (.iload_n 2, 1) := by decide +kernel
theorem dX6_put_31 : decode cX6_put 31 = .ok (.ishr, 1) := by decide +kernel
theorem dX6_put_32 : decode cX6_put 32 = .ok (.ifCond .eq 7, 3) := by decide +kernel
theorem dX6_put_35 : decode cX6_put 35 = .ok (.iconst 1, 1) := by decide +kernel
theorem dX6_put_36 : decode cX6_put 36 = .ok (.goto 20, 3) := by decide +kernel
theorem dX6_put_39 : decode cX6_put 39 = .ok (.aload_n 0, 1) := by decide +kernel
theorem dX6_put_40 : decode cX6_put 40 = .ok (.getfield 52, 3) := by decide +kernel
theorem dX6_put_43 : decode cX6_put 43 = .ok (.iload_n 2, 1) := by decide +kernel
theorem dX6_put_44 : decode cX6_put 44 = .ok (.iadd, 1) := by decide +kernel
theorem dX6_put_45 : decode cX6_put 45 = .ok (.sipush 2000, 3) := by decide +kernel
theorem dX6_put_48 : decode cX6_put 48 = .ok (.if_icmp .le 7, 3) := by decide +kernel
theorem dX6_put_51 : decode cX6_put 51 = .ok (.iconst 2, 1) := by decide +kernel
theorem dX6_put_52 : decode cX6_put 52 = .ok (.goto 4, 3) := by decide +kernel
theorem dX6_put_55 : decode cX6_put 55 = .ok (.iconst 0, 1) := by decide +kernel
theorem dX6_put_56 : decode cX6_put 56 = .ok (.putfield 48, 3) := by decide +kernel
theorem dX6_put_59 : decode cX6_put 59 = .ok (.aload_n 0, 1) := by decide +kernel
theorem dX6_put_60 : decode cX6_put 60 = .ok (.getfield 48, 3) := by decide +kernel
theorem dX6_put_63 : decode cX6_put 63 = .ok (.ifCond .eq 5, 3) := by decide +kernel
theorem dX6_put_66 : decode cX6_put 66 = .ok (.iconst 0, 1) := by decide +kernel
theorem dX6_put_67 : decode cX6_put 67 = .ok (.ireturn, 1) := by decide +kernel
theorem dX6_put_68 : decode cX6_put 68 = .ok (.iconst 0, 1) := by decide +kernel
theorem dX6_put_69 : decode cX6_put 69 = .ok (.istore 4, 2) := by decide +kernel
theorem dX6_put_71 : decode cX6_put 71 = .ok (.iload 4, 2) := by decide +kernel
theorem dX6_put_73 : decode cX6_put 73 = .ok (.iload_n 2, 1) := by decide +kernel
theorem dX6_put_74 : decode cX6_put 74 = .ok (.if_icmp .ge 43, 3) := by decide +kernel
theorem dX6_put_77 : decode cX6_put 77 = .ok (.aload_n 0, 1) := by decide +kernel
theorem dX6_put_78 : decode cX6_put 78 = .ok (.getfield 7, 3) := by decide +kernel
theorem dX6_put_81 : decode cX6_put 81 = .ok (.aload_n 0, 1) := by decide +kernel
theorem dX6_put_82 : decode cX6_put 82 = .ok (.getfield 52, 3) := by decide +kernel
theorem dX6_put_85 : decode cX6_put 85 = .ok (.iload_n 1, 1) := by decide +kernel
theorem dX6_put_86 : decode cX6_put 86 = .ok (.iload 4, 2) := by decide +kernel
theorem dX6_put_88 : decode cX6_put 88 = .ok (.ishr, 1) := by decide +kernel
theorem dX6_put_89 : decode cX6_put 89 = .ok (.iconst 1, 1) := by decide +kernel
theorem dX6_put_90 : decode cX6_put 90 = .ok (.iand, 1) := by decide +kernel
theorem dX6_put_91 : decode cX6_put 91 = .ok (.iconst 1, 1) := by decide +kernel
theorem dX6_put_92 : decode cX6_put 92 = .ok (.if_icmp .ne 7, 3) := by decide +kernel
theorem dX6_put_95 : decode cX6_put 95 = .ok (.iconst 1, 1) := by decide +kernel
theorem dX6_put_96 : decode cX6_put 96 = .ok (.goto 4, 3) := by decide +kernel
theorem dX6_put_99 : decode cX6_put 99 = .ok (.iconst 0, 1) := by decide +kernel
theorem dX6_put_100 : decode cX6_put 100 = .ok (.bastore, 1) := by decide +kernel
theorem dX6_put_101 : decode cX6_put 101 = .ok (.aload_n 0, 1) := by decide +kernel
theorem dX6_put_102 : decode cX6_put 102 = .ok (.dup, 1) := by decide +kernel
theorem dX6_put_103 : decode cX6_put 103 = .ok (.getfield 52, 3) := by decide +kernel
theorem dX6_put_106 : decode cX6_put 106 = .ok (.iconst 1, 1) := by decide +kernel
theorem dX6_put_107 : decode cX6_put 107 = .ok (.iadd, 1) := by decide +kernel
theorem dX6_put_108 : decode cX6_put 108 = .ok (.putfield 52, 3) := by decide +kernel
theorem dX6_put_111 : decode cX6_put 111 = .ok (.iinc 4 1, 3) := by decide +kernel
theorem dX6_put_114 : decode cX6_put 114 = .ok (.goto (-43), 3) := by decide +kernel
theorem dX6_put_117 : decode cX6_put 117 = .ok (.aload_n 0, 1) := by decide +kernel
theorem dX6_put_118 : decode cX6_put 118 = .ok (.getfield 52, 3) := by decide +kernel
theorem dX6_put_121 : decode cX6_put 121 = .ok (.ireturn, 1) := by decide +kernel
theorem dX6_noBit_0 : decode cX6_noBit 0 = .ok (.iload_n 1, 1) := by decide +kernel
theorem dX6_noBit_1 : decode cX6_noBit 1 = .ok (.ifCond .lt 11, 3) := by decide +kernel
theorem dX6_noBit_4 : decode cX6_noBit 4 = .ok (.iload_n 1, 1) := by decide +kernel
theorem dX6_noBit_5 : decode cX6_noBit 5 = .ok (.aload_n 0, 1) := by decide +kernel
theorem dX6_noBit_6 : decode cX6_noBit 6 = .ok (.getfield 52, 3) := by decide +kernel
theorem dX6_noBit_9 : decode cX6_noBit 9 = .ok (.if_icmp .lt 7, 3) := by decide +kernel
theorem dX6_noBit_12 : decode cX6_noBit 12 = .ok (.iconst 1, 1) := by decide +kernel
theorem dX6_noBit_13 : decode cX6_noBit 13 = .ok (.goto 4, 3) := by decide +kernel
theorem dX6_noBit_16 : decode cX6_noBit 16 = .ok (.iconst 0, 1) := by decide +kernel
theorem dX6_noBit_17 : decode cX6_noBit 17 = .ok (.ireturn, 1) := by decide +kernel
theorem dX6_bit_0 : decode cX6_bit 0 = .ok (.aload_n 0, 1) := by decide +kernel
theorem dX6_bit_1 : decode cX6_bit 1 = .ok (.aload_n 0, 1) := by decide +kernel
theorem dX6_bit_2 : decode cX6_bit 2 = .ok (.iload_n 1, 1) := by decide +kernel
theorem dX6_bit_3 : decode cX6_bit 3 = .ok (.invokevirtual 55, 3) := by decide +kernel
theorem dX6_bit_6 : decode cX6_bit 6 = .ok (.ifCond .eq 7, 3) := by decide +kernel
theorem dX6_bit_9 : decode cX6_bit 9 = .ok (.iconst 1, 1) := by decide +kernel
theorem dX6_bit_10 : decode cX6_bit 10 = .ok (.goto 4, 3) := by decide +kernel
theorem dX6_bit_13 : decode cX6_bit 13 = .ok (.iconst 0, 1) := by decide +kernel
theorem dX6_bit_14 : decode cX6_bit 14 = .ok (.putfield 48, 3) := by decide +kernel
theorem dX6_bit_17 : decode cX6_bit 17 = .ok (.aload_n 0, 1) := by decide +kernel
theorem dX6_bit_18 : decode cX6_bit 18 = .ok (.getfield 48, 3) := by decide +kernel
theorem dX6_bit_21 : decode cX6_bit 21 = .ok (.ifCond .ne 16, 3) := by decide +kernel
theorem dX6_bit_24 : decode cX6_bit 24 = .ok (.aload_n 0, 1) := by decide +kernel
theorem dX6_bit_25 : decode cX6_bit 25 = .ok (.getfield 7, 3) := by decide +kernel
theorem dX6_bit_28 : decode cX6_bit 28 = .ok (.iload_n 1, 1) := by decide +kernel
theorem dX6_bit_29 : decode cX6_bit 29 = .ok (.baload, 1) := by decide +kernel
theorem dX6_bit_30 : decode cX6_bit 30 = .ok (.ifCond .eq 7, 3) := by decide +kernel
theorem dX6_bit_33 : decode cX6_bit 33 = .ok (.iconst 1, 1) := by decide +kernel
theorem dX6_bit_34 : decode cX6_bit 34 = .ok (.goto 4, 3) := by decide +kernel
theorem dX6_bit_37 : decode cX6_bit 37 = .ok (.iconst 0, 1) := by decide +kernel
theorem dX6_bit_38 : decode cX6_bit 38 = .ok (.ireturn, 1) := by decide +kernel
theorem dX6_flip_0 : decode cX6_flip 0 = .ok (.aload_n 0, 1) := by decide +kernel
theorem dX6_flip_1 : decode cX6_flip 1 = .ok (.aload_n 0, 1) := by decide +kernel
theorem dX6_flip_2 : decode cX6_flip 2 = .ok (.iload_n 1, 1) := by decide +kernel
theorem dX6_flip_3 : decode cX6_flip 3 = .ok (.invokevirtual 55, 3) := by decide +kernel
theorem dX6_flip_6 : decode cX6_flip 6 = .ok (.ifCond .eq 7, 3) := by decide +kernel
theorem dX6_flip_9 : decode cX6_flip 9 = .ok (.iconst 1, 1) := by decide +kernel
theorem dX6_flip_10 : decode cX6_flip 10 = .ok (.goto 4, 3) := by decide +kernel
theorem dX6_flip_13 : decode cX6_flip 13 = .ok (.iconst 0, 1) := by decide +kernel
theorem dX6_flip_14 : decode cX6_flip 14 = .ok (.putfield 48, 3) := by decide +kernel
theorem dX6_flip_17 : decode cX6_flip 17 = .ok (.aload_n 0, 1) := by decide +kernel
theorem dX6_flip_18 : decode cX6_flip 18 = .ok (.getfield 48, 3) := by decide +kernel
theorem dX6_flip_21 : decode cX6_flip 21 = .ok (.ifCond .ne 23, 3) := by decide +kernel
theorem dX6_flip_24 : decode cX6_flip 24 = .ok (.aload_n 0, 1) := by decide +kernel
theorem dX6_flip_25 : decode cX6_flip 25 = .ok (.getfield 7, 3) := by decide +kernel
theorem dX6_flip_28 : decode cX6_flip 28 = .ok (.iload_n 1, 1) := by decide +kernel
theorem dX6_flip_29 : decode cX6_flip 29 = .ok (.aload_n 0, 1) := by decide +kernel
theorem dX6_flip_30 : decode cX6_flip 30 = .ok (.getfield 7, 3) := by decide +kernel
theorem dX6_flip_33 : decode cX6_flip 33 = .ok (.iload_n 1, 1) := by decide +kernel
theorem dX6_flip_34 : decode cX6_flip 34 = .ok (.baload, 1) := by decide +kernel
theorem dX6_flip_35 : decode cX6_flip 35 = .ok (.ifCond .ne 7, 3) := by decide +kernel
theorem dX6_flip_38 : decode cX6_flip 38 = .ok (.iconst 1, 1) := by decide +kernel
theorem dX6_flip_39 : decode cX6_flip 39 = .ok (.goto 4, 3) := by decide +kernel
theorem dX6_flip_42 : decode cX6_flip 42 = .ok (.iconst 0, 1) := by decide +kernel
theorem dX6_flip_43 : decode cX6_flip 43 = .ok (.bastore, 1) := by decide +kernel
theorem dX6_flip_44 : decode cX6_flip 44 = .ok (.return_, 1) := by decide +kernel
theorem dX6_cut_0 : decode cX6_cut 0 = .ok (.aload_n 0, 1) := by decide +kernel
theorem dX6_cut_1 : decode cX6_cut 1 = .ok (.iload_n 1, 1) := by decide +kernel
theorem dX6_cut_2 : decode cX6_cut 2 = .ok (.ifCond .lt 11, 3) := by decide +kernel
theorem dX6_cut_5 : decode cX6_cut 5 = .ok (.iload_n 1, 1) := by decide +kernel
theorem dX6_cut_6 : decode cX6_cut 6 = .ok (.aload_n 0, 1) := by decide +kernel
theorem dX6_cut_7 : decode cX6_cut 7 = .ok (.getfield 52, 3) := by decide +kernel
theorem dX6_cut_10 : decode cX6_cut 10 = .ok (.if_icmp .le 7, 3) := by decide +kernel
theorem dX6_cut_13 : decode cX6_cut 13 = .ok (.iconst 1, 1) := by decide +kernel
theorem dX6_cut_14 : decode cX6_cut 14 = .ok (.goto 4, 3) := by decide +kernel
theorem dX6_cut_17 : decode cX6_cut 17 = .ok (.iconst 0, 1) := by decide +kernel
theorem dX6_cut_18 : decode cX6_cut 18 = .ok (.putfield 48, 3) := by decide +kernel
theorem dX6_cut_21 : decode cX6_cut 21 = .ok (.aload_n 0, 1) := by decide +kernel
theorem dX6_cut_22 : decode cX6_cut 22 = .ok (.getfield 48, 3) := by decide +kernel
theorem dX6_cut_25 : decode cX6_cut 25 = .ok (.ifCond .eq 5, 3) := by decide +kernel
theorem dX6_cut_28 : decode cX6_cut 28 = .ok (.iconst 0, 1) := by decide +kernel
theorem dX6_cut_29 : decode cX6_cut 29 = .ok (.ireturn, 1) := by decide +kernel
theorem dX6_cut_30 : decode cX6_cut 30 = .ok (.aload_n 0, 1) := by decide +kernel
theorem dX6_cut_31 : decode cX6_cut 31 = .ok (.getfield 52, 3) := by decide +kernel
theorem dX6_cut_34 : decode cX6_cut 34 = .ok (.iload_n 1, 1) := by decide +kernel
theorem dX6_cut_35 : decode cX6_cut 35 = .ok (.isub, 1) := by decide +kernel
theorem dX6_cut_36 : decode cX6_cut 36 = .ok (.istore_n 2, 1) := by decide +kernel
theorem dX6_cut_37 : decode cX6_cut 37 = .ok (.aload_n 0, 1) := by decide +kernel
theorem dX6_cut_38 : decode cX6_cut 38 = .ok (.iload_n 1, 1) := by decide +kernel
theorem dX6_cut_39 : decode cX6_cut 39 = .ok (.putfield 52, 3) := by decide +kernel
theorem dX6_cut_42 : decode cX6_cut 42 = .ok (.iload_n 2, 1) := by decide +kernel
theorem dX6_cut_43 : decode cX6_cut 43 = .ok (.ireturn, 1) := by decide +kernel
theorem dX6_number_0 : decode cX6_number 0 = .ok (.aload_n 0, 1) := by decide +kernel
theorem dX6_number_1 : decode cX6_number 1 = .ok (.aload_n 0, 1) := by decide +kernel
theorem dX6_number_2 : decode cX6_number 2 = .ok (.getfield 59, 3) := by decide +kernel
theorem dX6_number_5 : decode cX6_number 5 = .ok (.ifCond .ne 16, 3) := by decide +kernel
theorem dX6_number_8 : decode cX6_number 8 = .ok (.aload_n 0, 1) := by decide +kernel
theorem dX6_number_9 : decode cX6_number 9 = .ok (.getfield 63, 3) := by decide +kernel
theorem dX6_number_12 : decode cX6_number 12 = .ok (.iload_n 1, 1) := by decide +kernel
theorem dX6_number_13 : decode cX6_number 13 = .ok (.iadd, 1) := by decide +kernel
theorem dX6_number_14 : decode cX6_number 14 = .ok (.aload_n 0, 1) := by decide +kernel
theorem dX6_number_15 : decode cX6_number 15 = .ok (.getfield 52, 3) := by decide +kernel
theorem dX6_number_18 : decode cX6_number 18 = .ok (.if_icmp .le 7, 3) := by decide +kernel
theorem dX6_number_21 : decode cX6_number 21 = .ok (.iconst 1, 1) := by decide +kernel
theorem dX6_number_22 : decode cX6_number 22 = .ok (.goto 4, 3) := by decide +kernel
theorem dX6_number_25 : decode cX6_number 25 = .ok (.iconst 0, 1) := by decide +kernel
theorem dX6_number_26 : decode cX6_number 26 = .ok (.putfield 59, 3) := by decide +kernel
theorem dX6_number_29 : decode cX6_number 29 = .ok (.iconst 0, 1) := by decide +kernel
theorem dX6_number_30 : decode cX6_number 30 = .ok (.istore_n 2, 1) := by decide +kernel
theorem dX6_number_31 : decode cX6_number 31 = .ok (.iconst 0, 1) := by decide +kernel
theorem dX6_number_32 : decode cX6_number 32 = .ok (.istore_n 3, 1) := by decide +kernel
theorem dX6_number_33 : decode cX6_number 33 = .ok (.iload_n 3, 1) := by decide +kernel
theorem dX6_number_34 : decode cX6_number 34 = .ok (.iload_n 1, 1) := by decide +kernel
theorem dX6_number_35 : decode cX6_number 35 = .ok (.if_icmp .ge 48, 3) := by decide +kernel
theorem dX6_number_38 : decode cX6_number 38 = .ok (.aload_n 0, 1) := by decide +kernel
theorem dX6_number_39 : decode cX6_number 39 = .ok (.getfield 59, 3) := by decide +kernel
theorem dX6_number_42 : decode cX6_number 42 = .ok (.ifCond .ne 41, 3) := by decide +kernel
theorem dX6_number_45 : decode cX6_number 45 = .ok (.aload_n 0, 1) := by decide +kernel
theorem dX6_number_46 : decode cX6_number 46 = .ok (.getfield 7, 3) := by decide +kernel
theorem dX6_number_49 : decode cX6_number 49 = .ok (.aload_n 0, 1) := by decide +kernel
theorem dX6_number_50 : decode cX6_number 50 = .ok (.getfield 63, 3) := by decide +kernel
theorem dX6_number_53 : decode cX6_number 53 = .ok (.baload, 1) := by decide +kernel
theorem dX6_number_54 : decode cX6_number 54 = .ok (.ifCond .eq 11, 3) := by decide +kernel
theorem dX6_number_57 : decode cX6_number 57 = .ok (.iload_n 2, 1) := by decide +kernel
theorem dX6_number_58 : decode cX6_number 58 = .ok (.iconst 1, 1) := by decide +kernel
theorem dX6_number_59 : decode cX6_number 59 = .ok (.iload_n 3, 1) := by decide +kernel
theorem dX6_number_60 : decode cX6_number 60 = .ok (.ishl, 1) := by decide +kernel
theorem dX6_number_61 : decode cX6_number 61 = .ok (.ior, 1) := by decide +kernel
theorem dX6_number_62 : decode cX6_number 62 = .ok (.goto 4, 3) := by decide +kernel
theorem dX6_number_65 : decode cX6_number 65 = .ok (.iload_n 2, 1) := by decide +kernel
theorem dX6_number_66 : decode cX6_number 66 = .ok (.istore_n 2, 1) := by decide +kernel
theorem dX6_number_67 : decode cX6_number 67 = .ok (.aload_n 0, 1) := by decide +kernel
theorem dX6_number_68 : decode cX6_number 68 = .ok (.dup, 1) := by decide +kernel
theorem dX6_number_69 : decode cX6_number 69 = .ok (.getfield 63, 3) := by decide +kernel
theorem dX6_number_72 : decode cX6_number 72 = .ok (.iconst 1, 1) := by decide +kernel
theorem dX6_number_73 : decode cX6_number 73 = .ok (.iadd, 1) := by decide +kernel
theorem dX6_number_74 : decode cX6_number 74 = .ok (.putfield 63, 3) := by decide +kernel
theorem dX6_number_77 : decode cX6_number 77 = .ok (.iinc 3 1, 3) := by decide +kernel
theorem dX6_number_80 : decode cX6_number 80 = .ok (.goto (-47), 3) := by decide +kernel
theorem dX6_number_83 : decode cX6_number 83 = .ok (.iload_n 2, 1) := by decide +kernel
theorem dX6_number_84 : decode cX6_number 84 = .ok (.ireturn, 1) := by decide +kernel
theorem dX6_widthOf_0 : decode cX6_widthOf 0 = .ok (.iconst 0, 1) := by decide +kernel
theorem dX6_widthOf_1 : decode cX6_widthOf 1 = .ok (.istore_n 2, 1) := by decide +kernel
theorem dX6_widthOf_2 : decode cX6_widthOf 2 = .ok (.iconst 1, 1) := by decide +kernel
theorem dX6_widthOf_3 : decode cX6_widthOf 3 = .ok (.iload_n 2, 1) := by decide +kernel
theorem dX6_widthOf_4 : decode cX6_widthOf 4 = .ok (.ishl, 1) := by decide +kernel
theorem dX6_widthOf_5 : decode cX6_widthOf 5 = .ok (.iload_n 1, 1) := by decide +kernel
theorem dX6_widthOf_6 : decode cX6_widthOf 6 = .ok (.if_icmp .ge 9, 3) := by decide +kernel
theorem dX6_widthOf_9 : decode cX6_widthOf 9 = .ok (.iinc 2 1, 3) := by decide +kernel
theorem dX6_widthOf_12 : decode cX6_widthOf 12 = .ok (.goto (-10), 3) := by decide +kernel
theorem dX6_widthOf_15 : decode cX6_widthOf 15 = .ok (.iload_n 2, 1) := by decide +kernel
theorem dX6_widthOf_16 : decode cX6_widthOf 16 = .ok (.ireturn, 1) := by decide +kernel
theorem dX6_readSimple_0 : decode cX6_readSimple 0 = .ok (.aload_n 0, 1) := by decide +kernel
theorem dX6_readSimple_1 : decode cX6_readSimple 1 = .ok (.iconst 2, 1) := by decide +kernel
theorem dX6_readSimple_2 : decode cX6_readSimple 2 = .ok (.invokevirtual 66, 3) := by decide +kernel
theorem dX6_readSimple_5 : decode cX6_readSimple 5 = .ok (.iconst 1, 1) := by decide +kernel
theorem dX6_readSimple_6 : decode cX6_readSimple 6 = .ok (.iadd, 1) := by decide +kernel
theorem dX6_readSimple_7 : decode cX6_readSimple 7 = .ok (.istore_n 3, 1) := by decide +kernel
theorem dX6_readSimple_8 : decode cX6_readSimple 8 = .ok (.iconst 0, 1) := by decide +kernel
theorem dX6_readSimple_9 : decode cX6_readSimple 9 = .ok (.istore 4, 2) := by decide +kernel
theorem dX6_readSimple_11 : decode cX6_readSimple 11 = .ok (.iload 4, 2) := by decide +kernel
theorem dX6_readSimple_13 : decode cX6_readSimple 13 = .ok (.iload_n 3, 1) := by decide +kernel
theorem dX6_readSimple_14 : decode cX6_readSimple 14 = .ok (.if_icmp .ge 108, 3) := by decide +kernel
theorem dX6_readSimple_17 : decode cX6_readSimple 17 = .ok (.aload_n 0, 1) := by decide +kernel
theorem dX6_readSimple_18 : decode cX6_readSimple 18 = .ok (.getfield 59, 3) := by decide +kernel
theorem dX6_readSimple_21 : decode cX6_readSimple 21 = .ok (.ifCond .ne 101, 3) := by decide +kernel
theorem dX6_readSimple_24 : decode cX6_readSimple 24 = .ok (.aload_n 0, 1) := by decide +kernel
theorem dX6_readSimple_25 : decode cX6_readSimple 25 = .ok (.getfield 32, 3) := by decide +kernel
theorem dX6_readSimple_28 : decode cX6_readSimple 28 = .ok (.iload 4, 2) := by decide +kernel
theorem dX6_readSimple_30 : decode cX6_readSimple 30 = .ok (.aload_n 0, 1) := by decide +kernel
theorem dX6_readSimple_31 : decode cX6_readSimple 31 = .ok (.aload_n 0, 1) := by decide +kernel
theorem dX6_readSimple_32 : decode cX6_readSimple 32 = .ok (.iload_n 2, 1) := by decide +kernel
theorem dX6_readSimple_33 : decode cX6_readSimple 33 = .ok (.invokevirtual 70, 3) := by decide +kernel
theorem dX6_readSimple_36 : decode cX6_readSimple 36 = .ok (.invokevirtual 66, 3) := by decide +kernel
theorem dX6_readSimple_39 : decode cX6_readSimple 39 = .ok (.iastore, 1) := by decide +kernel
theorem dX6_readSimple_40 : decode cX6_readSimple 40 = .ok (.aload_n 0, 1) := by decide +kernel
theorem dX6_readSimple_41 : decode cX6_readSimple 41 = .ok (.aload_n 0, 1) := by decide +kernel
theorem dX6_readSimple_42 : decode cX6_readSimple 42 = .ok (.getfield 59, 3) := by decide +kernel
theorem dX6_readSimple_45 : decode cX6_readSimple 45 = .ok (.ifCond .ne 14, 3) := by decide +kernel
theorem dX6_readSimple_48 : decode cX6_readSimple 48 = .ok (.aload_n 0, 1) := by decide +kernel
theorem dX6_readSimple_49 : decode cX6_readSimple 49 = .ok (.getfield 32, 3) := by decide +kernel
theorem dX6_readSimple_52 : decode cX6_readSimple 52 = .ok (.iload 4, 2) := by decide +kernel
theorem dX6_readSimple_54 : decode cX6_readSimple 54 = .ok (.iaload, 1) := by decide +kernel
theorem dX6_readSimple_55 : decode cX6_readSimple 55 = .ok (.iload_n 2, 1) := by decide +kernel
theorem dX6_readSimple_56 : decode cX6_readSimple 56 = .ok (.if_icmp .lt 7, 3) := by decide +kernel
theorem dX6_readSimple_59 : decode cX6_readSimple 59 = .ok (.iconst 1, 1) := by decide +kernel
theorem dX6_readSimple_60 : decode cX6_readSimple 60 = .ok (.goto 4, 3) := by decide +kernel
theorem dX6_readSimple_63 : decode cX6_readSimple 63 = .ok (.iconst 0, 1) := by decide +kernel
theorem dX6_readSimple_64 : decode cX6_readSimple 64 = .ok (.putfield 59, 3) := by decide +kernel
theorem dX6_readSimple_67 : decode cX6_readSimple 67 = .ok (.iconst 0, 1) := by decide +kernel
theorem dX6_readSimple_68 : decode cX6_readSimple 68 = .ok (.istore 5, 2) := by decide +kernel
theorem dX6_readSimple_70 : decode cX6_readSimple 70 = .ok (.iload 5, 2) := by decide +kernel
theorem dX6_readSimple_72 : decode cX6_readSimple 72 = .ok (.iload 4, 2) := by decide +kernel
theorem dX6_readSimple_74 : decode cX6_readSimple 74 = .ok (.if_icmp .ge 42, 3) := by decide +kernel
theorem dX6_readSimple_77 : decode cX6_readSimple 77 = .ok (.aload_n 0, 1) := by decide +kernel
theorem dX6_readSimple_78 : decode cX6_readSimple 78 = .ok (.aload_n 0, 1) := by decide +kernel
theorem dX6_readSimple_79 : decode cX6_readSimple 79 = .ok (.getfield 59, 3) := by decide +kernel
theorem dX6_readSimple_82 : decode cX6_readSimple 82 = .ok (.ifCond .ne 20, 3) := by decide +kernel
theorem dX6_readSimple_85 : decode cX6_readSimple 85 = .ok (.aload_n 0, 1) := by decide +kernel
theorem dX6_readSimple_86 : decode cX6_readSimple 86 = .ok (.getfield 32, 3) := by decide +kernel
theorem dX6_readSimple_89 : decode cX6_readSimple 89 = .ok (.iload 5, 2) := by decide +kernel
theorem dX6_readSimple_91 : decode cX6_readSimple 91 = .ok (.iaload, 1) := by decide +kernel
theorem dX6_readSimple_92 : decode cX6_readSimple 92 = .ok (.aload_n 0, 1) := by decide +kernel
theorem dX6_readSimple_93 : decode cX6_readSimple 93 = .ok (.getfield 32, 3) := by decide +kernel
theorem dX6_readSimple_96 : decode cX6_readSimple 96 = .ok (.iload 4, 2) := by decide +kernel
theorem dX6_readSimple_98 : decode cX6_readSimple 98 = .ok (.iaload, 1) := by decide +kernel
theorem dX6_readSimple_99 : decode cX6_readSimple 99 = .ok (.if_icmp .ne 7, 3) := by decide +kernel
theorem dX6_readSimple_102 : decode cX6_readSimple 102 = .ok (.iconst 1, 1) := by decide +kernel
theorem dX6_readSimple_103 : decode cX6_readSimple 103 = .ok (.goto 4, 3) := by decide +kernel
theorem dX6_readSimple_106 : decode cX6_readSimple 106 = .ok (.iconst 0, 1) := by decide +kernel
theorem dX6_readSimple_107 : decode cX6_readSimple 107 = .ok (.putfield 59, 3) := by decide +kernel
theorem dX6_readSimple_110 : decode cX6_readSimple 110 = .ok (.iinc 5 1, 3) := by decide +kernel
theorem dX6_readSimple_113 : decode cX6_readSimple 113 = .ok (.goto (-43), 3) := by decide +kernel
theorem dX6_readSimple_116 : decode cX6_readSimple 116 = .ok (.iinc 4 1, 3) := by decide +kernel
theorem dX6_readSimple_119 : decode cX6_readSimple 119 = .ok (.goto (-108), 3) := by decide +kernel
theorem dX6_readSimple_122 : decode cX6_readSimple 122 = .ok (.iload_n 3, 1) := by decide +kernel
theorem dX6_readSimple_123 : decode cX6_readSimple 123 = .ok (.iconst 4, 1) := by decide +kernel
theorem dX6_readSimple_124 : decode cX6_readSimple 124 = .ok (.if_icmp .ne 16, 3) := by decide +kernel
theorem dX6_readSimple_127 : decode cX6_readSimple 127 = .ok (.aload_n 0, 1) := by decide +kernel
theorem dX6_readSimple_128 : decode cX6_readSimple 128 = .ok (.iconst 1, 1) := by decide +kernel
theorem dX6_readSimple_129 : decode cX6_readSimple 129 = .ok (.invokevirtual 66, 3) := by decide +kernel
theorem dX6_readSimple_132 : decode cX6_readSimple 132 = .ok (.iconst 1, 1) := by decide +kernel
theorem dX6_readSimple_133 : decode cX6_readSimple 133 = .ok (.if_icmp .ne 7, 3) := by decide +kernel
theorem dX6_readSimple_136 : decode cX6_readSimple 136 = .ok (.iconst 1, 1) := by decide +kernel
theorem dX6_readSimple_137 : decode cX6_readSimple 137 = .ok (.goto 4, 3) := by decide +kernel
theorem dX6_readSimple_140 : decode cX6_readSimple 140 = .ok (.iconst 0, 1) := by decide +kernel
theorem dX6_readSimple_141 : decode cX6_readSimple 141 = .ok (.istore 4, 2) := by decide +kernel
theorem dX6_readSimple_143 : decode cX6_readSimple 143 = .ok (.aload_n 0, 1) := by decide +kernel
theorem dX6_readSimple_144 : decode cX6_readSimple 144 = .ok (.getfield 59, 3) := by decide +kernel
theorem dX6_readSimple_147 : decode cX6_readSimple 147 = .ok (.ifCond .eq 4, 3) := by decide +kernel
theorem dX6_readSimple_150 : decode cX6_readSimple 150 = .ok (.return_, 1) := by decide +kernel
theorem dX6_readSimple_151 : decode cX6_readSimple 151 = .ok (.aload_n 0, 1) := by decide +kernel
theorem dX6_readSimple_152 : decode cX6_readSimple 152 = .ok (.getfield 29, 3) := by decide +kernel
theorem dX6_readSimple_155 : decode cX6_readSimple 155 = .ok (.iload_n 1, 1) := by decide +kernel
theorem dX6_readSimple_156 : decode cX6_readSimple 156 = .ok (.iload_n 3, 1) := by decide +kernel
theorem dX6_readSimple_157 : decode cX6_readSimple 157 = .ok (.iconst 1, 1) := by decide +kernel
theorem dX6_readSimple_158 : decode cX6_readSimple 158 = .ok (.if_icmp .ne 12, 3) := by decide +kernel
theorem dX6_readSimple_161 : decode cX6_readSimple 161 = .ok (.aload_n 0, 1) := by decide +kernel
theorem dX6_readSimple_162 : decode cX6_readSimple 162 = .ok (.getfield 32, 3) := by decide +kernel
theorem dX6_readSimple_165 : decode cX6_readSimple 165 = .ok (.iconst 0, 1) := by decide +kernel
theorem dX6_readSimple_166 : decode cX6_readSimple 166 = .ok (.iaload, 1) := by decide +kernel
theorem dX6_readSimple_167 : decode cX6_readSimple 167 = .ok (.goto 4, 3) := by decide +kernel
theorem dX6_readSimple_170 : decode cX6_readSimple 170 = .ok (.iconst (-1), 1) := by decide +kernel
theorem dX6_readSimple_171 : decode cX6_readSimple 171 = .ok (.iastore, 1) := by decide +kernel
theorem dX6_readSimple_172 : decode cX6_readSimple 172 = .ok (.iconst 0, 1) := by decide +kernel
theorem dX6_readSimple_173 : decode cX6_readSimple 173 = .ok (.istore 5, 2) := by decide +kernel
theorem dX6_readSimple_175 : decode cX6_readSimple 175 = .ok (.iload 5, 2) := by decide +kernel
theorem dX6_readSimple_177 : decode cX6_readSimple 177 = .ok (.iload_n 3, 1) := by decide +kernel
theorem dX6_readSimple_178 : decode cX6_readSimple 178 = .ok (.if_icmp .ge 85, 3) := by decide +kernel
theorem dX6_readSimple_181 : decode cX6_readSimple 181 = .ok (.iload_n 3, 1) := by decide +kernel
theorem dX6_readSimple_182 : decode cX6_readSimple 182 = .ok (.iconst 1, 1) := by decide +kernel
theorem dX6_readSimple_183 : decode cX6_readSimple 183 = .ok (.if_icmp .le 80, 3) := by decide +kernel
theorem dX6_readSimple_186 : decode cX6_readSimple 186 = .ok (.iload_n 3, 1) := by decide +kernel
theorem dX6_readSimple_187 : decode cX6_readSimple 187 = .ok (.iconst 2, 1) := by decide +kernel
theorem dX6_readSimple_188 : decode cX6_readSimple 188 = .ok (.if_icmp .ne 7, 3) := by decide +kernel
theorem dX6_readSimple_191 : decode cX6_readSimple 191 = .ok (.iconst 1, 1) := by decide +kernel
theorem dX6_readSimple_192 : decode cX6_readSimple 192 = .ok (.goto 44, 3) := by decide +kernel
theorem dX6_readSimple_195 : decode cX6_readSimple 195 = .ok (.iload_n 3, 1) := by decide +kernel
theorem dX6_readSimple_196 : decode cX6_readSimple 196 = .ok (.iconst 3, 1) := by decide +kernel
theorem dX6_readSimple_197 : decode cX6_readSimple 197 = .ok (.if_icmp .ne 16, 3) := by decide +kernel
theorem dX6_readSimple_200 : decode cX6_readSimple 200 = .ok (.iload 5, 2) := by decide +kernel
theorem dX6_readSimple_202 : decode cX6_readSimple 202 = .ok (.ifCond .ne 7, 3) := by decide +kernel
theorem dX6_readSimple_205 : decode cX6_readSimple 205 = .ok (.iconst 1, 1) := by decide +kernel
theorem dX6_readSimple_206 : decode cX6_readSimple 206 = .ok (.goto 30, 3) := by decide +kernel
theorem dX6_readSimple_209 : decode cX6_readSimple 209 = .ok (.iconst 2, 1) := by decide +kernel
theorem dX6_readSimple_210 : decode cX6_readSimple 210 = .ok (.goto 26, 3) := by decide +kernel
theorem dX6_readSimple_213 : decode cX6_readSimple 213 = .ok (.iload 4, 2) := by decide +kernel
theorem dX6_readSimple_215 : decode cX6_readSimple 215 = .ok (.ifCond .ne 7, 3) := by decide +kernel
theorem dX6_readSimple_218 : decode cX6_readSimple 218 = .ok (.iconst 2, 1) := by decide +kernel
theorem dX6_readSimple_219 : decode cX6_readSimple 219 = .ok (.goto 17, 3) := by decide +kernel
theorem dX6_readSimple_222 : decode cX6_readSimple 222 = .ok (.iload 5, 2) := by decide +kernel
theorem dX6_readSimple_224 : decode cX6_readSimple 224 = .ok (.iconst 2, 1) := by decide +kernel
theorem dX6_readSimple_225 : decode cX6_readSimple 225 = .ok (.if_icmp .ge 10, 3) := by decide +kernel
theorem dX6_readSimple_228 : decode cX6_readSimple 228 = .ok (.iload 5, 2) := by decide +kernel
theorem dX6_readSimple_230 : decode cX6_readSimple 230 = .ok (.iconst 1, 1) := by decide +kernel
theorem dX6_readSimple_231 : decode cX6_readSimple 231 = .ok (.iadd, 1) := by decide +kernel
theorem dX6_readSimple_232 : decode cX6_readSimple 232 = .ok (.goto 4, 3) := by decide +kernel
theorem dX6_readSimple_235 : decode cX6_readSimple 235 = .ok (.iconst 3, 1) := by decide +kernel
theorem dX6_readSimple_236 : decode cX6_readSimple 236 = .ok (.istore 6, 2) := by decide +kernel
theorem dX6_readSimple_238 : decode cX6_readSimple 238 = .ok (.aload_n 0, 1) := by decide +kernel
theorem dX6_readSimple_239 : decode cX6_readSimple 239 = .ok (.getfield 26, 3) := by decide +kernel
theorem dX6_readSimple_242 : decode cX6_readSimple 242 = .ok (.bipush 32, 2) := by decide +kernel
theorem dX6_readSimple_244 : decode cX6_readSimple 244 = .ok (.iload_n 1, 1) := by decide +kernel
theorem dX6_readSimple_245 : decode cX6_readSimple 245 = .ok (.imul, 1) := by decide +kernel
theorem dX6_readSimple_246 : decode cX6_readSimple 246 = .ok (.aload_n 0, 1) := by decide +kernel
theorem dX6_readSimple_247 : decode cX6_readSimple 247 = .ok (.getfield 32, 3) := by decide +kernel
theorem dX6_readSimple_250 : decode cX6_readSimple 250 = .ok (.iload 5, 2) := by decide +kernel
theorem dX6_readSimple_252 : decode cX6_readSimple 252 = .ok (.iaload, 1) := by decide +kernel
theorem dX6_readSimple_253 : decode cX6_readSimple 253 = .ok (.iadd, 1) := by decide +kernel
theorem dX6_readSimple_254 : decode cX6_readSimple 254 = .ok (.iload 6, 2) := by decide +kernel
theorem dX6_readSimple_256 : decode cX6_readSimple 256 = .ok (.iastore, 1) := by decide +kernel
theorem dX6_readSimple_257 : decode cX6_readSimple 257 = .ok (.iinc 5 1, 3) := by decide +kernel
theorem dX6_readSimple_260 : decode cX6_readSimple 260 = .ok (.goto (-85), 3) := by decide +kernel
theorem dX6_readSimple_263 : decode cX6_readSimple 263 = .ok (.return_, 1) := by decide +kernel
theorem dX6_readCode_0 : decode cX6_readCode 0 = .ok (.iconst 0, 1) := by decide +kernel
theorem dX6_readCode_1 : decode cX6_readCode 1 = .ok (.istore_n 3, 1) := by decide +kernel
theorem dX6_readCode_2 : decode cX6_readCode 2 = .ok (.iload_n 3, 1) := by decide +kernel
theorem dX6_readCode_3 : decode cX6_readCode 3 = .ok (.bipush 32, 2) := by decide +kernel
theorem dX6_readCode_5 : decode cX6_readCode 5 = .ok (.if_icmp .ge 21, 3) := by decide +kernel
theorem dX6_readCode_8 : decode cX6_readCode 8 = .ok (.aload_n 0, 1) := by decide +kernel
theorem dX6_readCode_9 : decode cX6_readCode 9 = .ok (.getfield 26, 3) := by decide +kernel
theorem dX6_readCode_12 : decode cX6_readCode 12 = .ok (.bipush 32, 2) := by decide +kernel
theorem dX6_readCode_14 : decode cX6_readCode 14 = .ok (.iload_n 1, 1) := by decide +kernel
theorem dX6_readCode_15 : decode cX6_readCode 15 = .ok (.imul, 1) := by decide +kernel
theorem dX6_readCode_16 : decode cX6_readCode 16 = .ok (.iload_n 3, 1) := by decide +kernel
theorem dX6_readCode_17 : decode cX6_readCode 17 = .ok (.iadd, 1) := by decide +kernel
theorem dX6_readCode_18 : decode cX6_readCode 18 = .ok (.iconst 0, 1) := by decide +kernel
theorem dX6_readCode_19 : decode cX6_readCode 19 = .ok (.iastore, 1) := by decide +kernel
theorem dX6_readCode_20 : decode cX6_readCode 20 = .ok (.iinc 3 1, 3) := by decide +kernel
theorem dX6_readCode_23 : decode cX6_readCode 23 = .ok (.goto (-21), 3) := by decide +kernel
theorem dX6_readCode_26 : decode cX6_readCode 26 = .ok (.aload_n 0, 1) := by decide +kernel
theorem dX6_readCode_27 : decode cX6_readCode 27 = .ok (.getfield 29, 3) := by decide +kernel
theorem dX6_readCode_30 : decode cX6_readCode 30 = .ok (.iload_n 1, 1) := by decide +kernel
theorem dX6_readCode_31 : decode cX6_readCode 31 = .ok (.iconst (-1), 1) := by decide +kernel
theorem dX6_readCode_32 : decode cX6_readCode 32 = .ok (.iastore, 1) := by decide +kernel
theorem dX6_readCode_33 : decode cX6_readCode 33 = .ok (.aload_n 0, 1) := by decide +kernel
theorem dX6_readCode_34 : decode cX6_readCode 34 = .ok (.iconst 1, 1) := by decide +kernel
theorem dX6_readCode_35 : decode cX6_readCode 35 = .ok (.invokevirtual 66, 3) := by decide +kernel
theorem dX6_readCode_38 : decode cX6_readCode 38 = .ok (.iconst 1, 1) := by decide +kernel
theorem dX6_readCode_39 : decode cX6_readCode 39 = .ok (.if_icmp .ne 10, 3) := by decide +kernel
theorem dX6_readCode_42 : decode cX6_readCode 42 = .ok (.aload_n 0, 1) := by decide +kernel
theorem dX6_readCode_43 : decode cX6_readCode 43 = .ok (.iload_n 1, 1) := by decide +kernel
theorem dX6_readCode_44 : decode cX6_readCode 44 = .ok (.iload_n 2, 1) := by decide +kernel
theorem dX6_readCode_45 : decode cX6_readCode 45 = .ok (.invokevirtual 73, 3) := by decide +kernel
theorem dX6_readCode_48 : decode cX6_readCode 48 = .ok (.return_, 1) := by decide +kernel
theorem dX6_readCode_49 : decode cX6_readCode 49 = .ok (.sipush 128, 3) := by decide +kernel
theorem dX6_readCode_52 : decode cX6_readCode 52 = .ok (.istore_n 3, 1) := by decide +kernel
theorem dX6_readCode_53 : decode cX6_readCode 53 = .ok (.iconst 0, 1) := by decide +kernel
theorem dX6_readCode_54 : decode cX6_readCode 54 = .ok (.istore 4, 2) := by decide +kernel
theorem dX6_readCode_56 : decode cX6_readCode 56 = .ok (.iload 4, 2) := by decide +kernel
theorem dX6_readCode_58 : decode cX6_readCode 58 = .ok (.iload_n 2, 1) := by decide +kernel
theorem dX6_readCode_59 : decode cX6_readCode 59 = .ok (.if_icmp .ge 79, 3) := by decide +kernel
theorem dX6_readCode_62 : decode cX6_readCode 62 = .ok (.iload_n 3, 1) := by decide +kernel
theorem dX6_readCode_63 : decode cX6_readCode 63 = .ok (.ifCond .le 75, 3) := by decide +kernel
theorem dX6_readCode_66 : decode cX6_readCode 66 = .ok (.aload_n 0, 1) := by decide +kernel
theorem dX6_readCode_67 : decode cX6_readCode 67 = .ok (.getfield 59, 3) := by decide +kernel
theorem dX6_readCode_70 : decode cX6_readCode 70 = .ok (.ifCond .ne 68, 3) := by decide +kernel
theorem dX6_readCode_73 : decode cX6_readCode 73 = .ok (.aload_n 0, 1) := by decide +kernel
theorem dX6_readCode_74 : decode cX6_readCode 74 = .ok (.iconst 3, 1) := by decide +kernel
theorem dX6_readCode_75 : decode cX6_readCode 75 = .ok (.invokevirtual 66, 3) := by decide +kernel
theorem dX6_readCode_78 : decode cX6_readCode 78 = .ok (.istore 5, 2) := by decide +kernel
theorem dX6_readCode_80 : decode cX6_readCode 80 = .ok (.aload_n 0, 1) := by decide +kernel
theorem dX6_readCode_81 : decode cX6_readCode 81 = .ok (.getfield 26, 3) := by decide +kernel
theorem dX6_readCode_84 : decode cX6_readCode 84 = .ok (.bipush 32, 2) := by decide +kernel
theorem dX6_readCode_86 : decode cX6_readCode 86 = .ok (.iload_n 1, 1) := by decide +kernel
theorem dX6_readCode_87 : decode cX6_readCode 87 = .ok (.imul, 1) := by decide +kernel
theorem dX6_readCode_88 : decode cX6_readCode 88 = .ok (.iload 4, 2) := by decide +kernel
theorem dX6_readCode_90 : decode cX6_readCode 90 = .ok (.iadd, 1) := by decide +kernel
theorem dX6_readCode_91 : decode cX6_readCode 91 = .ok (.iload 5, 2) := by decide +kernel
theorem dX6_readCode_93 : decode cX6_readCode 93 = .ok (.iastore, 1) := by decide +kernel
theorem dX6_readCode_94 : decode cX6_readCode 94 = .ok (.iload_n 3, 1) := by decide +kernel
theorem dX6_readCode_95 : decode cX6_readCode 95 = .ok (.iload 5, 2) := by decide +kernel
theorem dX6_readCode_97 : decode cX6_readCode 97 = .ok (.ifCond .le 12, 3) := by decide +kernel
theorem dX6_readCode_100 : decode cX6_readCode 100 = .ok (.sipush 128, 3) := by decide +kernel
theorem dX6_readCode_103 : decode cX6_readCode 103 = .ok (.iload 5, 2) := by decide +kernel
theorem dX6_readCode_105 : decode cX6_readCode 105 = .ok (.ishr, 1) := by decide +kernel
theorem dX6_readCode_106 : decode cX6_readCode 106 = .ok (.goto 4, 3) := by decide +kernel
theorem dX6_readCode_109 : decode cX6_readCode 109 = .ok (.iconst 0, 1) := by decide +kernel
theorem dX6_readCode_110 : decode cX6_readCode 110 = .ok (.isub, 1) := by decide +kernel
theorem dX6_readCode_111 : decode cX6_readCode 111 = .ok (.istore_n 3, 1) := by decide +kernel
theorem dX6_readCode_112 : decode cX6_readCode 112 = .ok (.aload_n 0, 1) := by decide +kernel
theorem dX6_readCode_113 : decode cX6_readCode 113 = .ok (.aload_n 0, 1) := by decide +kernel
theorem dX6_readCode_114 : decode cX6_readCode 114 = .ok (.getfield 59, 3) := by decide +kernel
theorem dX6_readCode_117 : decode cX6_readCode 117 = .ok (.ifCond .ne 7, 3) := by decide +kernel
theorem dX6_readCode_120 : decode cX6_readCode 120 = .ok (.iload_n 3, 1) := by decide +kernel
theorem dX6_readCode_121 : decode cX6_readCode 121 = .ok (.ifCond .ge 7, 3) := by decide +kernel
theorem dX6_readCode_124 : decode cX6_readCode 124 = .ok (.iconst 1, 1) := by decide +kernel
theorem dX6_readCode_125 : decode cX6_readCode 125 = .ok (.goto 4, 3) := by decide +kernel
theorem dX6_readCode_128 : decode cX6_readCode 128 = .ok (.iconst 0, 1) := by decide +kernel
theorem dX6_readCode_129 : decode cX6_readCode 129 = .ok (.putfield 59, 3) := by decide +kernel
theorem dX6_readCode_132 : decode cX6_readCode 132 = .ok (.iinc 4 1, 3) := by decide +kernel
theorem dX6_readCode_135 : decode cX6_readCode 135 = .ok (.goto (-79), 3) := by decide +kernel
theorem dX6_readCode_138 : decode cX6_readCode 138 = .ok (.aload_n 0, 1) := by decide +kernel
theorem dX6_readCode_139 : decode cX6_readCode 139 = .ok (.aload_n 0, 1) := by decide +kernel
theorem dX6_readCode_140 : decode cX6_readCode 140 = .ok (.getfield 59, 3) := by decide +kernel
theorem dX6_readCode_143 : decode cX6_readCode 143 = .ok (.ifCond .ne 7, 3) := by decide +kernel
theorem dX6_readCode_146 : decode cX6_readCode 146 = .ok (.iload_n 3, 1) := by decide +kernel
theorem dX6_readCode_147 : decode cX6_readCode 147 = .ok (.ifCond .le 7, 3) := by decide +kernel
theorem dX6_readCode_150 : decode cX6_readCode 150 = .ok (.iconst 1, 1) := by decide +kernel
theorem dX6_readCode_151 : decode cX6_readCode 151 = .ok (.goto 4, 3) := by decide +kernel
theorem dX6_readCode_154 : decode cX6_readCode 154 = .ok (.iconst 0, 1) := by decide +kernel
theorem dX6_readCode_155 : decode cX6_readCode 155 = .ok (.putfield 59, 3) := by decide +kernel
theorem dX6_readCode_158 : decode cX6_readCode 158 = .ok (.return_, 1) := by decide +kernel
theorem dX6_wordOf_0 : decode cX6_wordOf 0 = .ok (.aload_n 0, 1) := by decide +kernel
theorem dX6_wordOf_1 : decode cX6_wordOf 1 = .ok (.getfield 26, 3) := by decide +kernel
theorem dX6_wordOf_4 : decode cX6_wordOf 4 = .ok (.bipush 32, 2) := by decide +kernel
theorem dX6_wordOf_6 : decode cX6_wordOf 6 = .ok (.iload_n 1, 1) := by decide +kernel
theorem dX6_wordOf_7 : decode cX6_wordOf 7 = .ok (.imul, 1) := by decide +kernel
theorem dX6_wordOf_8 : decode cX6_wordOf 8 = .ok (.iload_n 2, 1) := by decide +kernel
theorem dX6_wordOf_9 : decode cX6_wordOf 9 = .ok (.iadd, 1) := by decide +kernel
theorem dX6_wordOf_10 : decode cX6_wordOf 10 = .ok (.iaload, 1) := by decide +kernel
theorem dX6_wordOf_11 : decode cX6_wordOf 11 = .ok (.istore_n 3, 1) := by decide +kernel
theorem dX6_wordOf_12 : decode cX6_wordOf 12 = .ok (.iconst 0, 1) := by decide +kernel
theorem dX6_wordOf_13 : decode cX6_wordOf 13 = .ok (.istore 4, 2) := by decide +kernel
theorem dX6_wordOf_15 : decode cX6_wordOf 15 = .ok (.iconst 0, 1) := by decide +kernel
theorem dX6_wordOf_16 : decode cX6_wordOf 16 = .ok (.istore 5, 2) := by decide +kernel
theorem dX6_wordOf_18 : decode cX6_wordOf 18 = .ok (.iload 5, 2) := by decide +kernel
theorem dX6_wordOf_20 : decode cX6_wordOf 20 = .ok (.bipush 32, 2) := by decide +kernel
theorem dX6_wordOf_22 : decode cX6_wordOf 22 = .ok (.if_icmp .ge 61, 3) := by decide +kernel
theorem dX6_wordOf_25 : decode cX6_wordOf 25 = .ok (.aload_n 0, 1) := by decide +kernel
theorem dX6_wordOf_26 : decode cX6_wordOf 26 = .ok (.getfield 26, 3) := by decide +kernel
theorem dX6_wordOf_29 : decode cX6_wordOf 29 = .ok (.bipush 32, 2) := by decide +kernel
theorem dX6_wordOf_31 : decode cX6_wordOf 31 = .ok (.iload_n 1, 1) := by decide +kernel
theorem dX6_wordOf_32 : decode cX6_wordOf 32 = .ok (.imul, 1) := by decide +kernel
theorem dX6_wordOf_33 : decode cX6_wordOf 33 = .ok (.iload 5, 2) := by decide +kernel
theorem dX6_wordOf_35 : decode cX6_wordOf 35 = .ok (.iadd, 1) := by decide +kernel
theorem dX6_wordOf_36 : decode cX6_wordOf 36 = .ok (.iaload, 1) := by decide +kernel
theorem dX6_wordOf_37 : decode cX6_wordOf 37 = .ok (.istore 6, 2) := by decide +kernel
theorem dX6_wordOf_39 : decode cX6_wordOf 39 = .ok (.iload 4, 2) := by decide +kernel
theorem dX6_wordOf_41 : decode cX6_wordOf 41 = .ok (.iload 6, 2) := by decide +kernel
theorem dX6_wordOf_43 : decode cX6_wordOf 43 = .ok (.ifCond .le 30, 3) := by decide +kernel
theorem dX6_wordOf_46 : decode cX6_wordOf 46 = .ok (.iload 6, 2) := by decide +kernel
theorem dX6_wordOf_48 : decode cX6_wordOf 48 = .ok (.iload_n 3, 1) := by decide +kernel
theorem dX6_wordOf_49 : decode cX6_wordOf 49 = .ok (.if_icmp .lt 15, 3) := by decide +kernel
theorem dX6_wordOf_52 : decode cX6_wordOf 52 = .ok (.iload 6, 2) := by decide +kernel
theorem dX6_wordOf_54 : decode cX6_wordOf 54 = .ok (.iload_n 3, 1) := by decide +kernel
theorem dX6_wordOf_55 : decode cX6_wordOf 55 = .ok (.if_icmp .ne 18, 3) := by decide +kernel
theorem dX6_wordOf_58 : decode cX6_wordOf 58 = .ok (.iload 5, 2) := by decide +kernel
theorem dX6_wordOf_60 : decode cX6_wordOf 60 = .ok (.iload_n 2, 1) := by decide +kernel
theorem dX6_wordOf_61 : decode cX6_wordOf 61 = .ok (.if_icmp .ge 12, 3) := by decide +kernel
theorem dX6_wordOf_64 : decode cX6_wordOf 64 = .ok (.iconst 1, 1) := by decide +kernel
theorem dX6_wordOf_65 : decode cX6_wordOf 65 = .ok (.iload_n 3, 1) := by decide +kernel
theorem dX6_wordOf_66 : decode cX6_wordOf 66 = .ok (.iload 6, 2) := by decide +kernel
theorem dX6_wordOf_68 : decode cX6_wordOf 68 = .ok (.isub, 1) := by decide +kernel
theorem dX6_wordOf_69 : decode cX6_wordOf 69 = .ok (.ishl, 1) := by decide +kernel
theorem dX6_wordOf_70 : decode cX6_wordOf 70 = .ok (.goto 4, 3) := by decide +kernel
theorem dX6_wordOf_73 : decode cX6_wordOf 73 = .ok (.iconst 0, 1) := by decide +kernel
theorem dX6_wordOf_74 : decode cX6_wordOf 74 = .ok (.iadd, 1) := by decide +kernel
theorem dX6_wordOf_75 : decode cX6_wordOf 75 = .ok (.istore 4, 2) := by decide +kernel
theorem dX6_wordOf_77 : decode cX6_wordOf 77 = .ok (.iinc 5 1, 3) := by decide +kernel
theorem dX6_wordOf_80 : decode cX6_wordOf 80 = .ok (.goto (-62), 3) := by decide +kernel
theorem dX6_wordOf_83 : decode cX6_wordOf 83 = .ok (.iload 4, 2) := by decide +kernel
theorem dX6_wordOf_85 : decode cX6_wordOf 85 = .ok (.ireturn, 1) := by decide +kernel
theorem dX6_symbol_0 : decode cX6_symbol 0 = .ok (.aload_n 0, 1) := by decide +kernel
theorem dX6_symbol_1 : decode cX6_symbol 1 = .ok (.getfield 29, 3) := by decide +kernel
theorem dX6_symbol_4 : decode cX6_symbol 4 = .ok (.iload_n 1, 1) := by decide +kernel
theorem dX6_symbol_5 : decode cX6_symbol 5 = .ok (.iaload, 1) := by decide +kernel
theorem dX6_symbol_6 : decode cX6_symbol 6 = .ok (.iconst (-1), 1) := by decide +kernel
theorem dX6_symbol_7 : decode cX6_symbol 7 = .ok (.if_icmp .ne 10, 3) := by decide +kernel
theorem dX6_symbol_10 : decode cX6_symbol 10 = .ok (.aload_n 0, 1) := by decide +kernel
theorem dX6_symbol_11 : decode cX6_symbol 11 = .ok (.getfield 59, 3) := by decide +kernel
theorem dX6_symbol_14 : decode cX6_symbol 14 = .ok (.ifCond .eq 21, 3) := by decide +kernel
theorem dX6_symbol_17 : decode cX6_symbol 17 = .ok (.aload_n 0, 1) := by decide +kernel
theorem dX6_symbol_18 : decode cX6_symbol 18 = .ok (.getfield 59, 3) := by decide +kernel
theorem dX6_symbol_21 : decode cX6_symbol 21 = .ok (.ifCond .eq 7, 3) := by decide +kernel
theorem dX6_symbol_24 : decode cX6_symbol 24 = .ok (.iconst 0, 1) := by decide +kernel
theorem dX6_symbol_25 : decode cX6_symbol 25 = .ok (.goto 9, 3) := by decide +kernel
theorem dX6_symbol_28 : decode cX6_symbol 28 = .ok (.aload_n 0, 1) := by decide +kernel
theorem dX6_symbol_29 : decode cX6_symbol 29 = .ok (.getfield 29, 3) := by decide +kernel
theorem dX6_symbol_32 : decode cX6_symbol 32 = .ok (.iload_n 1, 1) := by decide +kernel
theorem dX6_symbol_33 : decode cX6_symbol 33 = .ok (.iaload, 1) := by decide +kernel
theorem dX6_symbol_34 : decode cX6_symbol 34 = .ok (.ireturn, 1) := by decide +kernel
theorem dX6_symbol_35 : decode cX6_symbol 35 = .ok (.iconst 0, 1) := by decide +kernel
theorem dX6_symbol_36 : decode cX6_symbol 36 = .ok (.istore_n 2, 1) := by decide +kernel
theorem dX6_symbol_37 : decode cX6_symbol 37 = .ok (.iconst 1, 1) := by decide +kernel
theorem dX6_symbol_38 : decode cX6_symbol 38 = .ok (.istore_n 3, 1) := by decide +kernel
theorem dX6_symbol_39 : decode cX6_symbol 39 = .ok (.iload_n 3, 1) := by decide +kernel
theorem dX6_symbol_40 : decode cX6_symbol 40 = .ok (.bipush 8, 2) := by decide +kernel
theorem dX6_symbol_42 : decode cX6_symbol 42 = .ok (.if_icmp .ge 72, 3) := by decide +kernel
theorem dX6_symbol_45 : decode cX6_symbol 45 = .ok (.iconst 2, 1) := by decide +kernel
theorem dX6_symbol_46 : decode cX6_symbol 46 = .ok (.iload_n 2, 1) := by decide +kernel
theorem dX6_symbol_47 : decode cX6_symbol 47 = .ok (.imul, 1) := by decide +kernel
theorem dX6_symbol_48 : decode cX6_symbol 48 = .ok (.aload_n 0, 1) := by decide +kernel
theorem dX6_symbol_49 : decode cX6_symbol 49 = .ok (.iconst 1, 1) := by decide +kernel
theorem dX6_symbol_50 : decode cX6_symbol 50 = .ok (.invokevirtual 66, 3) := by decide +kernel
theorem dX6_symbol_53 : decode cX6_symbol 53 = .ok (.iadd, 1) := by decide +kernel
theorem dX6_symbol_54 : decode cX6_symbol 54 = .ok (.istore_n 2, 1) := by decide +kernel
theorem dX6_symbol_55 : decode cX6_symbol 55 = .ok (.iconst 0, 1) := by decide +kernel
theorem dX6_symbol_56 : decode cX6_symbol 56 = .ok (.istore 4, 2) := by decide +kernel
theorem dX6_symbol_58 : decode cX6_symbol 58 = .ok (.iload 4, 2) := by decide +kernel
theorem dX6_symbol_60 : decode cX6_symbol 60 = .ok (.bipush 32, 2) := by decide +kernel
theorem dX6_symbol_62 : decode cX6_symbol 62 = .ok (.if_icmp .ge 46, 3) := by decide +kernel
theorem dX6_symbol_65 : decode cX6_symbol 65 = .ok (.aload_n 0, 1) := by decide +kernel
theorem dX6_symbol_66 : decode cX6_symbol 66 = .ok (.getfield 59, 3) := by decide +kernel
theorem dX6_symbol_69 : decode cX6_symbol 69 = .ok (.ifCond .ne 39, 3) := by decide +kernel
theorem dX6_symbol_72 : decode cX6_symbol 72 = .ok (.aload_n 0, 1) := by decide +kernel
theorem dX6_symbol_73 : decode cX6_symbol 73 = .ok (.getfield 26, 3) := by decide +kernel
theorem dX6_symbol_76 : decode cX6_symbol 76 = .ok (.bipush 32, 2) := by decide +kernel
theorem dX6_symbol_78 : decode cX6_symbol 78 = .ok (.iload_n 1, 1) := by decide +kernel
theorem dX6_symbol_79 : decode cX6_symbol 79 = .ok (.imul, 1) := by decide +kernel
theorem dX6_symbol_80 : decode cX6_symbol 80 = .ok (.iload 4, 2) := by decide +kernel
theorem dX6_symbol_82 : decode cX6_symbol 82 = .ok (.iadd, 1) := by decide +kernel
theorem dX6_symbol_83 : decode cX6_symbol 83 = .ok (.iaload, 1) := by decide +kernel
theorem dX6_symbol_84 : decode cX6_symbol 84 = .ok (.iload_n 3, 1) := by decide +kernel
theorem dX6_symbol_85 : decode cX6_symbol 85 = .ok (.if_icmp .ne 17, 3) := by decide +kernel
theorem dX6_symbol_88 : decode cX6_symbol 88 = .ok (.aload_n 0, 1) := by decide +kernel
theorem dX6_symbol_89 : decode cX6_symbol 89 = .ok (.iload_n 1, 1) := by decide +kernel
theorem dX6_symbol_90 : decode cX6_symbol 90 = .ok (.iload 4, 2) := by decide +kernel
theorem dX6_symbol_92 : decode cX6_symbol 92 = .ok (.invokevirtual 77, 3) := by decide +kernel
theorem dX6_symbol_95 : decode cX6_symbol 95 = .ok (.iload_n 2, 1) := by decide +kernel
theorem dX6_symbol_96 : decode cX6_symbol 96 = .ok (.if_icmp .ne 6, 3) := by decide +kernel
theorem dX6_symbol_99 : decode cX6_symbol 99 = .ok (.iload 4, 2) := by decide +kernel
theorem dX6_symbol_101 : decode cX6_symbol 101 = .ok (.ireturn, 1) := by decide +kernel
theorem dX6_symbol_102 : decode cX6_symbol 102 = .ok (.iinc 4 1, 3) := by decide +kernel
theorem dX6_symbol_105 : decode cX6_symbol 105 = .ok (.goto (-47), 3) := by decide +kernel
theorem dX6_symbol_108 : decode cX6_symbol 108 = .ok (.iinc 3 1, 3) := by decide +kernel
theorem dX6_symbol_111 : decode cX6_symbol 111 = .ok (.goto (-72), 3) := by decide +kernel
theorem dX6_symbol_114 : decode cX6_symbol 114 = .ok (.iconst 0, 1) := by decide +kernel
theorem dX6_symbol_115 : decode cX6_symbol 115 = .ok (.ireturn, 1) := by decide +kernel
theorem dX6_plain_0 : decode cX6_plain 0 = .ok (.iconst 0, 1) := by decide +kernel
theorem dX6_plain_1 : decode cX6_plain 1 = .ok (.istore_n 2, 1) := by decide +kernel
theorem dX6_plain_2 : decode cX6_plain 2 = .ok (.iload_n 2, 1) := by decide +kernel
theorem dX6_plain_3 : decode cX6_plain 3 = .ok (.iload_n 1, 1) := by decide +kernel
theorem dX6_plain_4 : decode cX6_plain 4 = .ok (.if_icmp .ge 46, 3) := by decide +kernel
theorem dX6_plain_7 : decode cX6_plain 7 = .ok (.aload_n 0, 1) := by decide +kernel
theorem dX6_plain_8 : decode cX6_plain 8 = .ok (.getfield 59, 3) := by decide +kernel
theorem dX6_plain_11 : decode cX6_plain 11 = .ok (.ifCond .ne 39, 3) := by decide +kernel
theorem dX6_plain_14 : decode cX6_plain 14 = .ok (.aload_n 0, 1) := by decide +kernel
theorem dX6_plain_15 : decode cX6_plain 15 = .ok (.aload_n 0, 1) := by decide +kernel
theorem dX6_plain_16 : decode cX6_plain 16 = .ok (.iconst 5, 1) := by decide +kernel
theorem dX6_plain_17 : decode cX6_plain 17 = .ok (.invokevirtual 66, 3) := by decide +kernel
theorem dX6_plain_20 : decode cX6_plain 20 = .ok (.invokevirtual 81, 3) := by decide +kernel
theorem dX6_plain_23 : decode cX6_plain 23 = .ok (.aload_n 0, 1) := by decide +kernel
theorem dX6_plain_24 : decode cX6_plain 24 = .ok (.getfield 23, 3) := by decide +kernel
theorem dX6_plain_27 : decode cX6_plain 27 = .ok (.iconst 1, 1) := by decide +kernel
theorem dX6_plain_28 : decode cX6_plain 28 = .ok (.dup2, 1) := by decide +kernel
theorem dX6_plain_29 : decode cX6_plain 29 = .ok (.iaload, 1) := by decide +kernel
theorem dX6_plain_30 : decode cX6_plain 30 = .ok (.aload_n 0, 1) := by decide +kernel
theorem dX6_plain_31 : decode cX6_plain 31 = .ok (.getfield 59, 3) := by decide +kernel
theorem dX6_plain_34 : decode cX6_plain 34 = .ok (.ifCond .eq 7, 3) := by decide +kernel
theorem dX6_plain_37 : decode cX6_plain 37 = .ok (.iconst 0, 1) := by decide +kernel
theorem dX6_plain_38 : decode cX6_plain 38 = .ok (.goto 4, 3) := by decide +kernel
theorem dX6_plain_41 : decode cX6_plain 41 = .ok (.iconst 1, 1) := by decide +kernel
theorem dX6_plain_42 : decode cX6_plain 42 = .ok (.iadd, 1) := by decide +kernel
theorem dX6_plain_43 : decode cX6_plain 43 = .ok (.iastore, 1) := by decide +kernel
theorem dX6_plain_44 : decode cX6_plain 44 = .ok (.iinc 2 1, 3) := by decide +kernel
theorem dX6_plain_47 : decode cX6_plain 47 = .ok (.goto (-45), 3) := by decide +kernel
theorem dX6_plain_50 : decode cX6_plain 50 = .ok (.return_, 1) := by decide +kernel
theorem dX6_add_0 : decode cX6_add 0 = .ok (.aload_n 0, 1) := by decide +kernel
theorem dX6_add_1 : decode cX6_add 1 = .ok (.getfield 59, 3) := by decide +kernel
theorem dX6_add_4 : decode cX6_add 4 = .ok (.ifCond .ne 23, 3) := by decide +kernel
theorem dX6_add_7 : decode cX6_add 7 = .ok (.aload_n 0, 1) := by decide +kernel
theorem dX6_add_8 : decode cX6_add 8 = .ok (.getfield 17, 3) := by decide +kernel
theorem dX6_add_11 : decode cX6_add 11 = .ok (.aload_n 0, 1) := by decide +kernel
theorem dX6_add_12 : decode cX6_add 12 = .ok (.getfield 85, 3) := by decide +kernel
theorem dX6_add_15 : decode cX6_add 15 = .ok (.iload_n 1, 1) := by decide +kernel
theorem dX6_add_16 : decode cX6_add 16 = .ok (.iastore, 1) := by decide +kernel
theorem dX6_add_17 : decode cX6_add 17 = .ok (.aload_n 0, 1) := by decide +kernel
theorem dX6_add_18 : decode cX6_add 18 = .ok (.dup, 1) := by decide +kernel
theorem dX6_add_19 : decode cX6_add 19 = .ok (.getfield 85, 3) := by decide +kernel
theorem dX6_add_22 : decode cX6_add 22 = .ok (.iconst 1, 1) := by decide +kernel
theorem dX6_add_23 : decode cX6_add 23 = .ok (.iadd, 1) := by decide +kernel
theorem dX6_add_24 : decode cX6_add 24 = .ok (.putfield 85, 3) := by decide +kernel
theorem dX6_add_27 : decode cX6_add 27 = .ok (.return_, 1) := by decide +kernel
theorem dX6_readMap_0 : decode cX6_readMap 0 = .ok (.iconst 0, 1) := by decide +kernel
theorem dX6_readMap_1 : decode cX6_readMap 1 = .ok (.istore_n 2, 1) := by decide +kernel
theorem dX6_readMap_2 : decode cX6_readMap 2 = .ok (.iload_n 2, 1) := by decide +kernel
theorem dX6_readMap_3 : decode cX6_readMap 3 = .ok (.bipush 12, 2) := by decide +kernel
theorem dX6_readMap_5 : decode cX6_readMap 5 = .ok (.if_icmp .ge 16, 3) := by decide +kernel
theorem dX6_readMap_8 : decode cX6_readMap 8 = .ok (.aload_n 0, 1) := by decide +kernel
theorem dX6_readMap_9 : decode cX6_readMap 9 = .ok (.getfield 38, 3) := by decide +kernel
theorem dX6_readMap_12 : decode cX6_readMap 12 = .ok (.iload_n 2, 1) := by decide +kernel
theorem dX6_readMap_13 : decode cX6_readMap 13 = .ok (.iconst 0, 1) := by decide +kernel
theorem dX6_readMap_14 : decode cX6_readMap 14 = .ok (.iastore, 1) := by decide +kernel
theorem dX6_readMap_15 : decode cX6_readMap 15 = .ok (.iinc 2 1, 3) := by decide +kernel
theorem dX6_readMap_18 : decode cX6_readMap 18 = .ok (.goto (-16), 3) := by decide +kernel
theorem dX6_readMap_21 : decode cX6_readMap 21 = .ok (.iload_n 1, 1) := by decide +kernel
theorem dX6_readMap_22 : decode cX6_readMap 22 = .ok (.iconst 1, 1) := by decide +kernel
theorem dX6_readMap_23 : decode cX6_readMap 23 = .ok (.if_icmp .ne 4, 3) := by decide +kernel
theorem dX6_readMap_26 : decode cX6_readMap 26 = .ok (.return_, 1) := by decide +kernel
theorem dX6_readMap_27 : decode cX6_readMap 27 = .ok (.iconst 0, 1) := by decide +kernel
theorem dX6_readMap_28 : decode cX6_readMap 28 = .ok (.istore_n 2, 1) := by decide +kernel
theorem dX6_readMap_29 : decode cX6_readMap 29 = .ok (.iload_n 2, 1) := by decide +kernel
theorem dX6_readMap_30 : decode cX6_readMap 30 = .ok (.iconst 4, 1) := by decide +kernel
theorem dX6_readMap_31 : decode cX6_readMap 31 = .ok (.aload_n 0, 1) := by decide +kernel
theorem dX6_readMap_32 : decode cX6_readMap 32 = .ok (.getfield 88, 3) := by decide +kernel
theorem dX6_readMap_35 : decode cX6_readMap 35 = .ok (.imul, 1) := by decide +kernel
theorem dX6_readMap_36 : decode cX6_readMap 36 = .ok (.if_icmp .ge 53, 3) := by decide +kernel
theorem dX6_readMap_39 : decode cX6_readMap 39 = .ok (.aload_n 0, 1) := by decide +kernel
theorem dX6_readMap_40 : decode cX6_readMap 40 = .ok (.getfield 59, 3) := by decide +kernel
theorem dX6_readMap_43 : decode cX6_readMap 43 = .ok (.ifCond .ne 46, 3) := by decide +kernel
theorem dX6_readMap_46 : decode cX6_readMap 46 = .ok (.aload_n 0, 1) := by decide +kernel
theorem dX6_readMap_47 : decode cX6_readMap 47 = .ok (.getfield 38, 3) := by decide +kernel
theorem dX6_readMap_50 : decode cX6_readMap 50 = .ok (.iload_n 2, 1) := by decide +kernel
theorem dX6_readMap_51 : decode cX6_readMap 51 = .ok (.aload_n 0, 1) := by decide +kernel
theorem dX6_readMap_52 : decode cX6_readMap 52 = .ok (.iconst 2, 1) := by decide +kernel
theorem dX6_readMap_53 : decode cX6_readMap 53 = .ok (.invokevirtual 66, 3) := by decide +kernel
theorem dX6_readMap_56 : decode cX6_readMap 56 = .ok (.iastore, 1) := by decide +kernel
theorem dX6_readMap_57 : decode cX6_readMap 57 = .ok (.aload_n 0, 1) := by decide +kernel
theorem dX6_readMap_58 : decode cX6_readMap 58 = .ok (.aload_n 0, 1) := by decide +kernel
theorem dX6_readMap_59 : decode cX6_readMap 59 = .ok (.getfield 59, 3) := by decide +kernel
theorem dX6_readMap_62 : decode cX6_readMap 62 = .ok (.ifCond .ne 13, 3) := by decide +kernel
theorem dX6_readMap_65 : decode cX6_readMap 65 = .ok (.aload_n 0, 1) := by decide +kernel
theorem dX6_readMap_66 : decode cX6_readMap 66 = .ok (.getfield 38, 3) := by decide +kernel
theorem dX6_readMap_69 : decode cX6_readMap 69 = .ok (.iload_n 2, 1) := by decide +kernel
theorem dX6_readMap_70 : decode cX6_readMap 70 = .ok (.iaload, 1) := by decide +kernel
theorem dX6_readMap_71 : decode cX6_readMap 71 = .ok (.iload_n 1, 1) := by decide +kernel
theorem dX6_readMap_72 : decode cX6_readMap 72 = .ok (.if_icmp .lt 7, 3) := by decide +kernel
theorem dX6_readMap_75 : decode cX6_readMap 75 = .ok (.iconst 1, 1) := by decide +kernel
theorem dX6_readMap_76 : decode cX6_readMap 76 = .ok (.goto 4, 3) := by decide +kernel
theorem dX6_readMap_79 : decode cX6_readMap 79 = .ok (.iconst 0, 1) := by decide +kernel
theorem dX6_readMap_80 : decode cX6_readMap 80 = .ok (.putfield 59, 3) := by decide +kernel
theorem dX6_readMap_83 : decode cX6_readMap 83 = .ok (.iinc 2 1, 3) := by decide +kernel
theorem dX6_readMap_86 : decode cX6_readMap 86 = .ok (.goto (-57), 3) := by decide +kernel
theorem dX6_readMap_89 : decode cX6_readMap 89 = .ok (.aload_n 0, 1) := by decide +kernel
theorem dX6_readMap_90 : decode cX6_readMap 90 = .ok (.iconst 1, 1) := by decide +kernel
theorem dX6_readMap_91 : decode cX6_readMap 91 = .ok (.invokevirtual 66, 3) := by decide +kernel
theorem dX6_readMap_94 : decode cX6_readMap 94 = .ok (.iconst 1, 1) := by decide +kernel
theorem dX6_readMap_95 : decode cX6_readMap 95 = .ok (.if_icmp .ne 7, 3) := by decide +kernel
theorem dX6_readMap_98 : decode cX6_readMap 98 = .ok (.iconst 1, 1) := by decide +kernel
theorem dX6_readMap_99 : decode cX6_readMap 99 = .ok (.goto 4, 3) := by decide +kernel
theorem dX6_readMap_102 : decode cX6_readMap 102 = .ok (.iconst 0, 1) := by decide +kernel
theorem dX6_readMap_103 : decode cX6_readMap 103 = .ok (.istore_n 2, 1) := by decide +kernel
theorem dX6_readMap_104 : decode cX6_readMap 104 = .ok (.iconst 0, 1) := by decide +kernel
theorem dX6_readMap_105 : decode cX6_readMap 105 = .ok (.istore_n 3, 1) := by decide +kernel
theorem dX6_readMap_106 : decode cX6_readMap 106 = .ok (.iload_n 3, 1) := by decide +kernel
theorem dX6_readMap_107 : decode cX6_readMap 107 = .ok (.iconst 4, 1) := by decide +kernel
theorem dX6_readMap_108 : decode cX6_readMap 108 = .ok (.if_icmp .ge 16, 3) := by decide +kernel
theorem dX6_readMap_111 : decode cX6_readMap 111 = .ok (.aload_n 0, 1) := by decide +kernel
theorem dX6_readMap_112 : decode cX6_readMap 112 = .ok (.getfield 41, 3) := by decide +kernel
theorem dX6_readMap_115 : decode cX6_readMap 115 = .ok (.iload_n 3, 1) := by decide +kernel
theorem dX6_readMap_116 : decode cX6_readMap 116 = .ok (.iload_n 3, 1) := by decide +kernel
theorem dX6_readMap_117 : decode cX6_readMap 117 = .ok (.iastore, 1) := by decide +kernel
theorem dX6_readMap_118 : decode cX6_readMap 118 = .ok (.iinc 3 1, 3) := by decide +kernel
theorem dX6_readMap_121 : decode cX6_readMap 121 = .ok (.goto (-15), 3) := by decide +kernel
theorem dX6_readMap_124 : decode cX6_readMap 124 = .ok (.iconst 0, 1) := by decide +kernel
theorem dX6_readMap_125 : decode cX6_readMap 125 = .ok (.istore_n 3, 1) := by decide +kernel
theorem dX6_readMap_126 : decode cX6_readMap 126 = .ok (.iload_n 3, 1) := by decide +kernel
theorem dX6_readMap_127 : decode cX6_readMap 127 = .ok (.iconst 4, 1) := by decide +kernel
theorem dX6_readMap_128 : decode cX6_readMap 128 = .ok (.aload_n 0, 1) := by decide +kernel
theorem dX6_readMap_129 : decode cX6_readMap 129 = .ok (.getfield 88, 3) := by decide +kernel
theorem dX6_readMap_132 : decode cX6_readMap 132 = .ok (.imul, 1) := by decide +kernel
theorem dX6_readMap_133 : decode cX6_readMap 133 = .ok (.if_icmp .ge 84, 3) := by decide +kernel
theorem dX6_readMap_136 : decode cX6_readMap 136 = .ok (.iload_n 2, 1) := by decide +kernel
theorem dX6_readMap_137 : decode cX6_readMap 137 = .ok (.ifCond .eq 80, 3) := by decide +kernel
theorem dX6_readMap_140 : decode cX6_readMap 140 = .ok (.aload_n 0, 1) := by decide +kernel
theorem dX6_readMap_141 : decode cX6_readMap 141 = .ok (.getfield 59, 3) := by decide +kernel
theorem dX6_readMap_144 : decode cX6_readMap 144 = .ok (.ifCond .ne 73, 3) := by decide +kernel
theorem dX6_readMap_147 : decode cX6_readMap 147 = .ok (.aload_n 0, 1) := by decide +kernel
theorem dX6_readMap_148 : decode cX6_readMap 148 = .ok (.getfield 38, 3) := by decide +kernel
theorem dX6_readMap_151 : decode cX6_readMap 151 = .ok (.iload_n 3, 1) := by decide +kernel
theorem dX6_readMap_152 : decode cX6_readMap 152 = .ok (.iaload, 1) := by decide +kernel
theorem dX6_readMap_153 : decode cX6_readMap 153 = .ok (.istore 4, 2) := by decide +kernel
theorem dX6_readMap_155 : decode cX6_readMap 155 = .ok (.aload_n 0, 1) := by decide +kernel
theorem dX6_readMap_156 : decode cX6_readMap 156 = .ok (.getfield 41, 3) := by decide +kernel
theorem dX6_readMap_159 : decode cX6_readMap 159 = .ok (.iload 4, 2) := by decide +kernel
theorem dX6_readMap_161 : decode cX6_readMap 161 = .ok (.iaload, 1) := by decide +kernel
theorem dX6_readMap_162 : decode cX6_readMap 162 = .ok (.istore 5, 2) := by decide +kernel
theorem dX6_readMap_164 : decode cX6_readMap 164 = .ok (.iload 4, 2) := by decide +kernel
theorem dX6_readMap_166 : decode cX6_readMap 166 = .ok (.istore 6, 2) := by decide +kernel
theorem dX6_readMap_168 : decode cX6_readMap 168 = .ok (.iload 6, 2) := by decide +kernel
theorem dX6_readMap_170 : decode cX6_readMap 170 = .ok (.ifCond .le 25, 3) := by decide +kernel
theorem dX6_readMap_173 : decode cX6_readMap 173 = .ok (.aload_n 0, 1) := by decide +kernel
theorem dX6_readMap_174 : decode cX6_readMap 174 = .ok (.getfield 41, 3) := by decide +kernel
theorem dX6_readMap_177 : decode cX6_readMap 177 = .ok (.iload 6, 2) := by decide +kernel
theorem dX6_readMap_179 : decode cX6_readMap 179 = .ok (.aload_n 0, 1) := by decide +kernel
theorem dX6_readMap_180 : decode cX6_readMap 180 = .ok (.getfield 41, 3) := by decide +kernel
theorem dX6_readMap_183 : decode cX6_readMap 183 = .ok (.iload 6, 2) := by decide +kernel
theorem dX6_readMap_185 : decode cX6_readMap 185 = .ok (.iconst 1, 1) := by decide +kernel
theorem dX6_readMap_186 : decode cX6_readMap 186 = .ok (.isub, 1) := by decide +kernel
theorem dX6_readMap_187 : decode cX6_readMap 187 = .ok (.iaload, 1) := by decide +kernel
theorem dX6_readMap_188 : decode cX6_readMap 188 = .ok (.iastore, 1) := by decide +kernel
theorem dX6_readMap_189 : decode cX6_readMap 189 = .ok (.iinc 6 (-1), 3) := by decide +kernel
theorem dX6_readMap_192 : decode cX6_readMap 192 = .ok (.goto (-24), 3) := by decide +kernel
theorem dX6_readMap_195 : decode cX6_readMap 195 = .ok (.aload_n 0, 1) := by decide +kernel
theorem dX6_readMap_196 : decode cX6_readMap 196 = .ok (.getfield 41, 3) := by decide +kernel
theorem dX6_readMap_199 : decode cX6_readMap 199 = .ok (.iconst 0, 1) := by decide +kernel
theorem dX6_readMap_200 : decode cX6_readMap 200 = .ok (.iload 5, 2) := by decide +kernel
theorem dX6_readMap_202 : decode cX6_readMap 202 = .ok (.iastore, 1) := by decide +kernel
theorem dX6_readMap_203 : decode cX6_readMap 203 = .ok (.aload_n 0, 1) := by decide +kernel
theorem dX6_readMap_204 : decode cX6_readMap 204 = .ok (.getfield 38, 3) := by decide +kernel
theorem dX6_readMap_207 : decode cX6_readMap 207 = .ok (.iload_n 3, 1) := by decide +kernel
theorem dX6_readMap_208 : decode cX6_readMap 208 = .ok (.iload 5, 2) := by decide +kernel
theorem dX6_readMap_210 : decode cX6_readMap 210 = .ok (.iastore, 1) := by decide +kernel
theorem dX6_readMap_211 : decode cX6_readMap 211 = .ok (.iinc 3 1, 3) := by decide +kernel
theorem dX6_readMap_214 : decode cX6_readMap 214 = .ok (.goto (-88), 3) := by decide +kernel
theorem dX6_readMap_217 : decode cX6_readMap 217 = .ok (.return_, 1) := by decide +kernel
theorem dX6_readHead_0 : decode cX6_readHead 0 = .ok (.aload_n 0, 1) := by decide +kernel
theorem dX6_readHead_1 : decode cX6_readHead 1 = .ok (.aload_n 0, 1) := by decide +kernel
theorem dX6_readHead_2 : decode cX6_readHead 2 = .ok (.iconst 2, 1) := by decide +kernel
theorem dX6_readHead_3 : decode cX6_readHead 3 = .ok (.invokevirtual 66, 3) := by decide +kernel
theorem dX6_readHead_6 : decode cX6_readHead 6 = .ok (.iconst 1, 1) := by decide +kernel
theorem dX6_readHead_7 : decode cX6_readHead 7 = .ok (.iadd, 1) := by decide +kernel
theorem dX6_readHead_8 : decode cX6_readHead 8 = .ok (.putfield 88, 3) := by decide +kernel
theorem dX6_readHead_11 : decode cX6_readHead 11 = .ok (.aload_n 0, 1) := by decide +kernel
theorem dX6_readHead_12 : decode cX6_readHead 12 = .ok (.aload_n 0, 1) := by decide +kernel
theorem dX6_readHead_13 : decode cX6_readHead 13 = .ok (.getfield 59, 3) := by decide +kernel
theorem dX6_readHead_16 : decode cX6_readHead 16 = .ok (.ifCond .ne 11, 3) := by decide +kernel
theorem dX6_readHead_19 : decode cX6_readHead 19 = .ok (.aload_n 0, 1) := by decide +kernel
theorem dX6_readHead_20 : decode cX6_readHead 20 = .ok (.getfield 88, 3) := by decide +kernel
theorem dX6_readHead_23 : decode cX6_readHead 23 = .ok (.iconst 3, 1) := by decide +kernel
theorem dX6_readHead_24 : decode cX6_readHead 24 = .ok (.if_icmp .le 7, 3) := by decide +kernel
theorem dX6_readHead_27 : decode cX6_readHead 27 = .ok (.iconst 1, 1) := by decide +kernel
theorem dX6_readHead_28 : decode cX6_readHead 28 = .ok (.goto 4, 3) := by decide +kernel
theorem dX6_readHead_31 : decode cX6_readHead 31 = .ok (.iconst 0, 1) := by decide +kernel
theorem dX6_readHead_32 : decode cX6_readHead 32 = .ok (.putfield 59, 3) := by decide +kernel
theorem dX6_readHead_35 : decode cX6_readHead 35 = .ok (.aload_n 0, 1) := by decide +kernel
theorem dX6_readHead_36 : decode cX6_readHead 36 = .ok (.getfield 59, 3) := by decide +kernel
theorem dX6_readHead_39 : decode cX6_readHead 39 = .ok (.ifCond .eq 4, 3) := by decide +kernel
theorem dX6_readHead_42 : decode cX6_readHead 42 = .ok (.return_, 1) := by decide +kernel
theorem dX6_readHead_43 : decode cX6_readHead 43 = .ok (.aload_n 0, 1) := by decide +kernel
theorem dX6_readHead_44 : decode cX6_readHead 44 = .ok (.iconst 0, 1) := by decide +kernel
theorem dX6_readHead_45 : decode cX6_readHead 45 = .ok (.putfield 91, 3) := by decide +kernel
theorem dX6_readHead_48 : decode cX6_readHead 48 = .ok (.aload_n 0, 1) := by decide +kernel
theorem dX6_readHead_49 : decode cX6_readHead 49 = .ok (.iconst 1, 1) := by decide +kernel
theorem dX6_readHead_50 : decode cX6_readHead 50 = .ok (.putfield 94, 3) := by decide +kernel
theorem dX6_readHead_53 : decode cX6_readHead 53 = .ok (.aload_n 0, 1) := by decide +kernel
theorem dX6_readHead_54 : decode cX6_readHead 54 = .ok (.getfield 88, 3) := by decide +kernel
theorem dX6_readHead_57 : decode cX6_readHead 57 = .ok (.iconst 1, 1) := by decide +kernel
theorem dX6_readHead_58 : decode cX6_readHead 58 = .ok (.if_icmp .le 26, 3) := by decide +kernel
theorem dX6_readHead_61 : decode cX6_readHead 61 = .ok (.aload_n 0, 1) := by decide +kernel
theorem dX6_readHead_62 : decode cX6_readHead 62 = .ok (.bipush 6, 2) := by decide +kernel
theorem dX6_readHead_64 : decode cX6_readHead 64 = .ok (.aload_n 0, 1) := by decide +kernel
theorem dX6_readHead_65 : decode cX6_readHead 65 = .ok (.getfield 88, 3) := by decide +kernel
theorem dX6_readHead_68 : decode cX6_readHead 68 = .ok (.iconst 2, 1) := by decide +kernel
theorem dX6_readHead_69 : decode cX6_readHead 69 = .ok (.iadd, 1) := by decide +kernel
theorem dX6_readHead_70 : decode cX6_readHead 70 = .ok (.invokevirtual 97, 3) := by decide +kernel
theorem dX6_readHead_73 : decode cX6_readHead 73 = .ok (.aload_n 0, 1) := by decide +kernel
theorem dX6_readHead_74 : decode cX6_readHead 74 = .ok (.aload_n 0, 1) := by decide +kernel
theorem dX6_readHead_75 : decode cX6_readHead 75 = .ok (.iconst 5, 1) := by decide +kernel
theorem dX6_readHead_76 : decode cX6_readHead 76 = .ok (.invokevirtual 66, 3) := by decide +kernel
theorem dX6_readHead_79 : decode cX6_readHead 79 = .ok (.iconst 1, 1) := by decide +kernel
theorem dX6_readHead_80 : decode cX6_readHead 80 = .ok (.iadd, 1) := by decide +kernel
theorem dX6_readHead_81 : decode cX6_readHead 81 = .ok (.putfield 100, 3) := by decide +kernel
theorem dX6_readHead_84 : decode cX6_readHead 84 = .ok (.iconst 0, 1) := by decide +kernel
theorem dX6_readHead_85 : decode cX6_readHead 85 = .ok (.istore_n 1, 1) := by decide +kernel
theorem dX6_readHead_86 : decode cX6_readHead 86 = .ok (.iload_n 1, 1) := by decide +kernel
theorem dX6_readHead_87 : decode cX6_readHead 87 = .ok (.aload_n 0, 1) := by decide +kernel
theorem dX6_readHead_88 : decode cX6_readHead 88 = .ok (.getfield 88, 3) := by decide +kernel
theorem dX6_readHead_91 : decode cX6_readHead 91 = .ok (.if_icmp .ge 20, 3) := by decide +kernel
theorem dX6_readHead_94 : decode cX6_readHead 94 = .ok (.aload_n 0, 1) := by decide +kernel
theorem dX6_readHead_95 : decode cX6_readHead 95 = .ok (.getfield 35, 3) := by decide +kernel
theorem dX6_readHead_98 : decode cX6_readHead 98 = .ok (.iload_n 1, 1) := by decide +kernel
theorem dX6_readHead_99 : decode cX6_readHead 99 = .ok (.aload_n 0, 1) := by decide +kernel
theorem dX6_readHead_100 : decode cX6_readHead 100 = .ok (.iconst 2, 1) := by decide +kernel
theorem dX6_readHead_101 : decode cX6_readHead 101 = .ok (.invokevirtual 66, 3) := by decide +kernel
theorem dX6_readHead_104 : decode cX6_readHead 104 = .ok (.iastore, 1) := by decide +kernel
theorem dX6_readHead_105 : decode cX6_readHead 105 = .ok (.iinc 1 1, 3) := by decide +kernel
theorem dX6_readHead_108 : decode cX6_readHead 108 = .ok (.goto (-22), 3) := by decide +kernel
theorem dX6_readHead_111 : decode cX6_readHead 111 = .ok (.aload_n 0, 1) := by decide +kernel
theorem dX6_readHead_112 : decode cX6_readHead 112 = .ok (.iconst 2, 1) := by decide +kernel
theorem dX6_readHead_113 : decode cX6_readHead 113 = .ok (.invokevirtual 66, 3) := by decide +kernel
theorem dX6_readHead_116 : decode cX6_readHead 116 = .ok (.iconst 1, 1) := by decide +kernel
theorem dX6_readHead_117 : decode cX6_readHead 117 = .ok (.iadd, 1) := by decide +kernel
theorem dX6_readHead_118 : decode cX6_readHead 118 = .ok (.istore_n 1, 1) := by decide +kernel
theorem dX6_readHead_119 : decode cX6_readHead 119 = .ok (.aload_n 0, 1) := by decide +kernel
theorem dX6_readHead_120 : decode cX6_readHead 120 = .ok (.getfield 59, 3) := by decide +kernel
theorem dX6_readHead_123 : decode cX6_readHead 123 = .ok (.ifCond .ne 8, 3) := by decide +kernel
theorem dX6_readHead_126 : decode cX6_readHead 126 = .ok (.aload_n 0, 1) := by decide +kernel
theorem dX6_readHead_127 : decode cX6_readHead 127 = .ok (.iload_n 1, 1) := by decide +kernel
theorem dX6_readHead_128 : decode cX6_readHead 128 = .ok (.invokevirtual 103, 3) := by decide +kernel
theorem dX6_readHead_131 : decode cX6_readHead 131 = .ok (.iconst 0, 1) := by decide +kernel
theorem dX6_readHead_132 : decode cX6_readHead 132 = .ok (.istore_n 2, 1) := by decide +kernel
theorem dX6_readHead_133 : decode cX6_readHead 133 = .ok (.iload_n 2, 1) := by decide +kernel
theorem dX6_readHead_134 : decode cX6_readHead 134 = .ok (.iload_n 1, 1) := by decide +kernel
theorem dX6_readHead_135 : decode cX6_readHead 135 = .ok (.if_icmp .ge 23, 3) := by decide +kernel
theorem dX6_readHead_138 : decode cX6_readHead 138 = .ok (.aload_n 0, 1) := by decide +kernel
theorem dX6_readHead_139 : decode cX6_readHead 139 = .ok (.getfield 59, 3) := by decide +kernel
theorem dX6_readHead_142 : decode cX6_readHead 142 = .ok (.ifCond .ne 16, 3) := by decide +kernel
theorem dX6_readHead_145 : decode cX6_readHead 145 = .ok (.aload_n 0, 1) := by decide +kernel
theorem dX6_readHead_146 : decode cX6_readHead 146 = .ok (.iload_n 2, 1) := by decide +kernel
theorem dX6_readHead_147 : decode cX6_readHead 147 = .ok (.bipush 32, 2) := by decide +kernel
theorem dX6_readHead_149 : decode cX6_readHead 149 = .ok (.invokevirtual 97, 3) := by decide +kernel
theorem dX6_readHead_152 : decode cX6_readHead 152 = .ok (.iinc 2 1, 3) := by decide +kernel
theorem dX6_readHead_155 : decode cX6_readHead 155 = .ok (.goto (-22), 3) := by decide +kernel
theorem dX6_readHead_158 : decode cX6_readHead 158 = .ok (.aload_n 0, 1) := by decide +kernel
theorem dX6_readHead_159 : decode cX6_readHead 159 = .ok (.getfield 59, 3) := by decide +kernel
theorem dX6_readHead_162 : decode cX6_readHead 162 = .ok (.ifCond .ne 10, 3) := by decide +kernel
theorem dX6_readHead_165 : decode cX6_readHead 165 = .ok (.aload_n 0, 1) := by decide +kernel
theorem dX6_readHead_166 : decode cX6_readHead 166 = .ok (.iconst 4, 1) := by decide +kernel
theorem dX6_readHead_167 : decode cX6_readHead 167 = .ok (.bipush 16, 2) := by decide +kernel
theorem dX6_readHead_169 : decode cX6_readHead 169 = .ok (.invokevirtual 97, 3) := by decide +kernel
theorem dX6_readHead_172 : decode cX6_readHead 172 = .ok (.aload_n 0, 1) := by decide +kernel
theorem dX6_readHead_173 : decode cX6_readHead 173 = .ok (.getfield 59, 3) := by decide +kernel
theorem dX6_readHead_176 : decode cX6_readHead 176 = .ok (.ifCond .ne 10, 3) := by decide +kernel
theorem dX6_readHead_179 : decode cX6_readHead 179 = .ok (.aload_n 0, 1) := by decide +kernel
theorem dX6_readHead_180 : decode cX6_readHead 180 = .ok (.iconst 5, 1) := by decide +kernel
theorem dX6_readHead_181 : decode cX6_readHead 181 = .ok (.bipush 12, 2) := by decide +kernel
theorem dX6_readHead_183 : decode cX6_readHead 183 = .ok (.invokevirtual 97, 3) := by decide +kernel
theorem dX6_readHead_186 : decode cX6_readHead 186 = .ok (.return_, 1) := by decide +kernel
theorem dX6_turn_0 : decode cX6_turn 0 = .ok (.aload_n 0, 1) := by decide +kernel
theorem dX6_turn_1 : decode cX6_turn 1 = .ok (.bipush 6, 2) := by decide +kernel
theorem dX6_turn_3 : decode cX6_turn 3 = .ok (.invokevirtual 106, 3) := by decide +kernel
theorem dX6_turn_6 : decode cX6_turn 6 = .ok (.istore_n 1, 1) := by decide +kernel
theorem dX6_turn_7 : decode cX6_turn 7 = .ok (.iload_n 1, 1) := by decide +kernel
theorem dX6_turn_8 : decode cX6_turn 8 = .ok (.ifCond .ne 10, 3) := by decide +kernel
theorem dX6_turn_11 : decode cX6_turn 11 = .ok (.aload_n 0, 1) := by decide +kernel
theorem dX6_turn_12 : decode cX6_turn 12 = .ok (.getfield 94, 3) := by decide +kernel
theorem dX6_turn_15 : decode cX6_turn 15 = .ok (.goto 25, 3) := by decide +kernel
theorem dX6_turn_18 : decode cX6_turn 18 = .ok (.iload_n 1, 1) := by decide +kernel
theorem dX6_turn_19 : decode cX6_turn 19 = .ok (.iconst 1, 1) := by decide +kernel
theorem dX6_turn_20 : decode cX6_turn 20 = .ok (.if_icmp .ne 17, 3) := by decide +kernel
theorem dX6_turn_23 : decode cX6_turn 23 = .ok (.aload_n 0, 1) := by decide +kernel
theorem dX6_turn_24 : decode cX6_turn 24 = .ok (.getfield 91, 3) := by decide +kernel
theorem dX6_turn_27 : decode cX6_turn 27 = .ok (.iconst 1, 1) := by decide +kernel
theorem dX6_turn_28 : decode cX6_turn 28 = .ok (.iadd, 1) := by decide +kernel
theorem dX6_turn_29 : decode cX6_turn 29 = .ok (.aload_n 0, 1) := by decide +kernel
theorem dX6_turn_30 : decode cX6_turn 30 = .ok (.getfield 88, 3) := by decide +kernel
theorem dX6_turn_33 : decode cX6_turn 33 = .ok (.irem, 1) := by decide +kernel
theorem dX6_turn_34 : decode cX6_turn 34 = .ok (.goto 6, 3) := by decide +kernel
theorem dX6_turn_37 : decode cX6_turn 37 = .ok (.iload_n 1, 1) := by decide +kernel
theorem dX6_turn_38 : decode cX6_turn 38 = .ok (.iconst 2, 1) := by decide +kernel
theorem dX6_turn_39 : decode cX6_turn 39 = .ok (.isub, 1) := by decide +kernel
theorem dX6_turn_40 : decode cX6_turn 40 = .ok (.istore_n 2, 1) := by decide +kernel
theorem dX6_turn_41 : decode cX6_turn 41 = .ok (.aload_n 0, 1) := by decide +kernel
theorem dX6_turn_42 : decode cX6_turn 42 = .ok (.aload_n 0, 1) := by decide +kernel
theorem dX6_turn_43 : decode cX6_turn 43 = .ok (.iconst 5, 1) := by decide +kernel
theorem dX6_turn_44 : decode cX6_turn 44 = .ok (.invokevirtual 66, 3) := by decide +kernel
theorem dX6_turn_47 : decode cX6_turn 47 = .ok (.iconst 1, 1) := by decide +kernel
theorem dX6_turn_48 : decode cX6_turn 48 = .ok (.iadd, 1) := by decide +kernel
theorem dX6_turn_49 : decode cX6_turn 49 = .ok (.putfield 100, 3) := by decide +kernel
theorem dX6_turn_52 : decode cX6_turn 52 = .ok (.aload_n 0, 1) := by decide +kernel
theorem dX6_turn_53 : decode cX6_turn 53 = .ok (.getfield 59, 3) := by decide +kernel
theorem dX6_turn_56 : decode cX6_turn 56 = .ok (.ifCond .ne 26, 3) := by decide +kernel
theorem dX6_turn_59 : decode cX6_turn 59 = .ok (.aload_n 0, 1) := by decide +kernel
theorem dX6_turn_60 : decode cX6_turn 60 = .ok (.aload_n 0, 1) := by decide +kernel
theorem dX6_turn_61 : decode cX6_turn 61 = .ok (.getfield 91, 3) := by decide +kernel
theorem dX6_turn_64 : decode cX6_turn 64 = .ok (.putfield 94, 3) := by decide +kernel
theorem dX6_turn_67 : decode cX6_turn 67 = .ok (.aload_n 0, 1) := by decide +kernel
theorem dX6_turn_68 : decode cX6_turn 68 = .ok (.iload_n 2, 1) := by decide +kernel
theorem dX6_turn_69 : decode cX6_turn 69 = .ok (.putfield 91, 3) := by decide +kernel
theorem dX6_turn_72 : decode cX6_turn 72 = .ok (.aload_n 0, 1) := by decide +kernel
theorem dX6_turn_73 : decode cX6_turn 73 = .ok (.getfield 23, 3) := by decide +kernel
theorem dX6_turn_76 : decode cX6_turn 76 = .ok (.iconst 4, 1) := by decide +kernel
theorem dX6_turn_77 : decode cX6_turn 77 = .ok (.dup2, 1) := by decide +kernel
theorem dX6_turn_78 : decode cX6_turn 78 = .ok (.iaload, 1) := by decide +kernel
theorem dX6_turn_79 : decode cX6_turn 79 = .ok (.iconst 1, 1) := by decide +kernel
theorem dX6_turn_80 : decode cX6_turn 80 = .ok (.iadd, 1) := by decide +kernel
theorem dX6_turn_81 : decode cX6_turn 81 = .ok (.iastore, 1) := by decide +kernel
theorem dX6_turn_82 : decode cX6_turn 82 = .ok (.return_, 1) := by decide +kernel
theorem dX6_context_0 : decode cX6_context 0 = .ok (.aload_n 0, 1) := by decide +kernel
theorem dX6_context_1 : decode cX6_context 1 = .ok (.getfield 85, 3) := by decide +kernel
theorem dX6_context_4 : decode cX6_context 4 = .ok (.ifCond .le 17, 3) := by decide +kernel
theorem dX6_context_7 : decode cX6_context 7 = .ok (.aload_n 0, 1) := by decide +kernel
theorem dX6_context_8 : decode cX6_context 8 = .ok (.getfield 17, 3) := by decide +kernel
theorem dX6_context_11 : decode cX6_context 11 = .ok (.aload_n 0, 1) := by decide +kernel
theorem dX6_context_12 : decode cX6_context 12 = .ok (.getfield 85, 3) := by decide +kernel
theorem dX6_context_15 : decode cX6_context 15 = .ok (.iconst 1, 1) := by decide +kernel
theorem dX6_context_16 : decode cX6_context 16 = .ok (.isub, 1) := by decide +kernel
theorem dX6_context_17 : decode cX6_context 17 = .ok (.iaload, 1) := by decide +kernel
theorem dX6_context_18 : decode cX6_context 18 = .ok (.goto 4, 3) := by decide +kernel
theorem dX6_context_21 : decode cX6_context 21 = .ok (.iconst 0, 1) := by decide +kernel
theorem dX6_context_22 : decode cX6_context 22 = .ok (.istore_n 1, 1) := by decide +kernel
theorem dX6_context_23 : decode cX6_context 23 = .ok (.aload_n 0, 1) := by decide +kernel
theorem dX6_context_24 : decode cX6_context 24 = .ok (.getfield 85, 3) := by decide +kernel
theorem dX6_context_27 : decode cX6_context 27 = .ok (.iconst 1, 1) := by decide +kernel
theorem dX6_context_28 : decode cX6_context 28 = .ok (.if_icmp .le 17, 3) := by decide +kernel
theorem dX6_context_31 : decode cX6_context 31 = .ok (.aload_n 0, 1) := by decide +kernel
theorem dX6_context_32 : decode cX6_context 32 = .ok (.getfield 17, 3) := by decide +kernel
theorem dX6_context_35 : decode cX6_context 35 = .ok (.aload_n 0, 1) := by decide +kernel
theorem dX6_context_36 : decode cX6_context 36 = .ok (.getfield 85, 3) := by decide +kernel
theorem dX6_context_39 : decode cX6_context 39 = .ok (.iconst 2, 1) := by decide +kernel
theorem dX6_context_40 : decode cX6_context 40 = .ok (.isub, 1) := by decide +kernel
theorem dX6_context_41 : decode cX6_context 41 = .ok (.iaload, 1) := by decide +kernel
theorem dX6_context_42 : decode cX6_context 42 = .ok (.goto 4, 3) := by decide +kernel
theorem dX6_context_45 : decode cX6_context 45 = .ok (.iconst 0, 1) := by decide +kernel
theorem dX6_context_46 : decode cX6_context 46 = .ok (.istore_n 2, 1) := by decide +kernel
theorem dX6_context_47 : decode cX6_context 47 = .ok (.aload_n 0, 1) := by decide +kernel
theorem dX6_context_48 : decode cX6_context 48 = .ok (.getfield 35, 3) := by decide +kernel
theorem dX6_context_51 : decode cX6_context 51 = .ok (.aload_n 0, 1) := by decide +kernel
theorem dX6_context_52 : decode cX6_context 52 = .ok (.getfield 91, 3) := by decide +kernel
theorem dX6_context_55 : decode cX6_context 55 = .ok (.iaload, 1) := by decide +kernel
theorem dX6_context_56 : decode cX6_context 56 = .ok (.tableswitch 67 0 2 #[28, 32, 37], 28) := by decide +kernel
theorem dX6_context_84 : decode cX6_context 84 = .ok (.iload_n 1, 1) := by decide +kernel
theorem dX6_context_85 : decode cX6_context 85 = .ok (.iconst 4, 1) := by decide +kernel
theorem dX6_context_86 : decode cX6_context 86 = .ok (.irem, 1) := by decide +kernel
theorem dX6_context_87 : decode cX6_context 87 = .ok (.ireturn, 1) := by decide +kernel
theorem dX6_context_88 : decode cX6_context 88 = .ok (.iload_n 1, 1) := by decide +kernel
theorem dX6_context_89 : decode cX6_context 89 = .ok (.bipush 8, 2) := by decide +kernel
theorem dX6_context_91 : decode cX6_context 91 = .ok (.idiv, 1) := by decide +kernel
theorem dX6_context_92 : decode cX6_context 92 = .ok (.ireturn, 1) := by decide +kernel
theorem dX6_context_93 : decode cX6_context 93 = .ok (.iload_n 1, 1) := by decide +kernel
theorem dX6_context_94 : decode cX6_context 94 = .ok (.ifCond .ne 7, 3) := by decide +kernel
theorem dX6_context_97 : decode cX6_context 97 = .ok (.iconst 0, 1) := by decide +kernel
theorem dX6_context_98 : decode cX6_context 98 = .ok (.goto 24, 3) := by decide +kernel
theorem dX6_context_101 : decode cX6_context 101 = .ok (.iload_n 1, 1) := by decide +kernel
theorem dX6_context_102 : decode cX6_context 102 = .ok (.bipush 8, 2) := by decide +kernel
theorem dX6_context_104 : decode cX6_context 104 = .ok (.if_icmp .ge 7, 3) := by decide +kernel
theorem dX6_context_107 : decode cX6_context 107 = .ok (.iconst 1, 1) := by decide +kernel
theorem dX6_context_108 : decode cX6_context 108 = .ok (.goto 14, 3) := by decide +kernel
theorem dX6_context_111 : decode cX6_context 111 = .ok (.iload_n 1, 1) := by decide +kernel
theorem dX6_context_112 : decode cX6_context 112 = .ok (.bipush 20, 2) := by decide +kernel
theorem dX6_context_114 : decode cX6_context 114 = .ok (.if_icmp .ge 7, 3) := by decide +kernel
theorem dX6_context_117 : decode cX6_context 117 = .ok (.iconst 2, 1) := by decide +kernel
theorem dX6_context_118 : decode cX6_context 118 = .ok (.goto 4, 3) := by decide +kernel
theorem dX6_context_121 : decode cX6_context 121 = .ok (.iconst 3, 1) := by decide +kernel
theorem dX6_context_122 : decode cX6_context 122 = .ok (.ireturn, 1) := by decide +kernel
theorem dX6_context_123 : decode cX6_context 123 = .ok (.iconst 2, 1) := by decide +kernel
theorem dX6_context_124 : decode cX6_context 124 = .ok (.iload_n 1, 1) := by decide +kernel
theorem dX6_context_125 : decode cX6_context 125 = .ok (.bipush 16, 2) := by decide +kernel
theorem dX6_context_127 : decode cX6_context 127 = .ok (.idiv, 1) := by decide +kernel
theorem dX6_context_128 : decode cX6_context 128 = .ok (.imul, 1) := by decide +kernel
theorem dX6_context_129 : decode cX6_context 129 = .ok (.iload_n 2, 1) := by decide +kernel
theorem dX6_context_130 : decode cX6_context 130 = .ok (.bipush 16, 2) := by decide +kernel
theorem dX6_context_132 : decode cX6_context 132 = .ok (.idiv, 1) := by decide +kernel
theorem dX6_context_133 : decode cX6_context 133 = .ok (.iadd, 1) := by decide +kernel
theorem dX6_context_134 : decode cX6_context 134 = .ok (.ireturn, 1) := by decide +kernel
theorem dX6_readLetter_0 : decode cX6_readLetter 0 = .ok (.aload_n 0, 1) := by decide +kernel
theorem dX6_readLetter_1 : decode cX6_readLetter 1 = .ok (.getfield 88, 3) := by decide +kernel
theorem dX6_readLetter_4 : decode cX6_readLetter 4 = .ok (.iconst 1, 1) := by decide +kernel
theorem dX6_readLetter_5 : decode cX6_readLetter 5 = .ok (.if_icmp .le 14, 3) := by decide +kernel
theorem dX6_readLetter_8 : decode cX6_readLetter 8 = .ok (.aload_n 0, 1) := by decide +kernel
theorem dX6_readLetter_9 : decode cX6_readLetter 9 = .ok (.getfield 100, 3) := by decide +kernel
theorem dX6_readLetter_12 : decode cX6_readLetter 12 = .ok (.ifCond .ne 7, 3) := by decide +kernel
theorem dX6_readLetter_15 : decode cX6_readLetter 15 = .ok (.aload_n 0, 1) := by decide +kernel
theorem dX6_readLetter_16 : decode cX6_readLetter 16 = .ok (.invokevirtual 109, 3) := by decide +kernel
theorem dX6_readLetter_19 : decode cX6_readLetter 19 = .ok (.aload_n 0, 1) := by decide +kernel
theorem dX6_readLetter_20 : decode cX6_readLetter 20 = .ok (.getfield 59, 3) := by decide +kernel
theorem dX6_readLetter_23 : decode cX6_readLetter 23 = .ok (.ifCond .eq 4, 3) := by decide +kernel
theorem dX6_readLetter_26 : decode cX6_readLetter 26 = .ok (.return_, 1) := by decide +kernel
theorem dX6_readLetter_27 : decode cX6_readLetter 27 = .ok (.aload_n 0, 1) := by decide +kernel
theorem dX6_readLetter_28 : decode cX6_readLetter 28 = .ok (.dup, 1) := by decide +kernel
theorem dX6_readLetter_29 : decode cX6_readLetter 29 = .ok (.getfield 100, 3) := by decide +kernel
theorem dX6_readLetter_32 : decode cX6_readLetter 32 = .ok (.iconst 1, 1) := by decide +kernel
theorem dX6_readLetter_33 : decode cX6_readLetter 33 = .ok (.isub, 1) := by decide +kernel
theorem dX6_readLetter_34 : decode cX6_readLetter 34 = .ok (.putfield 100, 3) := by decide +kernel
theorem dX6_readLetter_37 : decode cX6_readLetter 37 = .ok (.aload_n 0, 1) := by decide +kernel
theorem dX6_readLetter_38 : decode cX6_readLetter 38 = .ok (.aload_n 0, 1) := by decide +kernel
theorem dX6_readLetter_39 : decode cX6_readLetter 39 = .ok (.aload_n 0, 1) := by decide +kernel
theorem dX6_readLetter_40 : decode cX6_readLetter 40 = .ok (.getfield 38, 3) := by decide +kernel
theorem dX6_readLetter_43 : decode cX6_readLetter 43 = .ok (.iconst 4, 1) := by decide +kernel
theorem dX6_readLetter_44 : decode cX6_readLetter 44 = .ok (.aload_n 0, 1) := by decide +kernel
theorem dX6_readLetter_45 : decode cX6_readLetter 45 = .ok (.getfield 91, 3) := by decide +kernel
theorem dX6_readLetter_48 : decode cX6_readLetter 48 = .ok (.imul, 1) := by decide +kernel
theorem dX6_readLetter_49 : decode cX6_readLetter 49 = .ok (.aload_n 0, 1) := by decide +kernel
theorem dX6_readLetter_50 : decode cX6_readLetter 50 = .ok (.invokevirtual 112, 3) := by decide +kernel
theorem dX6_readLetter_53 : decode cX6_readLetter 53 = .ok (.iadd, 1) := by decide +kernel
theorem dX6_readLetter_54 : decode cX6_readLetter 54 = .ok (.iaload, 1) := by decide +kernel
theorem dX6_readLetter_55 : decode cX6_readLetter 55 = .ok (.invokevirtual 106, 3) := by decide +kernel
theorem dX6_readLetter_58 : decode cX6_readLetter 58 = .ok (.invokevirtual 81, 3) := by decide +kernel
theorem dX6_readLetter_61 : decode cX6_readLetter 61 = .ok (.aload_n 0, 1) := by decide +kernel
theorem dX6_readLetter_62 : decode cX6_readLetter 62 = .ok (.getfield 23, 3) := by decide +kernel
theorem dX6_readLetter_65 : decode cX6_readLetter 65 = .ok (.iconst 1, 1) := by decide +kernel
theorem dX6_readLetter_66 : decode cX6_readLetter 66 = .ok (.dup2, 1) := by decide +kernel
theorem dX6_readLetter_67 : decode cX6_readLetter 67 = .ok (.iaload, 1) := by decide +kernel
theorem dX6_readLetter_68 : decode cX6_readLetter 68 = .ok (.aload_n 0, 1) := by decide +kernel
theorem dX6_readLetter_69 : decode cX6_readLetter 69 = .ok (.getfield 59, 3) := by decide +kernel
theorem dX6_readLetter_72 : decode cX6_readLetter 72 = .ok (.ifCond .eq 7, 3) := by decide +kernel
theorem dX6_readLetter_75 : decode cX6_readLetter 75 = .ok (.iconst 0, 1) := by decide +kernel
theorem dX6_readLetter_76 : decode cX6_readLetter 76 = .ok (.goto 4, 3) := by decide +kernel
theorem dX6_readLetter_79 : decode cX6_readLetter 79 = .ok (.iconst 1, 1) := by decide +kernel
theorem dX6_readLetter_80 : decode cX6_readLetter 80 = .ok (.iadd, 1) := by decide +kernel
theorem dX6_readLetter_81 : decode cX6_readLetter 81 = .ok (.iastore, 1) := by decide +kernel
theorem dX6_readLetter_82 : decode cX6_readLetter 82 = .ok (.return_, 1) := by decide +kernel
theorem dX6_baseOf_0 : decode cX6_baseOf 0 = .ok (.iload_n 2, 1) := by decide +kernel
theorem dX6_baseOf_1 : decode cX6_baseOf 1 = .ok (.ifCond .ne 11, 3) := by decide +kernel
theorem dX6_baseOf_4 : decode cX6_baseOf 4 = .ok (.iconst 1, 1) := by decide +kernel
theorem dX6_baseOf_5 : decode cX6_baseOf 5 = .ok (.iload_n 1, 1) := by decide +kernel
theorem dX6_baseOf_6 : decode cX6_baseOf 6 = .ok (.ishl, 1) := by decide +kernel
theorem dX6_baseOf_7 : decode cX6_baseOf 7 = .ok (.iconst 1, 1) := by decide +kernel
theorem dX6_baseOf_8 : decode cX6_baseOf 8 = .ok (.isub, 1) := by decide +kernel
theorem dX6_baseOf_9 : decode cX6_baseOf 9 = .ok (.goto 8, 3) := by decide +kernel
theorem dX6_baseOf_12 : decode cX6_baseOf 12 = .ok (.iconst 1, 1) := by decide +kernel
theorem dX6_baseOf_13 : decode cX6_baseOf 13 = .ok (.iload_n 1, 1) := by decide +kernel
theorem dX6_baseOf_14 : decode cX6_baseOf 14 = .ok (.ishl, 1) := by decide +kernel
theorem dX6_baseOf_15 : decode cX6_baseOf 15 = .ok (.iconst 1, 1) := by decide +kernel
theorem dX6_baseOf_16 : decode cX6_baseOf 16 = .ok (.iadd, 1) := by decide +kernel
theorem dX6_baseOf_17 : decode cX6_baseOf 17 = .ok (.ireturn, 1) := by decide +kernel
theorem dX6_wordLetter_0 : decode cX6_wordLetter 0 = .ok (.bipush 7, 2) := by decide +kernel
theorem dX6_wordLetter_2 : decode cX6_wordLetter 2 = .ok (.iload_n 1, 1) := by decide +kernel
theorem dX6_wordLetter_3 : decode cX6_wordLetter 3 = .ok (.imul, 1) := by decide +kernel
theorem dX6_wordLetter_4 : decode cX6_wordLetter 4 = .ok (.iconst 5, 1) := by decide +kernel
theorem dX6_wordLetter_5 : decode cX6_wordLetter 5 = .ok (.iload_n 2, 1) := by decide +kernel
theorem dX6_wordLetter_6 : decode cX6_wordLetter 6 = .ok (.imul, 1) := by decide +kernel
theorem dX6_wordLetter_7 : decode cX6_wordLetter 7 = .ok (.iadd, 1) := by decide +kernel
theorem dX6_wordLetter_8 : decode cX6_wordLetter 8 = .ok (.iconst 3, 1) := by decide +kernel
theorem dX6_wordLetter_9 : decode cX6_wordLetter 9 = .ok (.iload_n 3, 1) := by decide +kernel
theorem dX6_wordLetter_10 : decode cX6_wordLetter 10 = .ok (.imul, 1) := by decide +kernel
theorem dX6_wordLetter_11 : decode cX6_wordLetter 11 = .ok (.iload_n 3, 1) := by decide +kernel
theorem dX6_wordLetter_12 : decode cX6_wordLetter 12 = .ok (.imul, 1) := by decide +kernel
theorem dX6_wordLetter_13 : decode cX6_wordLetter 13 = .ok (.iadd, 1) := by decide +kernel
theorem dX6_wordLetter_14 : decode cX6_wordLetter 14 = .ok (.iload_n 3, 1) := by decide +kernel
theorem dX6_wordLetter_15 : decode cX6_wordLetter 15 = .ok (.iload_n 1, 1) := by decide +kernel
theorem dX6_wordLetter_16 : decode cX6_wordLetter 16 = .ok (.imul, 1) := by decide +kernel
theorem dX6_wordLetter_17 : decode cX6_wordLetter 17 = .ok (.iadd, 1) := by decide +kernel
theorem dX6_wordLetter_18 : decode cX6_wordLetter 18 = .ok (.bipush 32, 2) := by decide +kernel
theorem dX6_wordLetter_20 : decode cX6_wordLetter 20 = .ok (.irem, 1) := by decide +kernel
theorem dX6_wordLetter_21 : decode cX6_wordLetter 21 = .ok (.ireturn, 1) := by decide +kernel
theorem dX6_dictionary_0 : decode cX6_dictionary 0 = .ok (.iload_n 1, 1) := by decide +kernel
theorem dX6_dictionary_1 : decode cX6_dictionary 1 = .ok (.bipush 8, 2) := by decide +kernel
theorem dX6_dictionary_3 : decode cX6_dictionary 3 = .ok (.idiv, 1) := by decide +kernel
theorem dX6_dictionary_4 : decode cX6_dictionary 4 = .ok (.istore 4, 2) := by decide +kernel
theorem dX6_dictionary_6 : decode cX6_dictionary 6 = .ok (.iload_n 1, 1) := by decide +kernel
theorem dX6_dictionary_7 : decode cX6_dictionary 7 = .ok (.bipush 8, 2) := by decide +kernel
theorem dX6_dictionary_9 : decode cX6_dictionary 9 = .ok (.irem, 1) := by decide +kernel
theorem dX6_dictionary_10 : decode cX6_dictionary 10 = .ok (.istore 5, 2) := by decide +kernel
theorem dX6_dictionary_12 : decode cX6_dictionary 12 = .ok (.iload 4, 2) := by decide +kernel
theorem dX6_dictionary_14 : decode cX6_dictionary 14 = .ok (.iconst 2, 1) := by decide +kernel
theorem dX6_dictionary_15 : decode cX6_dictionary 15 = .ok (.if_icmp .ne 7, 3) := by decide +kernel
theorem dX6_dictionary_18 : decode cX6_dictionary 18 = .ok (.iconst 1, 1) := by decide +kernel
theorem dX6_dictionary_19 : decode cX6_dictionary 19 = .ok (.goto 4, 3) := by decide +kernel
theorem dX6_dictionary_22 : decode cX6_dictionary 22 = .ok (.iconst 0, 1) := by decide +kernel
theorem dX6_dictionary_23 : decode cX6_dictionary 23 = .ok (.istore 6, 2) := by decide +kernel
theorem dX6_dictionary_25 : decode cX6_dictionary 25 = .ok (.iload 4, 2) := by decide +kernel
theorem dX6_dictionary_27 : decode cX6_dictionary 27 = .ok (.iconst 3, 1) := by decide +kernel
theorem dX6_dictionary_28 : decode cX6_dictionary 28 = .ok (.if_icmp .ne 9, 3) := by decide +kernel
theorem dX6_dictionary_31 : decode cX6_dictionary 31 = .ok (.iload_n 2, 1) := by decide +kernel
theorem dX6_dictionary_32 : decode cX6_dictionary 32 = .ok (.iconst 1, 1) := by decide +kernel
theorem dX6_dictionary_33 : decode cX6_dictionary 33 = .ok (.isub, 1) := by decide +kernel
theorem dX6_dictionary_34 : decode cX6_dictionary 34 = .ok (.goto 4, 3) := by decide +kernel
theorem dX6_dictionary_37 : decode cX6_dictionary 37 = .ok (.iload_n 2, 1) := by decide +kernel
theorem dX6_dictionary_38 : decode cX6_dictionary 38 = .ok (.istore 7, 2) := by decide +kernel
theorem dX6_dictionary_40 : decode cX6_dictionary 40 = .ok (.iload 7, 2) := by decide +kernel
theorem dX6_dictionary_42 : decode cX6_dictionary 42 = .ok (.iload 6, 2) := by decide +kernel
theorem dX6_dictionary_44 : decode cX6_dictionary 44 = .ok (.isub, 1) := by decide +kernel
theorem dX6_dictionary_45 : decode cX6_dictionary 45 = .ok (.iload 4, 2) := by decide +kernel
theorem dX6_dictionary_47 : decode cX6_dictionary 47 = .ok (.iconst 4, 1) := by decide +kernel
theorem dX6_dictionary_48 : decode cX6_dictionary 48 = .ok (.if_icmp .ne 7, 3) := by decide +kernel
theorem dX6_dictionary_51 : decode cX6_dictionary 51 = .ok (.iconst 1, 1) := by decide +kernel
theorem dX6_dictionary_52 : decode cX6_dictionary 52 = .ok (.goto 4, 3) := by decide +kernel
theorem dX6_dictionary_55 : decode cX6_dictionary 55 = .ok (.iconst 0, 1) := by decide +kernel
theorem dX6_dictionary_56 : decode cX6_dictionary 56 = .ok (.iadd, 1) := by decide +kernel
theorem dX6_dictionary_57 : decode cX6_dictionary 57 = .ok (.istore 8, 2) := by decide +kernel
theorem dX6_dictionary_59 : decode cX6_dictionary 59 = .ok (.aload_n 0, 1) := by decide +kernel
theorem dX6_dictionary_60 : decode cX6_dictionary 60 = .ok (.aload_n 0, 1) := by decide +kernel
theorem dX6_dictionary_61 : decode cX6_dictionary 61 = .ok (.getfield 59, 3) := by decide +kernel
theorem dX6_dictionary_64 : decode cX6_dictionary 64 = .ok (.ifCond .ne 26, 3) := by decide +kernel
theorem dX6_dictionary_67 : decode cX6_dictionary 67 = .ok (.iload_n 2, 1) := by decide +kernel
theorem dX6_dictionary_68 : decode cX6_dictionary 68 = .ok (.iconst 3, 1) := by decide +kernel
theorem dX6_dictionary_69 : decode cX6_dictionary 69 = .ok (.if_icmp .lt 21, 3) := by decide +kernel
theorem dX6_dictionary_72 : decode cX6_dictionary 72 = .ok (.iload_n 2, 1) := by decide +kernel
theorem dX6_dictionary_73 : decode cX6_dictionary 73 = .ok (.bipush 6, 2) := by decide +kernel
theorem dX6_dictionary_75 : decode cX6_dictionary 75 = .ok (.if_icmp .gt 15, 3) := by decide +kernel
theorem dX6_dictionary_78 : decode cX6_dictionary 78 = .ok (.iload 4, 2) := by decide +kernel
theorem dX6_dictionary_80 : decode cX6_dictionary 80 = .ok (.iconst 4, 1) := by decide +kernel
theorem dX6_dictionary_81 : decode cX6_dictionary 81 = .ok (.if_icmp .gt 9, 3) := by decide +kernel
theorem dX6_dictionary_84 : decode cX6_dictionary 84 = .ok (.iload 8, 2) := by decide +kernel
theorem dX6_dictionary_86 : decode cX6_dictionary 86 = .ok (.iload_n 3, 1) := by decide +kernel
theorem dX6_dictionary_87 : decode cX6_dictionary 87 = .ok (.if_icmp .le 7, 3) := by decide +kernel
theorem dX6_dictionary_90 : decode cX6_dictionary 90 = .ok (.iconst 1, 1) := by decide +kernel
theorem dX6_dictionary_91 : decode cX6_dictionary 91 = .ok (.goto 4, 3) := by decide +kernel
theorem dX6_dictionary_94 : decode cX6_dictionary 94 = .ok (.iconst 0, 1) := by decide +kernel
theorem dX6_dictionary_95 : decode cX6_dictionary 95 = .ok (.putfield 59, 3) := by decide +kernel
theorem dX6_dictionary_98 : decode cX6_dictionary 98 = .ok (.iload 6, 2) := by decide +kernel
theorem dX6_dictionary_100 : decode cX6_dictionary 100 = .ok (.istore 9, 2) := by decide +kernel
theorem dX6_dictionary_102 : decode cX6_dictionary 102 = .ok (.iload 9, 2) := by decide +kernel
theorem dX6_dictionary_104 : decode cX6_dictionary 104 = .ok (.iload 7, 2) := by decide +kernel
theorem dX6_dictionary_106 : decode cX6_dictionary 106 = .ok (.if_icmp .ge 46, 3) := by decide +kernel
theorem dX6_dictionary_109 : decode cX6_dictionary 109 = .ok (.aload_n 0, 1) := by decide +kernel
theorem dX6_dictionary_110 : decode cX6_dictionary 110 = .ok (.getfield 59, 3) := by decide +kernel
theorem dX6_dictionary_113 : decode cX6_dictionary 113 = .ok (.ifCond .ne 39, 3) := by decide +kernel
theorem dX6_dictionary_116 : decode cX6_dictionary 116 = .ok (.aload_n 0, 1) := by decide +kernel
theorem dX6_dictionary_117 : decode cX6_dictionary 117 = .ok (.aload_n 0, 1) := by decide +kernel
theorem dX6_dictionary_118 : decode cX6_dictionary 118 = .ok (.iload 5, 2) := by decide +kernel
theorem dX6_dictionary_120 : decode cX6_dictionary 120 = .ok (.iload_n 2, 1) := by decide +kernel
theorem dX6_dictionary_121 : decode cX6_dictionary 121 = .ok (.iload 9, 2) := by decide +kernel
theorem dX6_dictionary_123 : decode cX6_dictionary 123 = .ok (.invokevirtual 116, 3) := by decide +kernel
theorem dX6_dictionary_126 : decode cX6_dictionary 126 = .ok (.iload 4, 2) := by decide +kernel
theorem dX6_dictionary_128 : decode cX6_dictionary 128 = .ok (.iconst 1, 1) := by decide +kernel
theorem dX6_dictionary_129 : decode cX6_dictionary 129 = .ok (.if_icmp .ne 12, 3) := by decide +kernel
theorem dX6_dictionary_132 : decode cX6_dictionary 132 = .ok (.iload 9, 2) := by decide +kernel
theorem dX6_dictionary_134 : decode cX6_dictionary 134 = .ok (.ifCond .ne 7, 3) := by decide +kernel
theorem dX6_dictionary_137 : decode cX6_dictionary 137 = .ok (.iconst 1, 1) := by decide +kernel
theorem dX6_dictionary_138 : decode cX6_dictionary 138 = .ok (.goto 4, 3) := by decide +kernel
theorem dX6_dictionary_141 : decode cX6_dictionary 141 = .ok (.iconst 0, 1) := by decide +kernel
theorem dX6_dictionary_142 : decode cX6_dictionary 142 = .ok (.ixor, 1) := by decide +kernel
theorem dX6_dictionary_143 : decode cX6_dictionary 143 = .ok (.invokevirtual 81, 3) := by decide +kernel
theorem dX6_dictionary_146 : decode cX6_dictionary 146 = .ok (.iinc 9 1, 3) := by decide +kernel
theorem dX6_dictionary_149 : decode cX6_dictionary 149 = .ok (.goto (-47), 3) := by decide +kernel
theorem dX6_dictionary_152 : decode cX6_dictionary 152 = .ok (.iload 4, 2) := by decide +kernel
theorem dX6_dictionary_154 : decode cX6_dictionary 154 = .ok (.iconst 4, 1) := by decide +kernel
theorem dX6_dictionary_155 : decode cX6_dictionary 155 = .ok (.if_icmp .ne 8, 3) := by decide +kernel
theorem dX6_dictionary_158 : decode cX6_dictionary 158 = .ok (.aload_n 0, 1) := by decide +kernel
theorem dX6_dictionary_159 : decode cX6_dictionary 159 = .ok (.iconst 0, 1) := by decide +kernel
theorem dX6_dictionary_160 : decode cX6_dictionary 160 = .ok (.invokevirtual 81, 3) := by decide +kernel
theorem dX6_dictionary_163 : decode cX6_dictionary 163 = .ok (.aload_n 0, 1) := by decide +kernel
theorem dX6_dictionary_164 : decode cX6_dictionary 164 = .ok (.getfield 23, 3) := by decide +kernel
theorem dX6_dictionary_167 : decode cX6_dictionary 167 = .ok (.iconst 3, 1) := by decide +kernel
theorem dX6_dictionary_168 : decode cX6_dictionary 168 = .ok (.dup2, 1) := by decide +kernel
theorem dX6_dictionary_169 : decode cX6_dictionary 169 = .ok (.iaload, 1) := by decide +kernel
theorem dX6_dictionary_170 : decode cX6_dictionary 170 = .ok (.aload_n 0, 1) := by decide +kernel
theorem dX6_dictionary_171 : decode cX6_dictionary 171 = .ok (.getfield 59, 3) := by decide +kernel
theorem dX6_dictionary_174 : decode cX6_dictionary 174 = .ok (.ifCond .eq 7, 3) := by decide +kernel
theorem dX6_dictionary_177 : decode cX6_dictionary 177 = .ok (.iconst 0, 1) := by decide +kernel
theorem dX6_dictionary_178 : decode cX6_dictionary 178 = .ok (.goto 5, 3) := by decide +kernel
theorem dX6_dictionary_181 : decode cX6_dictionary 181 = .ok (.iload 8, 2) := by decide +kernel
theorem dX6_dictionary_183 : decode cX6_dictionary 183 = .ok (.iadd, 1) := by decide +kernel
theorem dX6_dictionary_184 : decode cX6_dictionary 184 = .ok (.iastore, 1) := by decide +kernel
theorem dX6_dictionary_185 : decode cX6_dictionary 185 = .ok (.iload 8, 2) := by decide +kernel
theorem dX6_dictionary_187 : decode cX6_dictionary 187 = .ok (.ireturn, 1) := by decide +kernel
theorem dX6_piece_0 : decode cX6_piece 0 = .ok (.aload_n 0, 1) := by decide +kernel
theorem dX6_piece_1 : decode cX6_piece 1 = .ok (.iconst 5, 1) := by decide +kernel
theorem dX6_piece_2 : decode cX6_piece 2 = .ok (.invokevirtual 106, 3) := by decide +kernel
theorem dX6_piece_5 : decode cX6_piece 5 = .ok (.istore_n 3, 1) := by decide +kernel
theorem dX6_piece_6 : decode cX6_piece 6 = .ok (.iload_n 3, 1) := by decide +kernel
theorem dX6_piece_7 : decode cX6_piece 7 = .ok (.iconst 4, 1) := by decide +kernel
theorem dX6_piece_8 : decode cX6_piece 8 = .ok (.if_icmp .ge 14, 3) := by decide +kernel
theorem dX6_piece_11 : decode cX6_piece 11 = .ok (.aload_n 0, 1) := by decide +kernel
theorem dX6_piece_12 : decode cX6_piece 12 = .ok (.getfield 23, 3) := by decide +kernel
theorem dX6_piece_15 : decode cX6_piece 15 = .ok (.iconst 5, 1) := by decide +kernel
theorem dX6_piece_16 : decode cX6_piece 16 = .ok (.iload_n 3, 1) := by decide +kernel
theorem dX6_piece_17 : decode cX6_piece 17 = .ok (.iadd, 1) := by decide +kernel
theorem dX6_piece_18 : decode cX6_piece 18 = .ok (.iaload, 1) := by decide +kernel
theorem dX6_piece_19 : decode cX6_piece 19 = .ok (.goto 4, 3) := by decide +kernel
theorem dX6_piece_22 : decode cX6_piece 22 = .ok (.iconst 0, 1) := by decide +kernel
theorem dX6_piece_23 : decode cX6_piece 23 = .ok (.istore 4, 2) := by decide +kernel
theorem dX6_piece_25 : decode cX6_piece 25 = .ok (.iload_n 3, 1) := by decide +kernel
theorem dX6_piece_26 : decode cX6_piece 26 = .ok (.iconst 3, 1) := by decide +kernel
theorem dX6_piece_27 : decode cX6_piece 27 = .ok (.if_icmp .le 38, 3) := by decide +kernel
theorem dX6_piece_30 : decode cX6_piece 30 = .ok (.iload_n 3, 1) := by decide +kernel
theorem dX6_piece_31 : decode cX6_piece 31 = .ok (.iconst 4, 1) := by decide +kernel
theorem dX6_piece_32 : decode cX6_piece 32 = .ok (.isub, 1) := by decide +kernel
theorem dX6_piece_33 : decode cX6_piece 33 = .ok (.istore 5, 2) := by decide +kernel
theorem dX6_piece_35 : decode cX6_piece 35 = .ok (.iconst 1, 1) := by decide +kernel
theorem dX6_piece_36 : decode cX6_piece 36 = .ok (.iload 5, 2) := by decide +kernel
theorem dX6_piece_38 : decode cX6_piece 38 = .ok (.iconst 2, 1) := by decide +kernel
theorem dX6_piece_39 : decode cX6_piece 39 = .ok (.idiv, 1) := by decide +kernel
theorem dX6_piece_40 : decode cX6_piece 40 = .ok (.iadd, 1) := by decide +kernel
theorem dX6_piece_41 : decode cX6_piece 41 = .ok (.istore 6, 2) := by decide +kernel
theorem dX6_piece_43 : decode cX6_piece 43 = .ok (.iconst 2, 1) := by decide +kernel
theorem dX6_piece_44 : decode cX6_piece 44 = .ok (.iload 5, 2) := by decide +kernel
theorem dX6_piece_46 : decode cX6_piece 46 = .ok (.iconst 2, 1) := by decide +kernel
theorem dX6_piece_47 : decode cX6_piece 47 = .ok (.irem, 1) := by decide +kernel
theorem dX6_piece_48 : decode cX6_piece 48 = .ok (.iadd, 1) := by decide +kernel
theorem dX6_piece_49 : decode cX6_piece 49 = .ok (.iconst 1, 1) := by decide +kernel
theorem dX6_piece_50 : decode cX6_piece 50 = .ok (.iload 6, 2) := by decide +kernel
theorem dX6_piece_52 : decode cX6_piece 52 = .ok (.ishl, 1) := by decide +kernel
theorem dX6_piece_53 : decode cX6_piece 53 = .ok (.imul, 1) := by decide +kernel
theorem dX6_piece_54 : decode cX6_piece 54 = .ok (.iconst 3, 1) := by decide +kernel
theorem dX6_piece_55 : decode cX6_piece 55 = .ok (.isub, 1) := by decide +kernel
theorem dX6_piece_56 : decode cX6_piece 56 = .ok (.aload_n 0, 1) := by decide +kernel
theorem dX6_piece_57 : decode cX6_piece 57 = .ok (.iload 6, 2) := by decide +kernel
theorem dX6_piece_59 : decode cX6_piece 59 = .ok (.invokevirtual 66, 3) := by decide +kernel
theorem dX6_piece_62 : decode cX6_piece 62 = .ok (.iadd, 1) := by decide +kernel
theorem dX6_piece_63 : decode cX6_piece 63 = .ok (.istore 4, 2) := by decide +kernel
theorem dX6_piece_65 : decode cX6_piece 65 = .ok (.aload_n 0, 1) := by decide +kernel
theorem dX6_piece_66 : decode cX6_piece 66 = .ok (.getfield 59, 3) := by decide +kernel
theorem dX6_piece_69 : decode cX6_piece 69 = .ok (.ifCond .eq 5, 3) := by decide +kernel
theorem dX6_piece_72 : decode cX6_piece 72 = .ok (.iconst 0, 1) := by decide +kernel
theorem dX6_piece_73 : decode cX6_piece 73 = .ok (.ireturn, 1) := by decide +kernel
theorem dX6_piece_74 : decode cX6_piece 74 = .ok (.iload 4, 2) := by decide +kernel
theorem dX6_piece_76 : decode cX6_piece 76 = .ok (.aload_n 0, 1) := by decide +kernel
theorem dX6_piece_77 : decode cX6_piece 77 = .ok (.getfield 85, 3) := by decide +kernel
theorem dX6_piece_80 : decode cX6_piece 80 = .ok (.if_icmp .le 19, 3) := by decide +kernel
theorem dX6_piece_83 : decode cX6_piece 83 = .ok (.aload_n 0, 1) := by decide +kernel
theorem dX6_piece_84 : decode cX6_piece 84 = .ok (.iload 4, 2) := by decide +kernel
theorem dX6_piece_86 : decode cX6_piece 86 = .ok (.aload_n 0, 1) := by decide +kernel
theorem dX6_piece_87 : decode cX6_piece 87 = .ok (.getfield 85, 3) := by decide +kernel
theorem dX6_piece_90 : decode cX6_piece 90 = .ok (.isub, 1) := by decide +kernel
theorem dX6_piece_91 : decode cX6_piece 91 = .ok (.iconst 1, 1) := by decide +kernel
theorem dX6_piece_92 : decode cX6_piece 92 = .ok (.isub, 1) := by decide +kernel
theorem dX6_piece_93 : decode cX6_piece 93 = .ok (.iload_n 1, 1) := by decide +kernel
theorem dX6_piece_94 : decode cX6_piece 94 = .ok (.iload_n 2, 1) := by decide +kernel
theorem dX6_piece_95 : decode cX6_piece 95 = .ok (.invokevirtual 120, 3) := by decide +kernel
theorem dX6_piece_98 : decode cX6_piece 98 = .ok (.ireturn, 1) := by decide +kernel
theorem dX6_piece_99 : decode cX6_piece 99 = .ok (.aload_n 0, 1) := by decide +kernel
theorem dX6_piece_100 : decode cX6_piece 100 = .ok (.iload_n 1, 1) := by decide +kernel
theorem dX6_piece_101 : decode cX6_piece 101 = .ok (.iload_n 2, 1) := by decide +kernel
theorem dX6_piece_102 : decode cX6_piece 102 = .ok (.if_icmp .le 7, 3) := by decide +kernel
theorem dX6_piece_105 : decode cX6_piece 105 = .ok (.iconst 1, 1) := by decide +kernel
theorem dX6_piece_106 : decode cX6_piece 106 = .ok (.goto 4, 3) := by decide +kernel
theorem dX6_piece_109 : decode cX6_piece 109 = .ok (.iconst 0, 1) := by decide +kernel
theorem dX6_piece_110 : decode cX6_piece 110 = .ok (.putfield 59, 3) := by decide +kernel
theorem dX6_piece_113 : decode cX6_piece 113 = .ok (.iconst 0, 1) := by decide +kernel
theorem dX6_piece_114 : decode cX6_piece 114 = .ok (.istore 5, 2) := by decide +kernel
theorem dX6_piece_116 : decode cX6_piece 116 = .ok (.iload 5, 2) := by decide +kernel
theorem dX6_piece_118 : decode cX6_piece 118 = .ok (.iload_n 1, 1) := by decide +kernel
theorem dX6_piece_119 : decode cX6_piece 119 = .ok (.if_icmp .ge 32, 3) := by decide +kernel
theorem dX6_piece_122 : decode cX6_piece 122 = .ok (.aload_n 0, 1) := by decide +kernel
theorem dX6_piece_123 : decode cX6_piece 123 = .ok (.getfield 59, 3) := by decide +kernel
theorem dX6_piece_126 : decode cX6_piece 126 = .ok (.ifCond .ne 25, 3) := by decide +kernel
theorem dX6_piece_129 : decode cX6_piece 129 = .ok (.aload_n 0, 1) := by decide +kernel
theorem dX6_piece_130 : decode cX6_piece 130 = .ok (.aload_n 0, 1) := by decide +kernel
theorem dX6_piece_131 : decode cX6_piece 131 = .ok (.getfield 17, 3) := by decide +kernel
theorem dX6_piece_134 : decode cX6_piece 134 = .ok (.aload_n 0, 1) := by decide +kernel
theorem dX6_piece_135 : decode cX6_piece 135 = .ok (.getfield 85, 3) := by decide +kernel
theorem dX6_piece_138 : decode cX6_piece 138 = .ok (.iload 4, 2) := by decide +kernel
theorem dX6_piece_140 : decode cX6_piece 140 = .ok (.isub, 1) := by decide +kernel
theorem dX6_piece_141 : decode cX6_piece 141 = .ok (.iaload, 1) := by decide +kernel
theorem dX6_piece_142 : decode cX6_piece 142 = .ok (.invokevirtual 81, 3) := by decide +kernel
theorem dX6_piece_145 : decode cX6_piece 145 = .ok (.iinc 5 1, 3) := by decide +kernel
theorem dX6_piece_148 : decode cX6_piece 148 = .ok (.goto (-32), 3) := by decide +kernel
theorem dX6_piece_151 : decode cX6_piece 151 = .ok (.bipush 8, 2) := by decide +kernel
theorem dX6_piece_153 : decode cX6_piece 153 = .ok (.istore 5, 2) := by decide +kernel
theorem dX6_piece_155 : decode cX6_piece 155 = .ok (.iload 5, 2) := by decide +kernel
theorem dX6_piece_157 : decode cX6_piece 157 = .ok (.iconst 5, 1) := by decide +kernel
theorem dX6_piece_158 : decode cX6_piece 158 = .ok (.if_icmp .le 29, 3) := by decide +kernel
theorem dX6_piece_161 : decode cX6_piece 161 = .ok (.iload_n 3, 1) := by decide +kernel
theorem dX6_piece_162 : decode cX6_piece 162 = .ok (.ifCond .le 25, 3) := by decide +kernel
theorem dX6_piece_165 : decode cX6_piece 165 = .ok (.aload_n 0, 1) := by decide +kernel
theorem dX6_piece_166 : decode cX6_piece 166 = .ok (.getfield 23, 3) := by decide +kernel
theorem dX6_piece_169 : decode cX6_piece 169 = .ok (.iload 5, 2) := by decide +kernel
theorem dX6_piece_171 : decode cX6_piece 171 = .ok (.aload_n 0, 1) := by decide +kernel
theorem dX6_piece_172 : decode cX6_piece 172 = .ok (.getfield 23, 3) := by decide +kernel
theorem dX6_piece_175 : decode cX6_piece 175 = .ok (.iload 5, 2) := by decide +kernel
theorem dX6_piece_177 : decode cX6_piece 177 = .ok (.iconst 1, 1) := by decide +kernel
theorem dX6_piece_178 : decode cX6_piece 178 = .ok (.isub, 1) := by decide +kernel
theorem dX6_piece_179 : decode cX6_piece 179 = .ok (.iaload, 1) := by decide +kernel
theorem dX6_piece_180 : decode cX6_piece 180 = .ok (.iastore, 1) := by decide +kernel
theorem dX6_piece_181 : decode cX6_piece 181 = .ok (.iinc 5 (-1), 3) := by decide +kernel
theorem dX6_piece_184 : decode cX6_piece 184 = .ok (.goto (-29), 3) := by decide +kernel
theorem dX6_piece_187 : decode cX6_piece 187 = .ok (.aload_n 0, 1) := by decide +kernel
theorem dX6_piece_188 : decode cX6_piece 188 = .ok (.getfield 23, 3) := by decide +kernel
theorem dX6_piece_191 : decode cX6_piece 191 = .ok (.iconst 5, 1) := by decide +kernel
theorem dX6_piece_192 : decode cX6_piece 192 = .ok (.iload 4, 2) := by decide +kernel
theorem dX6_piece_194 : decode cX6_piece 194 = .ok (.iastore, 1) := by decide +kernel
theorem dX6_piece_195 : decode cX6_piece 195 = .ok (.aload_n 0, 1) := by decide +kernel
theorem dX6_piece_196 : decode cX6_piece 196 = .ok (.getfield 23, 3) := by decide +kernel
theorem dX6_piece_199 : decode cX6_piece 199 = .ok (.iconst 2, 1) := by decide +kernel
theorem dX6_piece_200 : decode cX6_piece 200 = .ok (.dup2, 1) := by decide +kernel
theorem dX6_piece_201 : decode cX6_piece 201 = .ok (.iaload, 1) := by decide +kernel
theorem dX6_piece_202 : decode cX6_piece 202 = .ok (.iload_n 1, 1) := by decide +kernel
theorem dX6_piece_203 : decode cX6_piece 203 = .ok (.iadd, 1) := by decide +kernel
theorem dX6_piece_204 : decode cX6_piece 204 = .ok (.iastore, 1) := by decide +kernel
theorem dX6_piece_205 : decode cX6_piece 205 = .ok (.iload_n 1, 1) := by decide +kernel
theorem dX6_piece_206 : decode cX6_piece 206 = .ok (.ireturn, 1) := by decide +kernel
theorem dX6_commands_0 : decode cX6_commands 0 = .ok (.iconst 0, 1) := by decide +kernel
theorem dX6_commands_1 : decode cX6_commands 1 = .ok (.istore_n 2, 1) := by decide +kernel
theorem dX6_commands_2 : decode cX6_commands 2 = .ok (.iload_n 2, 1) := by decide +kernel
theorem dX6_commands_3 : decode cX6_commands 3 = .ok (.iload_n 1, 1) := by decide +kernel
theorem dX6_commands_4 : decode cX6_commands 4 = .ok (.if_icmp .ge 135, 3) := by decide +kernel
theorem dX6_commands_7 : decode cX6_commands 7 = .ok (.aload_n 0, 1) := by decide +kernel
theorem dX6_commands_8 : decode cX6_commands 8 = .ok (.getfield 59, 3) := by decide +kernel
theorem dX6_commands_11 : decode cX6_commands 11 = .ok (.ifCond .ne 128, 3) := by decide +kernel
theorem dX6_commands_14 : decode cX6_commands 14 = .ok (.aload_n 0, 1) := by decide +kernel
theorem dX6_commands_15 : decode cX6_commands 15 = .ok (.iconst 4, 1) := by decide +kernel
theorem dX6_commands_16 : decode cX6_commands 16 = .ok (.invokevirtual 106, 3) := by decide +kernel
theorem dX6_commands_19 : decode cX6_commands 19 = .ok (.istore_n 3, 1) := by decide +kernel
theorem dX6_commands_20 : decode cX6_commands 20 = .ok (.aload_n 0, 1) := by decide +kernel
theorem dX6_commands_21 : decode cX6_commands 21 = .ok (.iload_n 3, 1) := by decide +kernel
theorem dX6_commands_22 : decode cX6_commands 22 = .ok (.iconst 4, 1) := by decide +kernel
theorem dX6_commands_23 : decode cX6_commands 23 = .ok (.idiv, 1) := by decide +kernel
theorem dX6_commands_24 : decode cX6_commands 24 = .ok (.iconst 0, 1) := by decide +kernel
theorem dX6_commands_25 : decode cX6_commands 25 = .ok (.invokevirtual 123, 3) := by decide +kernel
theorem dX6_commands_28 : decode cX6_commands 28 = .ok (.aload_n 0, 1) := by decide +kernel
theorem dX6_commands_29 : decode cX6_commands 29 = .ok (.iload_n 3, 1) := by decide +kernel
theorem dX6_commands_30 : decode cX6_commands 30 = .ok (.iconst 4, 1) := by decide +kernel
theorem dX6_commands_31 : decode cX6_commands 31 = .ok (.idiv, 1) := by decide +kernel
theorem dX6_commands_32 : decode cX6_commands 32 = .ok (.invokevirtual 66, 3) := by decide +kernel
theorem dX6_commands_35 : decode cX6_commands 35 = .ok (.iadd, 1) := by decide +kernel
theorem dX6_commands_36 : decode cX6_commands 36 = .ok (.istore 4, 2) := by decide +kernel
theorem dX6_commands_38 : decode cX6_commands 38 = .ok (.aload_n 0, 1) := by decide +kernel
theorem dX6_commands_39 : decode cX6_commands 39 = .ok (.iload_n 3, 1) := by decide +kernel
theorem dX6_commands_40 : decode cX6_commands 40 = .ok (.iconst 4, 1) := by decide +kernel
theorem dX6_commands_41 : decode cX6_commands 41 = .ok (.irem, 1) := by decide +kernel
theorem dX6_commands_42 : decode cX6_commands 42 = .ok (.iconst 2, 1) := by decide +kernel
theorem dX6_commands_43 : decode cX6_commands 43 = .ok (.invokevirtual 123, 3) := by decide +kernel
theorem dX6_commands_46 : decode cX6_commands 46 = .ok (.aload_n 0, 1) := by decide +kernel
theorem dX6_commands_47 : decode cX6_commands 47 = .ok (.iload_n 3, 1) := by decide +kernel
theorem dX6_commands_48 : decode cX6_commands 48 = .ok (.iconst 4, 1) := by decide +kernel
theorem dX6_commands_49 : decode cX6_commands 49 = .ok (.irem, 1) := by decide +kernel
theorem dX6_commands_50 : decode cX6_commands 50 = .ok (.invokevirtual 66, 3) := by decide +kernel
theorem dX6_commands_53 : decode cX6_commands 53 = .ok (.iadd, 1) := by decide +kernel
theorem dX6_commands_54 : decode cX6_commands 54 = .ok (.istore 5, 2) := by decide +kernel
theorem dX6_commands_56 : decode cX6_commands 56 = .ok (.aload_n 0, 1) := by decide +kernel
theorem dX6_commands_57 : decode cX6_commands 57 = .ok (.aload_n 0, 1) := by decide +kernel
theorem dX6_commands_58 : decode cX6_commands 58 = .ok (.getfield 59, 3) := by decide +kernel
theorem dX6_commands_61 : decode cX6_commands 61 = .ok (.ifCond .ne 11, 3) := by decide +kernel
theorem dX6_commands_64 : decode cX6_commands 64 = .ok (.iload_n 2, 1) := by decide +kernel
theorem dX6_commands_65 : decode cX6_commands 65 = .ok (.iload 4, 2) := by decide +kernel
theorem dX6_commands_67 : decode cX6_commands 67 = .ok (.iadd, 1) := by decide +kernel
theorem dX6_commands_68 : decode cX6_commands 68 = .ok (.iload_n 1, 1) := by decide +kernel
theorem dX6_commands_69 : decode cX6_commands 69 = .ok (.if_icmp .le 7, 3) := by decide +kernel
theorem dX6_commands_72 : decode cX6_commands 72 = .ok (.iconst 1, 1) := by decide +kernel
theorem dX6_commands_73 : decode cX6_commands 73 = .ok (.goto 4, 3) := by decide +kernel
theorem dX6_commands_76 : decode cX6_commands 76 = .ok (.iconst 0, 1) := by decide +kernel
theorem dX6_commands_77 : decode cX6_commands 77 = .ok (.putfield 59, 3) := by decide +kernel
theorem dX6_commands_80 : decode cX6_commands 80 = .ok (.iconst 0, 1) := by decide +kernel
theorem dX6_commands_81 : decode cX6_commands 81 = .ok (.istore 6, 2) := by decide +kernel
theorem dX6_commands_83 : decode cX6_commands 83 = .ok (.iload 6, 2) := by decide +kernel
theorem dX6_commands_85 : decode cX6_commands 85 = .ok (.iload 4, 2) := by decide +kernel
theorem dX6_commands_87 : decode cX6_commands 87 = .ok (.if_icmp .ge 20, 3) := by decide +kernel
theorem dX6_commands_90 : decode cX6_commands 90 = .ok (.aload_n 0, 1) := by decide +kernel
theorem dX6_commands_91 : decode cX6_commands 91 = .ok (.getfield 59, 3) := by decide +kernel
theorem dX6_commands_94 : decode cX6_commands 94 = .ok (.ifCond .ne 13, 3) := by decide +kernel
theorem dX6_commands_97 : decode cX6_commands 97 = .ok (.aload_n 0, 1) := by decide +kernel
theorem dX6_commands_98 : decode cX6_commands 98 = .ok (.invokevirtual 126, 3) := by decide +kernel
theorem dX6_commands_101 : decode cX6_commands 101 = .ok (.iinc 6 1, 3) := by decide +kernel
theorem dX6_commands_104 : decode cX6_commands 104 = .ok (.goto (-21), 3) := by decide +kernel
theorem dX6_commands_107 : decode cX6_commands 107 = .ok (.iload_n 2, 1) := by decide +kernel
theorem dX6_commands_108 : decode cX6_commands 108 = .ok (.iload 4, 2) := by decide +kernel
theorem dX6_commands_110 : decode cX6_commands 110 = .ok (.iadd, 1) := by decide +kernel
theorem dX6_commands_111 : decode cX6_commands 111 = .ok (.istore_n 2, 1) := by decide +kernel
theorem dX6_commands_112 : decode cX6_commands 112 = .ok (.iload_n 2, 1) := by decide +kernel
theorem dX6_commands_113 : decode cX6_commands 113 = .ok (.iload_n 1, 1) := by decide +kernel
theorem dX6_commands_114 : decode cX6_commands 114 = .ok (.if_icmp .ge 22, 3) := by decide +kernel
theorem dX6_commands_117 : decode cX6_commands 117 = .ok (.aload_n 0, 1) := by decide +kernel
theorem dX6_commands_118 : decode cX6_commands 118 = .ok (.getfield 59, 3) := by decide +kernel
theorem dX6_commands_121 : decode cX6_commands 121 = .ok (.ifCond .ne 15, 3) := by decide +kernel
theorem dX6_commands_124 : decode cX6_commands 124 = .ok (.iload_n 2, 1) := by decide +kernel
theorem dX6_commands_125 : decode cX6_commands 125 = .ok (.aload_n 0, 1) := by decide +kernel
theorem dX6_commands_126 : decode cX6_commands 126 = .ok (.iload 5, 2) := by decide +kernel
theorem dX6_commands_128 : decode cX6_commands 128 = .ok (.iload_n 1, 1) := by decide +kernel
theorem dX6_commands_129 : decode cX6_commands 129 = .ok (.iload_n 2, 1) := by decide +kernel
theorem dX6_commands_130 : decode cX6_commands 130 = .ok (.isub, 1) := by decide +kernel
theorem dX6_commands_131 : decode cX6_commands 131 = .ok (.invokevirtual 129, 3) := by decide +kernel
theorem dX6_commands_134 : decode cX6_commands 134 = .ok (.iadd, 1) := by decide +kernel
theorem dX6_commands_135 : decode cX6_commands 135 = .ok (.istore_n 2, 1) := by decide +kernel
theorem dX6_commands_136 : decode cX6_commands 136 = .ok (.goto (-134), 3) := by decide +kernel
theorem dX6_commands_139 : decode cX6_commands 139 = .ok (.return_, 1) := by decide +kernel
theorem dX6_block_0 : decode cX6_block 0 = .ok (.aload_n 0, 1) := by decide +kernel
theorem dX6_block_1 : decode cX6_block 1 = .ok (.iconst 1, 1) := by decide +kernel
theorem dX6_block_2 : decode cX6_block 2 = .ok (.invokevirtual 66, 3) := by decide +kernel
theorem dX6_block_5 : decode cX6_block 5 = .ok (.iconst 1, 1) := by decide +kernel
theorem dX6_block_6 : decode cX6_block 6 = .ok (.if_icmp .ne 7, 3) := by decide +kernel
theorem dX6_block_9 : decode cX6_block 9 = .ok (.iconst 1, 1) := by decide +kernel
theorem dX6_block_10 : decode cX6_block 10 = .ok (.goto 4, 3) := by decide +kernel
theorem dX6_block_13 : decode cX6_block 13 = .ok (.iconst 0, 1) := by decide +kernel
theorem dX6_block_14 : decode cX6_block 14 = .ok (.istore_n 1, 1) := by decide +kernel
theorem dX6_block_15 : decode cX6_block 15 = .ok (.iload_n 1, 1) := by decide +kernel
theorem dX6_block_16 : decode cX6_block 16 = .ok (.ifCond .eq 16, 3) := by decide +kernel
theorem dX6_block_19 : decode cX6_block 19 = .ok (.aload_n 0, 1) := by decide +kernel
theorem dX6_block_20 : decode cX6_block 20 = .ok (.iconst 1, 1) := by decide +kernel
theorem dX6_block_21 : decode cX6_block 21 = .ok (.invokevirtual 66, 3) := by decide +kernel
theorem dX6_block_24 : decode cX6_block 24 = .ok (.iconst 1, 1) := by decide +kernel
theorem dX6_block_25 : decode cX6_block 25 = .ok (.if_icmp .ne 7, 3) := by decide +kernel
theorem dX6_block_28 : decode cX6_block 28 = .ok (.iconst 1, 1) := by decide +kernel
theorem dX6_block_29 : decode cX6_block 29 = .ok (.goto 4, 3) := by decide +kernel
theorem dX6_block_32 : decode cX6_block 32 = .ok (.iconst 0, 1) := by decide +kernel
theorem dX6_block_33 : decode cX6_block 33 = .ok (.istore_n 2, 1) := by decide +kernel
theorem dX6_block_34 : decode cX6_block 34 = .ok (.aload_n 0, 1) := by decide +kernel
theorem dX6_block_35 : decode cX6_block 35 = .ok (.getfield 59, 3) := by decide +kernel
theorem dX6_block_38 : decode cX6_block 38 = .ok (.ifCond .eq 5, 3) := by decide +kernel
theorem dX6_block_41 : decode cX6_block 41 = .ok (.iconst 1, 1) := by decide +kernel
theorem dX6_block_42 : decode cX6_block 42 = .ok (.ireturn, 1) := by decide +kernel
theorem dX6_block_43 : decode cX6_block 43 = .ok (.iload_n 2, 1) := by decide +kernel
theorem dX6_block_44 : decode cX6_block 44 = .ok (.ifCond .eq 15, 3) := by decide +kernel
theorem dX6_block_47 : decode cX6_block 47 = .ok (.aload_n 0, 1) := by decide +kernel
theorem dX6_block_48 : decode cX6_block 48 = .ok (.getfield 23, 3) := by decide +kernel
theorem dX6_block_51 : decode cX6_block 51 = .ok (.iconst 0, 1) := by decide +kernel
theorem dX6_block_52 : decode cX6_block 52 = .ok (.dup2, 1) := by decide +kernel
theorem dX6_block_53 : decode cX6_block 53 = .ok (.iaload, 1) := by decide +kernel
theorem dX6_block_54 : decode cX6_block 54 = .ok (.iconst 1, 1) := by decide +kernel
theorem dX6_block_55 : decode cX6_block 55 = .ok (.iadd, 1) := by decide +kernel
theorem dX6_block_56 : decode cX6_block 56 = .ok (.iastore, 1) := by decide +kernel
theorem dX6_block_57 : decode cX6_block 57 = .ok (.iconst 1, 1) := by decide +kernel
theorem dX6_block_58 : decode cX6_block 58 = .ok (.ireturn, 1) := by decide +kernel
theorem dX6_block_59 : decode cX6_block 59 = .ok (.aload_n 0, 1) := by decide +kernel
theorem dX6_block_60 : decode cX6_block 60 = .ok (.bipush 8, 2) := by decide +kernel
theorem dX6_block_62 : decode cX6_block 62 = .ok (.invokevirtual 66, 3) := by decide +kernel
theorem dX6_block_65 : decode cX6_block 65 = .ok (.iconst 1, 1) := by decide +kernel
theorem dX6_block_66 : decode cX6_block 66 = .ok (.iadd, 1) := by decide +kernel
theorem dX6_block_67 : decode cX6_block 67 = .ok (.istore_n 3, 1) := by decide +kernel
theorem dX6_block_68 : decode cX6_block 68 = .ok (.aload_n 0, 1) := by decide +kernel
theorem dX6_block_69 : decode cX6_block 69 = .ok (.aload_n 0, 1) := by decide +kernel
theorem dX6_block_70 : decode cX6_block 70 = .ok (.getfield 59, 3) := by decide +kernel
theorem dX6_block_73 : decode cX6_block 73 = .ok (.ifCond .ne 15, 3) := by decide +kernel
theorem dX6_block_76 : decode cX6_block 76 = .ok (.aload_n 0, 1) := by decide +kernel
theorem dX6_block_77 : decode cX6_block 77 = .ok (.getfield 85, 3) := by decide +kernel
theorem dX6_block_80 : decode cX6_block 80 = .ok (.iload_n 3, 1) := by decide +kernel
theorem dX6_block_81 : decode cX6_block 81 = .ok (.iadd, 1) := by decide +kernel
theorem dX6_block_82 : decode cX6_block 82 = .ok (.sipush 400, 3) := by decide +kernel
theorem dX6_block_85 : decode cX6_block 85 = .ok (.if_icmp .le 7, 3) := by decide +kernel
theorem dX6_block_88 : decode cX6_block 88 = .ok (.iconst 1, 1) := by decide +kernel
theorem dX6_block_89 : decode cX6_block 89 = .ok (.goto 4, 3) := by decide +kernel
theorem dX6_block_92 : decode cX6_block 92 = .ok (.iconst 0, 1) := by decide +kernel
theorem dX6_block_93 : decode cX6_block 93 = .ok (.putfield 59, 3) := by decide +kernel
theorem dX6_block_96 : decode cX6_block 96 = .ok (.aload_n 0, 1) := by decide +kernel
theorem dX6_block_97 : decode cX6_block 97 = .ok (.getfield 59, 3) := by decide +kernel
theorem dX6_block_100 : decode cX6_block 100 = .ok (.ifCond .ne 20, 3) := by decide +kernel
theorem dX6_block_103 : decode cX6_block 103 = .ok (.iload_n 1, 1) := by decide +kernel
theorem dX6_block_104 : decode cX6_block 104 = .ok (.ifCond .ne 16, 3) := by decide +kernel
theorem dX6_block_107 : decode cX6_block 107 = .ok (.aload_n 0, 1) := by decide +kernel
theorem dX6_block_108 : decode cX6_block 108 = .ok (.iconst 1, 1) := by decide +kernel
theorem dX6_block_109 : decode cX6_block 109 = .ok (.invokevirtual 66, 3) := by decide +kernel
theorem dX6_block_112 : decode cX6_block 112 = .ok (.iconst 1, 1) := by decide +kernel
theorem dX6_block_113 : decode cX6_block 113 = .ok (.if_icmp .ne 7, 3) := by decide +kernel
theorem dX6_block_116 : decode cX6_block 116 = .ok (.iconst 1, 1) := by decide +kernel
theorem dX6_block_117 : decode cX6_block 117 = .ok (.goto 4, 3) := by decide +kernel
theorem dX6_block_120 : decode cX6_block 120 = .ok (.iconst 0, 1) := by decide +kernel
theorem dX6_block_121 : decode cX6_block 121 = .ok (.istore 4, 2) := by decide +kernel
theorem dX6_block_123 : decode cX6_block 123 = .ok (.aload_n 0, 1) := by decide +kernel
theorem dX6_block_124 : decode cX6_block 124 = .ok (.getfield 59, 3) := by decide +kernel
theorem dX6_block_127 : decode cX6_block 127 = .ok (.ifCond .eq 5, 3) := by decide +kernel
theorem dX6_block_130 : decode cX6_block 130 = .ok (.iconst 1, 1) := by decide +kernel
theorem dX6_block_131 : decode cX6_block 131 = .ok (.ireturn, 1) := by decide +kernel
theorem dX6_block_132 : decode cX6_block 132 = .ok (.aload_n 0, 1) := by decide +kernel
theorem dX6_block_133 : decode cX6_block 133 = .ok (.getfield 23, 3) := by decide +kernel
theorem dX6_block_136 : decode cX6_block 136 = .ok (.iconst 0, 1) := by decide +kernel
theorem dX6_block_137 : decode cX6_block 137 = .ok (.dup2, 1) := by decide +kernel
theorem dX6_block_138 : decode cX6_block 138 = .ok (.iaload, 1) := by decide +kernel
theorem dX6_block_139 : decode cX6_block 139 = .ok (.iconst 1, 1) := by decide +kernel
theorem dX6_block_140 : decode cX6_block 140 = .ok (.iadd, 1) := by decide +kernel
theorem dX6_block_141 : decode cX6_block 141 = .ok (.iastore, 1) := by decide +kernel
theorem dX6_block_142 : decode cX6_block 142 = .ok (.iload 4, 2) := by decide +kernel
theorem dX6_block_144 : decode cX6_block 144 = .ok (.ifCond .eq 11, 3) := by decide +kernel
theorem dX6_block_147 : decode cX6_block 147 = .ok (.aload_n 0, 1) := by decide +kernel
theorem dX6_block_148 : decode cX6_block 148 = .ok (.iload_n 3, 1) := by decide +kernel
theorem dX6_block_149 : decode cX6_block 149 = .ok (.invokevirtual 132, 3) := by decide +kernel
theorem dX6_block_152 : decode cX6_block 152 = .ok (.goto 12, 3) := by decide +kernel
theorem dX6_block_155 : decode cX6_block 155 = .ok (.aload_n 0, 1) := by decide +kernel
theorem dX6_block_156 : decode cX6_block 156 = .ok (.invokevirtual 135, 3) := by decide +kernel
theorem dX6_block_159 : decode cX6_block 159 = .ok (.aload_n 0, 1) := by decide +kernel
theorem dX6_block_160 : decode cX6_block 160 = .ok (.iload_n 3, 1) := by decide +kernel
theorem dX6_block_161 : decode cX6_block 161 = .ok (.invokevirtual 138, 3) := by decide +kernel
theorem dX6_block_164 : decode cX6_block 164 = .ok (.iload_n 1, 1) := by decide +kernel
theorem dX6_block_165 : decode cX6_block 165 = .ok (.ireturn, 1) := by decide +kernel
theorem dX6_unfold_0 : decode cX6_unfold 0 = .ok (.aload_n 0, 1) := by decide +kernel
theorem dX6_unfold_1 : decode cX6_unfold 1 = .ok (.iconst 0, 1) := by decide +kernel
theorem dX6_unfold_2 : decode cX6_unfold 2 = .ok (.putfield 63, 3) := by decide +kernel
theorem dX6_unfold_5 : decode cX6_unfold 5 = .ok (.aload_n 0, 1) := by decide +kernel
theorem dX6_unfold_6 : decode cX6_unfold 6 = .ok (.iconst 0, 1) := by decide +kernel
theorem dX6_unfold_7 : decode cX6_unfold 7 = .ok (.putfield 85, 3) := by decide +kernel
theorem dX6_unfold_10 : decode cX6_unfold 10 = .ok (.aload_n 0, 1) := by decide +kernel
theorem dX6_unfold_11 : decode cX6_unfold 11 = .ok (.iconst 0, 1) := by decide +kernel
theorem dX6_unfold_12 : decode cX6_unfold 12 = .ok (.putfield 59, 3) := by decide +kernel
theorem dX6_unfold_15 : decode cX6_unfold 15 = .ok (.aload_n 0, 1) := by decide +kernel
theorem dX6_unfold_16 : decode cX6_unfold 16 = .ok (.aload_n 0, 1) := by decide +kernel
theorem dX6_unfold_17 : decode cX6_unfold 17 = .ok (.getfield 23, 3) := by decide +kernel
theorem dX6_unfold_20 : decode cX6_unfold 20 = .ok (.invokevirtual 44, 3) := by decide +kernel
theorem dX6_unfold_23 : decode cX6_unfold 23 = .ok (.iconst 0, 1) := by decide +kernel
theorem dX6_unfold_24 : decode cX6_unfold 24 = .ok (.istore_n 1, 1) := by decide +kernel
theorem dX6_unfold_25 : decode cX6_unfold 25 = .ok (.iload_n 1, 1) := by decide +kernel
theorem dX6_unfold_26 : decode cX6_unfold 26 = .ok (.ifCond .ne 18, 3) := by decide +kernel
theorem dX6_unfold_29 : decode cX6_unfold 29 = .ok (.aload_n 0, 1) := by decide +kernel
theorem dX6_unfold_30 : decode cX6_unfold 30 = .ok (.getfield 59, 3) := by decide +kernel
theorem dX6_unfold_33 : decode cX6_unfold 33 = .ok (.ifCond .ne 11, 3) := by decide +kernel
theorem dX6_unfold_36 : decode cX6_unfold 36 = .ok (.aload_n 0, 1) := by decide +kernel
theorem dX6_unfold_37 : decode cX6_unfold 37 = .ok (.invokevirtual 141, 3) := by decide +kernel
theorem dX6_unfold_40 : decode cX6_unfold 40 = .ok (.istore_n 1, 1) := by decide +kernel
theorem dX6_unfold_41 : decode cX6_unfold 41 = .ok (.goto (-16), 3) := by decide +kernel
theorem dX6_unfold_44 : decode cX6_unfold 44 = .ok (.aload_n 0, 1) := by decide +kernel
theorem dX6_unfold_45 : decode cX6_unfold 45 = .ok (.aload_n 0, 1) := by decide +kernel
theorem dX6_unfold_46 : decode cX6_unfold 46 = .ok (.getfield 59, 3) := by decide +kernel
theorem dX6_unfold_49 : decode cX6_unfold 49 = .ok (.ifCond .eq 7, 3) := by decide +kernel
theorem dX6_unfold_52 : decode cX6_unfold 52 = .ok (.iconst 1, 1) := by decide +kernel
theorem dX6_unfold_53 : decode cX6_unfold 53 = .ok (.goto 4, 3) := by decide +kernel
theorem dX6_unfold_56 : decode cX6_unfold 56 = .ok (.iconst 0, 1) := by decide +kernel
theorem dX6_unfold_57 : decode cX6_unfold 57 = .ok (.putfield 48, 3) := by decide +kernel
theorem dX6_unfold_60 : decode cX6_unfold 60 = .ok (.aload_n 0, 1) := by decide +kernel
theorem dX6_unfold_61 : decode cX6_unfold 61 = .ok (.getfield 59, 3) := by decide +kernel
theorem dX6_unfold_64 : decode cX6_unfold 64 = .ok (.ifCond .eq 5, 3) := by decide +kernel
theorem dX6_unfold_67 : decode cX6_unfold 67 = .ok (.iconst 0, 1) := by decide +kernel
theorem dX6_unfold_68 : decode cX6_unfold 68 = .ok (.ireturn, 1) := by decide +kernel
theorem dX6_unfold_69 : decode cX6_unfold 69 = .ok (.aload_n 0, 1) := by decide +kernel
theorem dX6_unfold_70 : decode cX6_unfold 70 = .ok (.aload_n 0, 1) := by decide +kernel
theorem dX6_unfold_71 : decode cX6_unfold 71 = .ok (.getfield 85, 3) := by decide +kernel
theorem dX6_unfold_74 : decode cX6_unfold 74 = .ok (.putfield 145, 3) := by decide +kernel
theorem dX6_unfold_77 : decode cX6_unfold 77 = .ok (.iconst 0, 1) := by decide +kernel
theorem dX6_unfold_78 : decode cX6_unfold 78 = .ok (.istore_n 2, 1) := by decide +kernel
theorem dX6_unfold_79 : decode cX6_unfold 79 = .ok (.iload_n 2, 1) := by decide +kernel
theorem dX6_unfold_80 : decode cX6_unfold 80 = .ok (.aload_n 0, 1) := by decide +kernel
theorem dX6_unfold_81 : decode cX6_unfold 81 = .ok (.getfield 85, 3) := by decide +kernel
theorem dX6_unfold_84 : decode cX6_unfold 84 = .ok (.if_icmp .ge 21, 3) := by decide +kernel
theorem dX6_unfold_87 : decode cX6_unfold 87 = .ok (.aload_n 0, 1) := by decide +kernel
theorem dX6_unfold_88 : decode cX6_unfold 88 = .ok (.getfield 13, 3) := by decide +kernel
theorem dX6_unfold_91 : decode cX6_unfold 91 = .ok (.iload_n 2, 1) := by decide +kernel
theorem dX6_unfold_92 : decode cX6_unfold 92 = .ok (.aload_n 0, 1) := by decide +kernel
theorem dX6_unfold_93 : decode cX6_unfold 93 = .ok (.getfield 17, 3) := by decide +kernel
theorem dX6_unfold_96 : decode cX6_unfold 96 = .ok (.iload_n 2, 1) := by decide +kernel
theorem dX6_unfold_97 : decode cX6_unfold 97 = .ok (.iaload, 1) := by decide +kernel
theorem dX6_unfold_98 : decode cX6_unfold 98 = .ok (.iastore, 1) := by decide +kernel
theorem dX6_unfold_99 : decode cX6_unfold 99 = .ok (.iinc 2 1, 3) := by decide +kernel
theorem dX6_unfold_102 : decode cX6_unfold 102 = .ok (.goto (-23), 3) := by decide +kernel
theorem dX6_unfold_105 : decode cX6_unfold 105 = .ok (.iconst 0, 1) := by decide +kernel
theorem dX6_unfold_106 : decode cX6_unfold 106 = .ok (.istore_n 2, 1) := by decide +kernel
theorem dX6_unfold_107 : decode cX6_unfold 107 = .ok (.iload_n 2, 1) := by decide +kernel
theorem dX6_unfold_108 : decode cX6_unfold 108 = .ok (.bipush 9, 2) := by decide +kernel
theorem dX6_unfold_110 : decode cX6_unfold 110 = .ok (.if_icmp .ge 21, 3) := by decide +kernel
theorem dX6_unfold_113 : decode cX6_unfold 113 = .ok (.aload_n 0, 1) := by decide +kernel
theorem dX6_unfold_114 : decode cX6_unfold 114 = .ok (.getfield 20, 3) := by decide +kernel
theorem dX6_unfold_117 : decode cX6_unfold 117 = .ok (.iload_n 2, 1) := by decide +kernel
theorem dX6_unfold_118 : decode cX6_unfold 118 = .ok (.aload_n 0, 1) := by decide +kernel
theorem dX6_unfold_119 : decode cX6_unfold 119 = .ok (.getfield 23, 3) := by decide +kernel
theorem dX6_unfold_122 : decode cX6_unfold 122 = .ok (.iload_n 2, 1) := by decide +kernel
theorem dX6_unfold_123 : decode cX6_unfold 123 = .ok (.iaload, 1) := by decide +kernel
theorem dX6_unfold_124 : decode cX6_unfold 124 = .ok (.iastore, 1) := by decide +kernel
theorem dX6_unfold_125 : decode cX6_unfold 125 = .ok (.iinc 2 1, 3) := by decide +kernel
theorem dX6_unfold_128 : decode cX6_unfold 128 = .ok (.goto (-21), 3) := by decide +kernel
theorem dX6_unfold_131 : decode cX6_unfold 131 = .ok (.aload_n 0, 1) := by decide +kernel
theorem dX6_unfold_132 : decode cX6_unfold 132 = .ok (.getfield 145, 3) := by decide +kernel
theorem dX6_unfold_135 : decode cX6_unfold 135 = .ok (.ireturn, 1) := by decide +kernel
theorem dX6_taken_0 : decode cX6_taken 0 = .ok (.aload_n 0, 1) := by decide +kernel
theorem dX6_taken_1 : decode cX6_taken 1 = .ok (.iconst 0, 1) := by decide +kernel
theorem dX6_taken_2 : decode cX6_taken 2 = .ok (.putfield 48, 3) := by decide +kernel
theorem dX6_taken_5 : decode cX6_taken 5 = .ok (.aload_n 0, 1) := by decide +kernel
theorem dX6_taken_6 : decode cX6_taken 6 = .ok (.getfield 63, 3) := by decide +kernel
theorem dX6_taken_9 : decode cX6_taken 9 = .ok (.ireturn, 1) := by decide +kernel
theorem dX6_letter_0 : decode cX6_letter 0 = .ok (.aload_n 0, 1) := by decide +kernel
theorem dX6_letter_1 : decode cX6_letter 1 = .ok (.iload_n 1, 1) := by decide +kernel
theorem dX6_letter_2 : decode cX6_letter 2 = .ok (.ifCond .lt 11, 3) := by decide +kernel
theorem dX6_letter_5 : decode cX6_letter 5 = .ok (.iload_n 1, 1) := by decide +kernel
theorem dX6_letter_6 : decode cX6_letter 6 = .ok (.aload_n 0, 1) := by decide +kernel
theorem dX6_letter_7 : decode cX6_letter 7 = .ok (.getfield 145, 3) := by decide +kernel
theorem dX6_letter_10 : decode cX6_letter 10 = .ok (.if_icmp .lt 7, 3) := by decide +kernel
theorem dX6_letter_13 : decode cX6_letter 13 = .ok (.iconst 1, 1) := by decide +kernel
theorem dX6_letter_14 : decode cX6_letter 14 = .ok (.goto 4, 3) := by decide +kernel
theorem dX6_letter_17 : decode cX6_letter 17 = .ok (.iconst 0, 1) := by decide +kernel
theorem dX6_letter_18 : decode cX6_letter 18 = .ok (.putfield 48, 3) := by decide +kernel
theorem dX6_letter_21 : decode cX6_letter 21 = .ok (.aload_n 0, 1) := by decide +kernel
theorem dX6_letter_22 : decode cX6_letter 22 = .ok (.getfield 48, 3) := by decide +kernel
theorem dX6_letter_25 : decode cX6_letter 25 = .ok (.ifCond .ne 12, 3) := by decide +kernel
theorem dX6_letter_28 : decode cX6_letter 28 = .ok (.aload_n 0, 1) := by decide +kernel
theorem dX6_letter_29 : decode cX6_letter 29 = .ok (.getfield 13, 3) := by decide +kernel
theorem dX6_letter_32 : decode cX6_letter 32 = .ok (.iload_n 1, 1) := by decide +kernel
theorem dX6_letter_33 : decode cX6_letter 33 = .ok (.iaload, 1) := by decide +kernel
theorem dX6_letter_34 : decode cX6_letter 34 = .ok (.goto 4, 3) := by decide +kernel
theorem dX6_letter_37 : decode cX6_letter 37 = .ok (.iconst 0, 1) := by decide +kernel
theorem dX6_letter_38 : decode cX6_letter 38 = .ok (.ireturn, 1) := by decide +kernel
theorem dX6_count_0 : decode cX6_count 0 = .ok (.aload_n 0, 1) := by decide +kernel
theorem dX6_count_1 : decode cX6_count 1 = .ok (.iload_n 1, 1) := by decide +kernel
theorem dX6_count_2 : decode cX6_count 2 = .ok (.ifCond .lt 9, 3) := by decide +kernel
theorem dX6_count_5 : decode cX6_count 5 = .ok (.iload_n 1, 1) := by decide +kernel
theorem dX6_count_6 : decode cX6_count 6 = .ok (.bipush 8, 2) := by decide +kernel
theorem dX6_count_8 : decode cX6_count 8 = .ok (.if_icmp .le 7, 3) := by decide +kernel
theorem dX6_count_11 : decode cX6_count 11 = .ok (.iconst 1, 1) := by decide +kernel
theorem dX6_count_12 : decode cX6_count 12 = .ok (.goto 4, 3) := by decide +kernel
theorem dX6_count_15 : decode cX6_count 15 = .ok (.iconst 0, 1) := by decide +kernel
theorem dX6_count_16 : decode cX6_count 16 = .ok (.putfield 48, 3) := by decide +kernel
theorem dX6_count_19 : decode cX6_count 19 = .ok (.aload_n 0, 1) := by decide +kernel
theorem dX6_count_20 : decode cX6_count 20 = .ok (.getfield 48, 3) := by decide +kernel
theorem dX6_count_23 : decode cX6_count 23 = .ok (.ifCond .ne 12, 3) := by decide +kernel
theorem dX6_count_26 : decode cX6_count 26 = .ok (.aload_n 0, 1) := by decide +kernel
theorem dX6_count_27 : decode cX6_count 27 = .ok (.getfield 20, 3) := by decide +kernel
theorem dX6_count_30 : decode cX6_count 30 = .ok (.iload_n 1, 1) := by decide +kernel
theorem dX6_count_31 : decode cX6_count 31 = .ok (.iaload, 1) := by decide +kernel
theorem dX6_count_32 : decode cX6_count 32 = .ok (.goto 4, 3) := by decide +kernel
theorem dX6_count_35 : decode cX6_count 35 = .ok (.iconst 0, 1) := by decide +kernel
theorem dX6_count_36 : decode cX6_count 36 = .ok (.ireturn, 1) := by decide +kernel
