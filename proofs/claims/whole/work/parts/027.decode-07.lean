/-! the instructions -/
theorem d_R_place_1 : decode b_R_place 1 = .ok (.invokestatic 148, 3) := by decide +kernel
theorem d_R_place_4 : decode b_R_place 4 = .ok (.ifCond .eq 22, 3) := by decide +kernel
theorem d_R_place_7 : decode b_R_place 7 = .ok (.iload_n 2, 1) := by decide +kernel
theorem d_R_place_8 : decode b_R_place 8 = .ok (.invokestatic 139, 3) := by decide +kernel
theorem d_R_place_11 : decode b_R_place 11 = .ok (.ifCond .eq 15, 3) := by decide +kernel
theorem d_R_place_14 : decode b_R_place 14 = .ok (.iload_n 3, 1) := by decide +kernel
theorem d_R_place_15 : decode b_R_place 15 = .ok (.invokestatic 139, 3) := by decide +kernel
theorem d_R_place_18 : decode b_R_place 18 = .ok (.ifCond .eq 8, 3) := by decide +kernel
theorem d_R_place_21 : decode b_R_place 21 = .ok (.iload_n 2, 1) := by decide +kernel
theorem d_R_place_22 : decode b_R_place 22 = .ok (.iload_n 3, 1) := by decide +kernel
theorem d_R_place_23 : decode b_R_place 23 = .ok (.if_icmp .ne 5, 3) := by decide +kernel
theorem d_R_place_26 : decode b_R_place 26 = .ok (.iconst (-1), 1) := by decide +kernel
theorem d_R_place_27 : decode b_R_place 27 = .ok (.ireturn, 1) := by decide +kernel
theorem d_R_place_28 : decode b_R_place 28 = .ok (.aload_n 0, 1) := by decide +kernel
theorem d_R_place_29 : decode b_R_place 29 = .ok (.getfield 23, 3) := by decide +kernel
theorem d_R_place_32 : decode b_R_place 32 = .ok (.iload_n 1, 1) := by decide +kernel
theorem d_R_place_33 : decode b_R_place 33 = .ok (.baload, 1) := by decide +kernel
theorem d_R_place_34 : decode b_R_place 34 = .ok (.ifCond .eq 5, 3) := by decide +kernel
theorem d_R_place_37 : decode b_R_place 37 = .ok (.iconst 0, 1) := by decide +kernel
theorem d_R_place_38 : decode b_R_place 38 = .ok (.ireturn, 1) := by decide +kernel
theorem d_R_place_39 : decode b_R_place 39 = .ok (.aload_n 0, 1) := by decide +kernel
theorem d_R_place_40 : decode b_R_place 40 = .ok (.iload_n 2, 1) := by decide +kernel
theorem d_R_place_41 : decode b_R_place 41 = .ok (.bipush 10, 2) := by decide +kernel
theorem d_R_place_43 : decode b_R_place 43 = .ok (.iconst 2, 1) := by decide +kernel
theorem d_R_place_44 : decode b_R_place 44 = .ok (.iload_n 1, 1) := by decide +kernel
theorem d_R_place_45 : decode b_R_place 45 = .ok (.imul, 1) := by decide +kernel
theorem d_R_place_46 : decode b_R_place 46 = .ok (.iadd, 1) := by decide +kernel
theorem d_R_place_47 : decode b_R_place 47 = .ok (.invokevirtual 70, 3) := by decide +kernel
theorem d_R_place_50 : decode b_R_place 50 = .ok (.aload_n 0, 1) := by decide +kernel
theorem d_R_place_51 : decode b_R_place 51 = .ok (.iload_n 3, 1) := by decide +kernel
theorem d_R_place_52 : decode b_R_place 52 = .ok (.bipush 11, 2) := by decide +kernel
theorem d_R_place_54 : decode b_R_place 54 = .ok (.iconst 2, 1) := by decide +kernel
theorem d_R_place_55 : decode b_R_place 55 = .ok (.iload_n 1, 1) := by decide +kernel
theorem d_R_place_56 : decode b_R_place 56 = .ok (.imul, 1) := by decide +kernel
theorem d_R_place_57 : decode b_R_place 57 = .ok (.iadd, 1) := by decide +kernel
theorem d_R_place_58 : decode b_R_place 58 = .ok (.invokevirtual 70, 3) := by decide +kernel
theorem d_R_place_61 : decode b_R_place 61 = .ok (.iconst 1, 1) := by decide +kernel
theorem d_R_place_62 : decode b_R_place 62 = .ok (.ireturn, 1) := by decide +kernel
theorem d_R_put_0 : decode b_R_put 0 = .ok (.iload_n 3, 1) := by decide +kernel
theorem d_R_put_1 : decode b_R_put 1 = .ok (.iconst 1, 1) := by decide +kernel
theorem d_R_put_2 : decode b_R_put 2 = .ok (.if_icmp .lt 20, 3) := by decide +kernel
theorem d_R_put_5 : decode b_R_put 5 = .ok (.iload_n 3, 1) := by decide +kernel
theorem d_R_put_6 : decode b_R_put 6 = .ok (.bipush 8, 2) := by decide +kernel
theorem d_R_put_8 : decode b_R_put 8 = .ok (.if_icmp .gt 14, 3) := by decide +kernel
theorem d_R_put_11 : decode b_R_put 11 = .ok (.aload_n 0, 1) := by decide +kernel
theorem d_R_put_12 : decode b_R_put 12 = .ok (.getfield 163, 3) := by decide +kernel
theorem d_R_put_15 : decode b_R_put 15 = .ok (.iload_n 3, 1) := by decide +kernel
theorem d_R_put_16 : decode b_R_put 16 = .ok (.iadd, 1) := by decide +kernel
theorem d_R_put_17 : decode b_R_put 17 = .ok (.bipush 100, 2) := by decide +kernel
theorem d_R_put_19 : decode b_R_put 19 = .ok (.if_icmp .le 5, 3) := by decide +kernel
theorem d_R_put_22 : decode b_R_put 22 = .ok (.iconst 0, 1) := by decide +kernel
theorem d_R_put_23 : decode b_R_put 23 = .ok (.ireturn, 1) := by decide +kernel
theorem d_R_put_24 : decode b_R_put 24 = .ok (.iload_n 3, 1) := by decide +kernel
theorem d_R_put_25 : decode b_R_put 25 = .ok (.iconst 1, 1) := by decide +kernel
theorem d_R_put_26 : decode b_R_put 26 = .ok (.isub, 1) := by decide +kernel
theorem d_R_put_27 : decode b_R_put 27 = .ok (.istore 4, 2) := by decide +kernel
theorem d_R_put_29 : decode b_R_put 29 = .ok (.iload 4, 2) := by decide +kernel
theorem d_R_put_31 : decode b_R_put 31 = .ok (.ifCond .lt 40, 3) := by decide +kernel
theorem d_R_put_34 : decode b_R_put 34 = .ok (.aload_n 0, 1) := by decide +kernel
theorem d_R_put_35 : decode b_R_put 35 = .ok (.getfield 27, 3) := by decide +kernel
theorem d_R_put_38 : decode b_R_put 38 = .ok (.aload_n 0, 1) := by decide +kernel
theorem d_R_put_39 : decode b_R_put 39 = .ok (.getfield 163, 3) := by decide +kernel
theorem d_R_put_42 : decode b_R_put 42 = .ok (.lload_n 1, 1) := by decide +kernel
theorem d_R_put_43 : decode b_R_put 43 = .ok (.bipush 8, 2) := by decide +kernel
theorem d_R_put_45 : decode b_R_put 45 = .ok (.iload 4, 2) := by decide +kernel
theorem d_R_put_47 : decode b_R_put 47 = .ok (.imul, 1) := by decide +kernel
theorem d_R_put_48 : decode b_R_put 48 = .ok (.lshr, 1) := by decide +kernel
theorem d_R_put_49 : decode b_R_put 49 = .ok (.ldc2_w 167, 3) := by decide +kernel
theorem d_R_put_52 : decode b_R_put 52 = .ok (.land, 1) := by decide +kernel
theorem d_R_put_53 : decode b_R_put 53 = .ok (.l2i, 1) := by decide +kernel
theorem d_R_put_54 : decode b_R_put 54 = .ok (.iastore, 1) := by decide +kernel
theorem d_R_put_55 : decode b_R_put 55 = .ok (.aload_n 0, 1) := by decide +kernel
theorem d_R_put_56 : decode b_R_put 56 = .ok (.dup, 1) := by decide +kernel
theorem d_R_put_57 : decode b_R_put 57 = .ok (.getfield 163, 3) := by decide +kernel
theorem d_R_put_60 : decode b_R_put 60 = .ok (.iconst 1, 1) := by decide +kernel
theorem d_R_put_61 : decode b_R_put 61 = .ok (.iadd, 1) := by decide +kernel
theorem d_R_put_62 : decode b_R_put 62 = .ok (.putfield 163, 3) := by decide +kernel
theorem d_R_put_65 : decode b_R_put 65 = .ok (.iinc 4 (-1), 3) := by decide +kernel
theorem d_R_put_68 : decode b_R_put 68 = .ok (.goto (-39), 3) := by decide +kernel
theorem d_R_put_71 : decode b_R_put 71 = .ok (.iconst 1, 1) := by decide +kernel
theorem d_R_put_72 : decode b_R_put 72 = .ok (.ireturn, 1) := by decide +kernel
theorem d_R_read_0 : decode b_R_read 0 = .ok (.aload_n 0, 1) := by decide +kernel
theorem d_R_read_1 : decode b_R_read 1 = .ok (.iload_n 1, 1) := by decide +kernel
theorem d_R_read_2 : decode b_R_read 2 = .ok (.invokevirtual 62, 3) := by decide +kernel
theorem d_R_read_5 : decode b_R_read 5 = .ok (.iconst 0, 1) := by decide +kernel
theorem d_R_read_6 : decode b_R_read 6 = .ok (.istore 4, 2) := by decide +kernel
theorem d_R_read_8 : decode b_R_read 8 = .ok (.iload 4, 2) := by decide +kernel
theorem d_R_read_10 : decode b_R_read 10 = .ok (.iload_n 3, 1) := by decide +kernel
theorem d_R_read_11 : decode b_R_read 11 = .ok (.if_icmp .ge 88, 3) := by decide +kernel
theorem d_R_read_14 : decode b_R_read 14 = .ok (.bipush 8, 2) := by decide +kernel
theorem d_R_read_16 : decode b_R_read 16 = .ok (.iload_n 3, 1) := by decide +kernel
theorem d_R_read_17 : decode b_R_read 17 = .ok (.iconst 1, 1) := by decide +kernel
theorem d_R_read_18 : decode b_R_read 18 = .ok (.isub, 1) := by decide +kernel
theorem d_R_read_19 : decode b_R_read 19 = .ok (.iload 4, 2) := by decide +kernel
theorem d_R_read_21 : decode b_R_read 21 = .ok (.isub, 1) := by decide +kernel
theorem d_R_read_22 : decode b_R_read 22 = .ok (.imul, 1) := by decide +kernel
theorem d_R_read_23 : decode b_R_read 23 = .ok (.istore 5, 2) := by decide +kernel
theorem d_R_read_25 : decode b_R_read 25 = .ok (.iconst 0, 1) := by decide +kernel
theorem d_R_read_26 : decode b_R_read 26 = .ok (.istore 6, 2) := by decide +kernel
theorem d_R_read_28 : decode b_R_read 28 = .ok (.iload 6, 2) := by decide +kernel
theorem d_R_read_30 : decode b_R_read 30 = .ok (.bipush 8, 2) := by decide +kernel
theorem d_R_read_32 : decode b_R_read 32 = .ok (.if_icmp .ge 61, 3) := by decide +kernel
theorem d_R_read_35 : decode b_R_read 35 = .ok (.iload 5, 2) := by decide +kernel
theorem d_R_read_37 : decode b_R_read 37 = .ok (.sipush 256, 3) := by decide +kernel
theorem d_R_read_40 : decode b_R_read 40 = .ok (.if_icmp .ge 53, 3) := by decide +kernel
theorem d_R_read_43 : decode b_R_read 43 = .ok (.aload_n 0, 1) := by decide +kernel
theorem d_R_read_44 : decode b_R_read 44 = .ok (.getfield 7, 3) := by decide +kernel
theorem d_R_read_47 : decode b_R_read 47 = .ok (.bipush 10, 2) := by decide +kernel
theorem d_R_read_49 : decode b_R_read 49 = .ok (.iload_n 1, 1) := by decide +kernel
theorem d_R_read_50 : decode b_R_read 50 = .ok (.imul, 1) := by decide +kernel
theorem d_R_read_51 : decode b_R_read 51 = .ok (.iload 5, 2) := by decide +kernel
theorem d_R_read_53 : decode b_R_read 53 = .ok (.iload 6, 2) := by decide +kernel
theorem d_R_read_55 : decode b_R_read 55 = .ok (.iadd, 1) := by decide +kernel
theorem d_R_read_56 : decode b_R_read 56 = .ok (.bipush 26, 2) := by decide +kernel
theorem d_R_read_58 : decode b_R_read 58 = .ok (.idiv, 1) := by decide +kernel
theorem d_R_read_59 : decode b_R_read 59 = .ok (.iadd, 1) := by decide +kernel
theorem d_R_read_60 : decode b_R_read 60 = .ok (.dup2, 1) := by decide +kernel
theorem d_R_read_61 : decode b_R_read 61 = .ok (.iaload, 1) := by decide +kernel
theorem d_R_read_62 : decode b_R_read 62 = .ok (.aload_n 0, 1) := by decide +kernel
theorem d_R_read_63 : decode b_R_read 63 = .ok (.getfield 27, 3) := by decide +kernel
theorem d_R_read_66 : decode b_R_read 66 = .ok (.iload_n 2, 1) := by decide +kernel
theorem d_R_read_67 : decode b_R_read 67 = .ok (.iload 4, 2) := by decide +kernel
theorem d_R_read_69 : decode b_R_read 69 = .ok (.iadd, 1) := by decide +kernel
theorem d_R_read_70 : decode b_R_read 70 = .ok (.iaload, 1) := by decide +kernel
theorem d_R_read_71 : decode b_R_read 71 = .ok (.iload 6, 2) := by decide +kernel
theorem d_R_read_73 : decode b_R_read 73 = .ok (.ishr, 1) := by decide +kernel
theorem d_R_read_74 : decode b_R_read 74 = .ok (.iconst 1, 1) := by decide +kernel
theorem d_R_read_75 : decode b_R_read 75 = .ok (.iand, 1) := by decide +kernel
theorem d_R_read_76 : decode b_R_read 76 = .ok (.iload 5, 2) := by decide +kernel
theorem d_R_read_78 : decode b_R_read 78 = .ok (.iload 6, 2) := by decide +kernel
theorem d_R_read_80 : decode b_R_read 80 = .ok (.iadd, 1) := by decide +kernel
theorem d_R_read_81 : decode b_R_read 81 = .ok (.bipush 26, 2) := by decide +kernel
theorem d_R_read_83 : decode b_R_read 83 = .ok (.irem, 1) := by decide +kernel
theorem d_R_read_84 : decode b_R_read 84 = .ok (.ishl, 1) := by decide +kernel
theorem d_R_read_85 : decode b_R_read 85 = .ok (.ior, 1) := by decide +kernel
theorem d_R_read_86 : decode b_R_read 86 = .ok (.iastore, 1) := by decide +kernel
theorem d_R_read_87 : decode b_R_read 87 = .ok (.iinc 6 1, 3) := by decide +kernel
theorem d_R_read_90 : decode b_R_read 90 = .ok (.goto (-62), 3) := by decide +kernel
theorem d_R_read_93 : decode b_R_read 93 = .ok (.iinc 4 1, 3) := by decide +kernel
theorem d_R_read_96 : decode b_R_read 96 = .ok (.goto (-88), 3) := by decide +kernel
theorem d_R_read_99 : decode b_R_read 99 = .ok (.return_, 1) := by decide +kernel
theorem d_R_key_0 : decode b_R_key 0 = .ok (.iload_n 1, 1) := by decide +kernel
theorem d_R_key_1 : decode b_R_key 1 = .ok (.invokestatic 148, 3) := by decide +kernel
theorem d_R_key_4 : decode b_R_key 4 = .ok (.ifCond .ne 5, 3) := by decide +kernel
theorem d_R_key_7 : decode b_R_key 7 = .ok (.iconst (-1), 1) := by decide +kernel
theorem d_R_key_8 : decode b_R_key 8 = .ok (.ireturn, 1) := by decide +kernel
theorem d_R_key_9 : decode b_R_key 9 = .ok (.aload_n 0, 1) := by decide +kernel
theorem d_R_key_10 : decode b_R_key 10 = .ok (.getfield 163, 3) := by decide +kernel
theorem d_R_key_13 : decode b_R_key 13 = .ok (.istore_n 2, 1) := by decide +kernel
theorem d_R_key_14 : decode b_R_key 14 = .ok (.aload_n 0, 1) := by decide +kernel
theorem d_R_key_15 : decode b_R_key 15 = .ok (.iconst 0, 1) := by decide +kernel
theorem d_R_key_16 : decode b_R_key 16 = .ok (.putfield 163, 3) := by decide +kernel
theorem d_R_key_19 : decode b_R_key 19 = .ok (.iload_n 2, 1) := by decide +kernel
theorem d_R_key_20 : decode b_R_key 20 = .ok (.bipush 33, 2) := by decide +kernel
theorem d_R_key_22 : decode b_R_key 22 = .ok (.if_icmp .ne 97, 3) := by decide +kernel
theorem d_R_key_25 : decode b_R_key 25 = .ok (.aload_n 0, 1) := by decide +kernel
theorem d_R_key_26 : decode b_R_key 26 = .ok (.getfield 27, 3) := by decide +kernel
theorem d_R_key_29 : decode b_R_key 29 = .ok (.iconst 0, 1) := by decide +kernel
theorem d_R_key_30 : decode b_R_key 30 = .ok (.iaload, 1) := by decide +kernel
theorem d_R_key_31 : decode b_R_key 31 = .ok (.iconst 2, 1) := by decide +kernel
theorem d_R_key_32 : decode b_R_key 32 = .ok (.if_icmp .eq 13, 3) := by decide +kernel
theorem d_R_key_35 : decode b_R_key 35 = .ok (.aload_n 0, 1) := by decide +kernel
theorem d_R_key_36 : decode b_R_key 36 = .ok (.getfield 27, 3) := by decide +kernel
theorem d_R_key_39 : decode b_R_key 39 = .ok (.iconst 0, 1) := by decide +kernel
theorem d_R_key_40 : decode b_R_key 40 = .ok (.iaload, 1) := by decide +kernel
theorem d_R_key_41 : decode b_R_key 41 = .ok (.iconst 3, 1) := by decide +kernel
theorem d_R_key_42 : decode b_R_key 42 = .ok (.if_icmp .ne 77, 3) := by decide +kernel
theorem d_R_key_45 : decode b_R_key 45 = .ok (.aload_n 0, 1) := by decide +kernel
theorem d_R_key_46 : decode b_R_key 46 = .ok (.bipush 40, 2) := by decide +kernel
theorem d_R_key_48 : decode b_R_key 48 = .ok (.iconst 1, 1) := by decide +kernel
theorem d_R_key_49 : decode b_R_key 49 = .ok (.bipush 32, 2) := by decide +kernel
theorem d_R_key_51 : decode b_R_key 51 = .ok (.invokevirtual 169, 3) := by decide +kernel
theorem d_R_key_54 : decode b_R_key 54 = .ok (.aload_n 0, 1) := by decide +kernel
theorem d_R_key_55 : decode b_R_key 55 = .ok (.bipush 40, 2) := by decide +kernel
theorem d_R_key_57 : decode b_R_key 57 = .ok (.bipush 8, 2) := by decide +kernel
theorem d_R_key_59 : decode b_R_key 59 = .ok (.invokevirtual 78, 3) := by decide +kernel
theorem d_R_key_62 : decode b_R_key 62 = .ok (.ifCond .lt 5, 3) := by decide +kernel
theorem d_R_key_65 : decode b_R_key 65 = .ok (.iconst 0, 1) := by decide +kernel
theorem d_R_key_66 : decode b_R_key 66 = .ok (.ireturn, 1) := by decide +kernel
theorem d_R_key_67 : decode b_R_key 67 = .ok (.aload_n 0, 1) := by decide +kernel
theorem d_R_key_68 : decode b_R_key 68 = .ok (.bipush 33, 2) := by decide +kernel
theorem d_R_key_70 : decode b_R_key 70 = .ok (.bipush 40, 2) := by decide +kernel
theorem d_R_key_72 : decode b_R_key 72 = .ok (.invokevirtual 136, 3) := by decide +kernel
theorem d_R_key_75 : decode b_R_key 75 = .ok (.aload_n 0, 1) := by decide +kernel
theorem d_R_key_76 : decode b_R_key 76 = .ok (.bipush 41, 2) := by decide +kernel
theorem d_R_key_78 : decode b_R_key 78 = .ok (.bipush 33, 2) := by decide +kernel
theorem d_R_key_80 : decode b_R_key 80 = .ok (.invokevirtual 145, 3) := by decide +kernel
theorem d_R_key_83 : decode b_R_key 83 = .ok (.ifCond .ne 5, 3) := by decide +kernel
theorem d_R_key_86 : decode b_R_key 86 = .ok (.iconst 0, 1) := by decide +kernel
theorem d_R_key_87 : decode b_R_key 87 = .ok (.ireturn, 1) := by decide +kernel
theorem d_R_key_88 : decode b_R_key 88 = .ok (.aload_n 0, 1) := by decide +kernel
theorem d_R_key_89 : decode b_R_key 89 = .ok (.getfield 27, 3) := by decide +kernel
theorem d_R_key_92 : decode b_R_key 92 = .ok (.iconst 0, 1) := by decide +kernel
theorem d_R_key_93 : decode b_R_key 93 = .ok (.iaload, 1) := by decide +kernel
theorem d_R_key_94 : decode b_R_key 94 = .ok (.iconst 3, 1) := by decide +kernel
theorem d_R_key_95 : decode b_R_key 95 = .ok (.if_icmp .ne 74, 3) := by decide +kernel
theorem d_R_key_98 : decode b_R_key 98 = .ok (.aload_n 0, 1) := by decide +kernel
theorem d_R_key_99 : decode b_R_key 99 = .ok (.bipush 33, 2) := by decide +kernel
theorem d_R_key_101 : decode b_R_key 101 = .ok (.invokevirtual 62, 3) := by decide +kernel
theorem d_R_key_104 : decode b_R_key 104 = .ok (.aload_n 0, 1) := by decide +kernel
theorem d_R_key_105 : decode b_R_key 105 = .ok (.bipush 41, 2) := by decide +kernel
theorem d_R_key_107 : decode b_R_key 107 = .ok (.bipush 33, 2) := by decide +kernel
theorem d_R_key_109 : decode b_R_key 109 = .ok (.bipush 41, 2) := by decide +kernel
theorem d_R_key_111 : decode b_R_key 111 = .ok (.bipush 8, 2) := by decide +kernel
theorem d_R_key_113 : decode b_R_key 113 = .ok (.invokevirtual 112, 3) := by decide +kernel
theorem d_R_key_116 : decode b_R_key 116 = .ok (.goto 53, 3) := by decide +kernel
theorem d_R_key_119 : decode b_R_key 119 = .ok (.iload_n 2, 1) := by decide +kernel
theorem d_R_key_120 : decode b_R_key 120 = .ok (.bipush 65, 2) := by decide +kernel
theorem d_R_key_122 : decode b_R_key 122 = .ok (.if_icmp .ne 45, 3) := by decide +kernel
theorem d_R_key_125 : decode b_R_key 125 = .ok (.aload_n 0, 1) := by decide +kernel
theorem d_R_key_126 : decode b_R_key 126 = .ok (.getfield 27, 3) := by decide +kernel
theorem d_R_key_129 : decode b_R_key 129 = .ok (.iconst 0, 1) := by decide +kernel
theorem d_R_key_130 : decode b_R_key 130 = .ok (.iaload, 1) := by decide +kernel
theorem d_R_key_131 : decode b_R_key 131 = .ok (.iconst 4, 1) := by decide +kernel
theorem d_R_key_132 : decode b_R_key 132 = .ok (.if_icmp .ne 35, 3) := by decide +kernel
theorem d_R_key_135 : decode b_R_key 135 = .ok (.aload_n 0, 1) := by decide +kernel
theorem d_R_key_136 : decode b_R_key 136 = .ok (.bipush 40, 2) := by decide +kernel
theorem d_R_key_138 : decode b_R_key 138 = .ok (.iconst 1, 1) := by decide +kernel
theorem d_R_key_139 : decode b_R_key 139 = .ok (.bipush 32, 2) := by decide +kernel
theorem d_R_key_141 : decode b_R_key 141 = .ok (.invokevirtual 169, 3) := by decide +kernel
theorem d_R_key_144 : decode b_R_key 144 = .ok (.aload_n 0, 1) := by decide +kernel
theorem d_R_key_145 : decode b_R_key 145 = .ok (.bipush 41, 2) := by decide +kernel
theorem d_R_key_147 : decode b_R_key 147 = .ok (.bipush 33, 2) := by decide +kernel
theorem d_R_key_149 : decode b_R_key 149 = .ok (.bipush 32, 2) := by decide +kernel
theorem d_R_key_151 : decode b_R_key 151 = .ok (.invokevirtual 169, 3) := by decide +kernel
theorem d_R_key_154 : decode b_R_key 154 = .ok (.aload_n 0, 1) := by decide +kernel
theorem d_R_key_155 : decode b_R_key 155 = .ok (.bipush 40, 2) := by decide +kernel
theorem d_R_key_157 : decode b_R_key 157 = .ok (.bipush 41, 2) := by decide +kernel
theorem d_R_key_159 : decode b_R_key 159 = .ok (.invokevirtual 151, 3) := by decide +kernel
theorem d_R_key_162 : decode b_R_key 162 = .ok (.ifCond .ne 7, 3) := by decide +kernel
theorem d_R_key_165 : decode b_R_key 165 = .ok (.iconst 0, 1) := by decide +kernel
theorem d_R_key_166 : decode b_R_key 166 = .ok (.ireturn, 1) := by decide +kernel
theorem d_R_key_167 : decode b_R_key 167 = .ok (.iconst 0, 1) := by decide +kernel
theorem d_R_key_168 : decode b_R_key 168 = .ok (.ireturn, 1) := by decide +kernel
theorem d_R_key_169 : decode b_R_key 169 = .ok (.aload_n 0, 1) := by decide +kernel
theorem d_R_key_170 : decode b_R_key 170 = .ok (.bipush 10, 2) := by decide +kernel
theorem d_R_key_172 : decode b_R_key 172 = .ok (.iconst 2, 1) := by decide +kernel
theorem d_R_key_173 : decode b_R_key 173 = .ok (.iload_n 1, 1) := by decide +kernel
theorem d_R_key_174 : decode b_R_key 174 = .ok (.imul, 1) := by decide +kernel
theorem d_R_key_175 : decode b_R_key 175 = .ok (.iadd, 1) := by decide +kernel
theorem d_R_key_176 : decode b_R_key 176 = .ok (.bipush 40, 2) := by decide +kernel
theorem d_R_key_178 : decode b_R_key 178 = .ok (.invokevirtual 70, 3) := by decide +kernel
theorem d_R_key_181 : decode b_R_key 181 = .ok (.aload_n 0, 1) := by decide +kernel
theorem d_R_key_182 : decode b_R_key 182 = .ok (.bipush 11, 2) := by decide +kernel
theorem d_R_key_184 : decode b_R_key 184 = .ok (.iconst 2, 1) := by decide +kernel
theorem d_R_key_185 : decode b_R_key 185 = .ok (.iload_n 1, 1) := by decide +kernel
theorem d_R_key_186 : decode b_R_key 186 = .ok (.imul, 1) := by decide +kernel
theorem d_R_key_187 : decode b_R_key 187 = .ok (.iadd, 1) := by decide +kernel
theorem d_R_key_188 : decode b_R_key 188 = .ok (.bipush 41, 2) := by decide +kernel
theorem d_R_key_190 : decode b_R_key 190 = .ok (.invokevirtual 70, 3) := by decide +kernel
theorem d_R_key_193 : decode b_R_key 193 = .ok (.aload_n 0, 1) := by decide +kernel
theorem d_R_key_194 : decode b_R_key 194 = .ok (.getfield 23, 3) := by decide +kernel
theorem d_R_key_197 : decode b_R_key 197 = .ok (.iload_n 1, 1) := by decide +kernel
theorem d_R_key_198 : decode b_R_key 198 = .ok (.iconst 0, 1) := by decide +kernel
theorem d_R_key_199 : decode b_R_key 199 = .ok (.bastore, 1) := by decide +kernel
theorem d_R_key_200 : decode b_R_key 200 = .ok (.iconst 1, 1) := by decide +kernel
theorem d_R_key_201 : decode b_R_key 201 = .ok (.ireturn, 1) := by decide +kernel
theorem d_R_numberEnd_0 : decode b_R_numberEnd 0 = .ok (.iload_n 1, 1) := by decide +kernel
theorem d_R_numberEnd_1 : decode b_R_numberEnd 1 = .ok (.iconst 2, 1) := by decide +kernel
theorem d_R_numberEnd_2 : decode b_R_numberEnd 2 = .ok (.iadd, 1) := by decide +kernel
theorem d_R_numberEnd_3 : decode b_R_numberEnd 3 = .ok (.iload_n 2, 1) := by decide +kernel
theorem d_R_numberEnd_4 : decode b_R_numberEnd 4 = .ok (.if_icmp .gt 13, 3) := by decide +kernel
theorem d_R_numberEnd_7 : decode b_R_numberEnd 7 = .ok (.aload_n 0, 1) := by decide +kernel
theorem d_R_numberEnd_8 : decode b_R_numberEnd 8 = .ok (.getfield 27, 3) := by decide +kernel
theorem d_R_numberEnd_11 : decode b_R_numberEnd 11 = .ok (.iload_n 1, 1) := by decide +kernel
theorem d_R_numberEnd_12 : decode b_R_numberEnd 12 = .ok (.iaload, 1) := by decide +kernel
theorem d_R_numberEnd_13 : decode b_R_numberEnd 13 = .ok (.iconst 2, 1) := by decide +kernel
theorem d_R_numberEnd_14 : decode b_R_numberEnd 14 = .ok (.if_icmp .eq 5, 3) := by decide +kernel
theorem d_R_numberEnd_17 : decode b_R_numberEnd 17 = .ok (.iconst (-1), 1) := by decide +kernel
theorem d_R_numberEnd_18 : decode b_R_numberEnd 18 = .ok (.ireturn, 1) := by decide +kernel
theorem d_R_numberEnd_19 : decode b_R_numberEnd 19 = .ok (.aload_n 0, 1) := by decide +kernel
theorem d_R_numberEnd_20 : decode b_R_numberEnd 20 = .ok (.getfield 27, 3) := by decide +kernel
theorem d_R_numberEnd_23 : decode b_R_numberEnd 23 = .ok (.iload_n 1, 1) := by decide +kernel
theorem d_R_numberEnd_24 : decode b_R_numberEnd 24 = .ok (.iconst 1, 1) := by decide +kernel
theorem d_R_numberEnd_25 : decode b_R_numberEnd 25 = .ok (.iadd, 1) := by decide +kernel
theorem d_R_numberEnd_26 : decode b_R_numberEnd 26 = .ok (.iaload, 1) := by decide +kernel
theorem d_R_numberEnd_27 : decode b_R_numberEnd 27 = .ok (.istore_n 3, 1) := by decide +kernel
theorem d_R_numberEnd_28 : decode b_R_numberEnd 28 = .ok (.iload_n 3, 1) := by decide +kernel
theorem d_R_numberEnd_29 : decode b_R_numberEnd 29 = .ok (.iconst 1, 1) := by decide +kernel
theorem d_R_numberEnd_30 : decode b_R_numberEnd 30 = .ok (.if_icmp .lt 18, 3) := by decide +kernel
theorem d_R_numberEnd_33 : decode b_R_numberEnd 33 = .ok (.iload_n 3, 1) := by decide +kernel
theorem d_R_numberEnd_34 : decode b_R_numberEnd 34 = .ok (.bipush 33, 2) := by decide +kernel
theorem d_R_numberEnd_36 : decode b_R_numberEnd 36 = .ok (.if_icmp .gt 12, 3) := by decide +kernel
theorem d_R_numberEnd_39 : decode b_R_numberEnd 39 = .ok (.iload_n 1, 1) := by decide +kernel
theorem d_R_numberEnd_40 : decode b_R_numberEnd 40 = .ok (.iconst 2, 1) := by decide +kernel
theorem d_R_numberEnd_41 : decode b_R_numberEnd 41 = .ok (.iadd, 1) := by decide +kernel
theorem d_R_numberEnd_42 : decode b_R_numberEnd 42 = .ok (.iload_n 3, 1) := by decide +kernel
theorem d_R_numberEnd_43 : decode b_R_numberEnd 43 = .ok (.iadd, 1) := by decide +kernel
theorem d_R_numberEnd_44 : decode b_R_numberEnd 44 = .ok (.iload_n 2, 1) := by decide +kernel
theorem d_R_numberEnd_45 : decode b_R_numberEnd 45 = .ok (.if_icmp .le 5, 3) := by decide +kernel
theorem d_R_numberEnd_48 : decode b_R_numberEnd 48 = .ok (.iconst (-1), 1) := by decide +kernel
theorem d_R_numberEnd_49 : decode b_R_numberEnd 49 = .ok (.ireturn, 1) := by decide +kernel
theorem d_R_numberEnd_50 : decode b_R_numberEnd 50 = .ok (.aload_n 0, 1) := by decide +kernel
theorem d_R_numberEnd_51 : decode b_R_numberEnd 51 = .ok (.getfield 27, 3) := by decide +kernel
theorem d_R_numberEnd_54 : decode b_R_numberEnd 54 = .ok (.iload_n 1, 1) := by decide +kernel
theorem d_R_numberEnd_55 : decode b_R_numberEnd 55 = .ok (.iconst 2, 1) := by decide +kernel
theorem d_R_numberEnd_56 : decode b_R_numberEnd 56 = .ok (.iadd, 1) := by decide +kernel
theorem d_R_numberEnd_57 : decode b_R_numberEnd 57 = .ok (.iaload, 1) := by decide +kernel
theorem d_R_numberEnd_58 : decode b_R_numberEnd 58 = .ok (.istore 4, 2) := by decide +kernel
theorem d_R_numberEnd_60 : decode b_R_numberEnd 60 = .ok (.iload 4, 2) := by decide +kernel
theorem d_R_numberEnd_62 : decode b_R_numberEnd 62 = .ok (.sipush 128, 3) := by decide +kernel
theorem d_R_numberEnd_65 : decode b_R_numberEnd 65 = .ok (.if_icmp .ge 31, 3) := by decide +kernel
theorem d_R_numberEnd_68 : decode b_R_numberEnd 68 = .ok (.iload 4, 2) := by decide +kernel
theorem d_R_numberEnd_70 : decode b_R_numberEnd 70 = .ok (.ifCond .gt 22, 3) := by decide +kernel
theorem d_R_numberEnd_73 : decode b_R_numberEnd 73 = .ok (.iload_n 3, 1) := by decide +kernel
theorem d_R_numberEnd_74 : decode b_R_numberEnd 74 = .ok (.iconst 1, 1) := by decide +kernel
theorem d_R_numberEnd_75 : decode b_R_numberEnd 75 = .ok (.if_icmp .eq 17, 3) := by decide +kernel
theorem d_R_numberEnd_78 : decode b_R_numberEnd 78 = .ok (.aload_n 0, 1) := by decide +kernel
theorem d_R_numberEnd_79 : decode b_R_numberEnd 79 = .ok (.getfield 27, 3) := by decide +kernel
theorem d_R_numberEnd_82 : decode b_R_numberEnd 82 = .ok (.iload_n 1, 1) := by decide +kernel
theorem d_R_numberEnd_83 : decode b_R_numberEnd 83 = .ok (.iconst 3, 1) := by decide +kernel
theorem d_R_numberEnd_84 : decode b_R_numberEnd 84 = .ok (.iadd, 1) := by decide +kernel
theorem d_R_numberEnd_85 : decode b_R_numberEnd 85 = .ok (.iaload, 1) := by decide +kernel
theorem d_R_numberEnd_86 : decode b_R_numberEnd 86 = .ok (.sipush 128, 3) := by decide +kernel
theorem d_R_numberEnd_89 : decode b_R_numberEnd 89 = .ok (.if_icmp .lt 7, 3) := by decide +kernel
theorem d_R_numberEnd_92 : decode b_R_numberEnd 92 = .ok (.iconst 1, 1) := by decide +kernel
theorem d_R_numberEnd_93 : decode b_R_numberEnd 93 = .ok (.goto 4, 3) := by decide +kernel
theorem d_R_numberEnd_96 : decode b_R_numberEnd 96 = .ok (.iconst 0, 1) := by decide +kernel
theorem d_R_numberEnd_97 : decode b_R_numberEnd 97 = .ok (.istore 5, 2) := by decide +kernel
theorem d_R_numberEnd_99 : decode b_R_numberEnd 99 = .ok (.iload 5, 2) := by decide +kernel
theorem d_R_numberEnd_101 : decode b_R_numberEnd 101 = .ok (.ifCond .eq 22, 3) := by decide +kernel
theorem d_R_numberEnd_104 : decode b_R_numberEnd 104 = .ok (.iload_n 3, 1) := by decide +kernel
theorem d_R_numberEnd_105 : decode b_R_numberEnd 105 = .ok (.bipush 33, 2) := by decide +kernel
theorem d_R_numberEnd_107 : decode b_R_numberEnd 107 = .ok (.if_icmp .lt 8, 3) := by decide +kernel
theorem d_R_numberEnd_110 : decode b_R_numberEnd 110 = .ok (.iload 4, 2) := by decide +kernel
theorem d_R_numberEnd_112 : decode b_R_numberEnd 112 = .ok (.ifCond .ne 11, 3) := by decide +kernel
theorem d_R_numberEnd_115 : decode b_R_numberEnd 115 = .ok (.iload_n 1, 1) := by decide +kernel
theorem d_R_numberEnd_116 : decode b_R_numberEnd 116 = .ok (.iconst 2, 1) := by decide +kernel
theorem d_R_numberEnd_117 : decode b_R_numberEnd 117 = .ok (.iadd, 1) := by decide +kernel
theorem d_R_numberEnd_118 : decode b_R_numberEnd 118 = .ok (.iload_n 3, 1) := by decide +kernel
theorem d_R_numberEnd_119 : decode b_R_numberEnd 119 = .ok (.iadd, 1) := by decide +kernel
theorem d_R_numberEnd_120 : decode b_R_numberEnd 120 = .ok (.goto 4, 3) := by decide +kernel
theorem d_R_numberEnd_123 : decode b_R_numberEnd 123 = .ok (.iconst (-1), 1) := by decide +kernel
theorem d_R_numberEnd_124 : decode b_R_numberEnd 124 = .ok (.ireturn, 1) := by decide +kernel
theorem d_R_signature_0 : decode b_R_signature 0 = .ok (.iload_n 1, 1) := by decide +kernel
theorem d_R_signature_1 : decode b_R_signature 1 = .ok (.invokestatic 139, 3) := by decide +kernel
theorem d_R_signature_4 : decode b_R_signature 4 = .ok (.ifCond .eq 15, 3) := by decide +kernel
theorem d_R_signature_7 : decode b_R_signature 7 = .ok (.iload_n 2, 1) := by decide +kernel
theorem d_R_signature_8 : decode b_R_signature 8 = .ok (.invokestatic 139, 3) := by decide +kernel
theorem d_R_signature_11 : decode b_R_signature 11 = .ok (.ifCond .eq 8, 3) := by decide +kernel
theorem d_R_signature_14 : decode b_R_signature 14 = .ok (.iload_n 1, 1) := by decide +kernel
theorem d_R_signature_15 : decode b_R_signature 15 = .ok (.iload_n 2, 1) := by decide +kernel
theorem d_R_signature_16 : decode b_R_signature 16 = .ok (.if_icmp .ne 5, 3) := by decide +kernel
theorem d_R_signature_19 : decode b_R_signature 19 = .ok (.iconst (-1), 1) := by decide +kernel
theorem d_R_signature_20 : decode b_R_signature 20 = .ok (.ireturn, 1) := by decide +kernel
theorem d_R_signature_21 : decode b_R_signature 21 = .ok (.aload_n 0, 1) := by decide +kernel
theorem d_R_signature_22 : decode b_R_signature 22 = .ok (.getfield 163, 3) := by decide +kernel
theorem d_R_signature_25 : decode b_R_signature 25 = .ok (.istore_n 3, 1) := by decide +kernel
theorem d_R_signature_26 : decode b_R_signature 26 = .ok (.aload_n 0, 1) := by decide +kernel
theorem d_R_signature_27 : decode b_R_signature 27 = .ok (.iconst 0, 1) := by decide +kernel
theorem d_R_signature_28 : decode b_R_signature 28 = .ok (.putfield 163, 3) := by decide +kernel
theorem d_R_signature_31 : decode b_R_signature 31 = .ok (.iload_n 3, 1) := by decide +kernel
theorem d_R_signature_32 : decode b_R_signature 32 = .ok (.iconst 2, 1) := by decide +kernel
theorem d_R_signature_33 : decode b_R_signature 33 = .ok (.if_icmp .lt 26, 3) := by decide +kernel
theorem d_R_signature_36 : decode b_R_signature 36 = .ok (.aload_n 0, 1) := by decide +kernel
theorem d_R_signature_37 : decode b_R_signature 37 = .ok (.getfield 27, 3) := by decide +kernel
theorem d_R_signature_40 : decode b_R_signature 40 = .ok (.iconst 0, 1) := by decide +kernel
theorem d_R_signature_41 : decode b_R_signature 41 = .ok (.iaload, 1) := by decide +kernel
theorem d_R_signature_42 : decode b_R_signature 42 = .ok (.bipush 48, 2) := by decide +kernel
theorem d_R_signature_44 : decode b_R_signature 44 = .ok (.if_icmp .ne 15, 3) := by decide +kernel
theorem d_R_signature_47 : decode b_R_signature 47 = .ok (.aload_n 0, 1) := by decide +kernel
theorem d_R_signature_48 : decode b_R_signature 48 = .ok (.getfield 27, 3) := by decide +kernel
theorem d_R_signature_51 : decode b_R_signature 51 = .ok (.iconst 1, 1) := by decide +kernel
theorem d_R_signature_52 : decode b_R_signature 52 = .ok (.iaload, 1) := by decide +kernel
theorem d_R_signature_53 : decode b_R_signature 53 = .ok (.iload_n 3, 1) := by decide +kernel
theorem d_R_signature_54 : decode b_R_signature 54 = .ok (.iconst 2, 1) := by decide +kernel
theorem d_R_signature_55 : decode b_R_signature 55 = .ok (.isub, 1) := by decide +kernel
theorem d_R_signature_56 : decode b_R_signature 56 = .ok (.if_icmp .eq 5, 3) := by decide +kernel
theorem d_R_signature_59 : decode b_R_signature 59 = .ok (.iconst 0, 1) := by decide +kernel
theorem d_R_signature_60 : decode b_R_signature 60 = .ok (.ireturn, 1) := by decide +kernel
theorem d_R_signature_61 : decode b_R_signature 61 = .ok (.aload_n 0, 1) := by decide +kernel
theorem d_R_signature_62 : decode b_R_signature 62 = .ok (.iconst 2, 1) := by decide +kernel
theorem d_R_signature_63 : decode b_R_signature 63 = .ok (.iload_n 3, 1) := by decide +kernel
theorem d_R_signature_64 : decode b_R_signature 64 = .ok (.invokevirtual 172, 3) := by decide +kernel
theorem d_R_signature_67 : decode b_R_signature 67 = .ok (.istore 4, 2) := by decide +kernel
theorem d_R_signature_69 : decode b_R_signature 69 = .ok (.iload 4, 2) := by decide +kernel
theorem d_R_signature_71 : decode b_R_signature 71 = .ok (.ifCond .lt 14, 3) := by decide +kernel
theorem d_R_signature_74 : decode b_R_signature 74 = .ok (.aload_n 0, 1) := by decide +kernel
theorem d_R_signature_75 : decode b_R_signature 75 = .ok (.iload 4, 2) := by decide +kernel
theorem d_R_signature_77 : decode b_R_signature 77 = .ok (.iload_n 3, 1) := by decide +kernel
theorem d_R_signature_78 : decode b_R_signature 78 = .ok (.invokevirtual 172, 3) := by decide +kernel
theorem d_R_signature_81 : decode b_R_signature 81 = .ok (.iload_n 3, 1) := by decide +kernel
theorem d_R_signature_82 : decode b_R_signature 82 = .ok (.if_icmp .eq 5, 3) := by decide +kernel
theorem d_R_signature_85 : decode b_R_signature 85 = .ok (.iconst 0, 1) := by decide +kernel
theorem d_R_signature_86 : decode b_R_signature 86 = .ok (.ireturn, 1) := by decide +kernel
theorem d_R_signature_87 : decode b_R_signature 87 = .ok (.aload_n 0, 1) := by decide +kernel
theorem d_R_signature_88 : decode b_R_signature 88 = .ok (.iload_n 1, 1) := by decide +kernel
theorem d_R_signature_89 : decode b_R_signature 89 = .ok (.iconst 4, 1) := by decide +kernel
theorem d_R_signature_90 : decode b_R_signature 90 = .ok (.iload 4, 2) := by decide +kernel
theorem d_R_signature_92 : decode b_R_signature 92 = .ok (.iconst 4, 1) := by decide +kernel
theorem d_R_signature_93 : decode b_R_signature 93 = .ok (.isub, 1) := by decide +kernel
theorem d_R_signature_94 : decode b_R_signature 94 = .ok (.invokevirtual 169, 3) := by decide +kernel
theorem d_R_signature_97 : decode b_R_signature 97 = .ok (.aload_n 0, 1) := by decide +kernel
theorem d_R_signature_98 : decode b_R_signature 98 = .ok (.iload_n 2, 1) := by decide +kernel
theorem d_R_signature_99 : decode b_R_signature 99 = .ok (.iload 4, 2) := by decide +kernel
theorem d_R_signature_101 : decode b_R_signature 101 = .ok (.iconst 2, 1) := by decide +kernel
theorem d_R_signature_102 : decode b_R_signature 102 = .ok (.iadd, 1) := by decide +kernel
theorem d_R_signature_103 : decode b_R_signature 103 = .ok (.iload_n 3, 1) := by decide +kernel
theorem d_R_signature_104 : decode b_R_signature 104 = .ok (.iload 4, 2) := by decide +kernel
theorem d_R_signature_106 : decode b_R_signature 106 = .ok (.isub, 1) := by decide +kernel
theorem d_R_signature_107 : decode b_R_signature 107 = .ok (.iconst 2, 1) := by decide +kernel
theorem d_R_signature_108 : decode b_R_signature 108 = .ok (.isub, 1) := by decide +kernel
theorem d_R_signature_109 : decode b_R_signature 109 = .ok (.invokevirtual 169, 3) := by decide +kernel
theorem d_R_signature_112 : decode b_R_signature 112 = .ok (.iconst 1, 1) := by decide +kernel
theorem d_R_signature_113 : decode b_R_signature 113 = .ok (.ireturn, 1) := by decide +kernel
theorem d_R_fits_0 : decode b_R_fits 0 = .ok (.iload_n 1, 1) := by decide +kernel
theorem d_R_fits_1 : decode b_R_fits 1 = .ok (.invokestatic 148, 3) := by decide +kernel
theorem d_R_fits_4 : decode b_R_fits 4 = .ok (.ifCond .eq 25, 3) := by decide +kernel
theorem d_R_fits_7 : decode b_R_fits 7 = .ok (.iload_n 2, 1) := by decide +kernel
theorem d_R_fits_8 : decode b_R_fits 8 = .ok (.invokestatic 139, 3) := by decide +kernel
theorem d_R_fits_11 : decode b_R_fits 11 = .ok (.ifCond .eq 18, 3) := by decide +kernel
theorem d_R_fits_14 : decode b_R_fits 14 = .ok (.iload_n 3, 1) := by decide +kernel
theorem d_R_fits_15 : decode b_R_fits 15 = .ok (.invokestatic 139, 3) := by decide +kernel
theorem d_R_fits_18 : decode b_R_fits 18 = .ok (.ifCond .eq 11, 3) := by decide +kernel
theorem d_R_fits_21 : decode b_R_fits 21 = .ok (.iload 4, 2) := by decide +kernel
theorem d_R_fits_23 : decode b_R_fits 23 = .ok (.invokestatic 139, 3) := by decide +kernel
theorem d_R_fits_26 : decode b_R_fits 26 = .ok (.ifCond .ne 5, 3) := by decide +kernel
theorem d_R_fits_29 : decode b_R_fits 29 = .ok (.iconst (-1), 1) := by decide +kernel
theorem d_R_fits_30 : decode b_R_fits 30 = .ok (.ireturn, 1) := by decide +kernel
theorem d_R_fits_31 : decode b_R_fits 31 = .ok (.aload_n 0, 1) := by decide +kernel
