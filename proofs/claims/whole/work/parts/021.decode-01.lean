/-! the instructions -/
theorem d_D_init_0 : decode b_D_init 0 = .ok (.aload_n 0, 1) := by decide +kernel
theorem d_D_init_1 : decode b_D_init 1 = .ok (.invokespecial 1, 3) := by decide +kernel
theorem d_D_init_4 : decode b_D_init 4 = .ok (.aload_n 0, 1) := by decide +kernel
theorem d_D_init_5 : decode b_D_init 5 = .ok (.bipush 8, 2) := by decide +kernel
theorem d_D_init_7 : decode b_D_init 7 = .ok (.bipush 8, 2) := by decide +kernel
theorem d_D_init_9 : decode b_D_init 9 = .ok (.multianewarray 9 2, 4) := by decide +kernel
theorem d_D_init_13 : decode b_D_init 13 = .ok (.putfield 11, 3) := by decide +kernel
theorem d_D_init_16 : decode b_D_init 16 = .ok (.aload_n 0, 1) := by decide +kernel
theorem d_D_init_17 : decode b_D_init 17 = .ok (.iconst 4, 1) := by decide +kernel
theorem d_D_init_18 : decode b_D_init 18 = .ok (.anewarray 14, 3) := by decide +kernel
theorem d_D_init_21 : decode b_D_init 21 = .ok (.putfield 16, 3) := by decide +kernel
theorem d_D_init_24 : decode b_D_init 24 = .ok (.aload_n 0, 1) := by decide +kernel
theorem d_D_init_25 : decode b_D_init 25 = .ok (.new 20, 3) := by decide +kernel
theorem d_D_init_28 : decode b_D_init 28 = .ok (.dup, 1) := by decide +kernel
theorem d_D_init_29 : decode b_D_init 29 = .ok (.invokespecial 22, 3) := by decide +kernel
theorem d_D_init_32 : decode b_D_init 32 = .ok (.putfield 23, 3) := by decide +kernel
theorem d_D_init_35 : decode b_D_init 35 = .ok (.aload_n 0, 1) := by decide +kernel
theorem d_D_init_36 : decode b_D_init 36 = .ok (.new 27, 3) := by decide +kernel
theorem d_D_init_39 : decode b_D_init 39 = .ok (.dup, 1) := by decide +kernel
theorem d_D_init_40 : decode b_D_init 40 = .ok (.getstatic 29, 3) := by decide +kernel
theorem d_D_init_43 : decode b_D_init 43 = .ok (.getstatic 33, 3) := by decide +kernel
theorem d_D_init_46 : decode b_D_init 46 = .ok (.getstatic 36, 3) := by decide +kernel
theorem d_D_init_49 : decode b_D_init 49 = .ok (.invokespecial 39, 3) := by decide +kernel
theorem d_D_init_52 : decode b_D_init 52 = .ok (.putfield 42, 3) := by decide +kernel
theorem d_D_init_55 : decode b_D_init 55 = .ok (.aload_n 0, 1) := by decide +kernel
theorem d_D_init_56 : decode b_D_init 56 = .ok (.new 27, 3) := by decide +kernel
theorem d_D_init_59 : decode b_D_init 59 = .ok (.dup, 1) := by decide +kernel
theorem d_D_init_60 : decode b_D_init 60 = .ok (.getstatic 46, 3) := by decide +kernel
theorem d_D_init_63 : decode b_D_init 63 = .ok (.getstatic 49, 3) := by decide +kernel
theorem d_D_init_66 : decode b_D_init 66 = .ok (.getstatic 52, 3) := by decide +kernel
theorem d_D_init_69 : decode b_D_init 69 = .ok (.invokespecial 39, 3) := by decide +kernel
theorem d_D_init_72 : decode b_D_init 72 = .ok (.putfield 55, 3) := by decide +kernel
theorem d_D_init_75 : decode b_D_init 75 = .ok (.aload_n 0, 1) := by decide +kernel
theorem d_D_init_76 : decode b_D_init 76 = .ok (.new 58, 3) := by decide +kernel
theorem d_D_init_79 : decode b_D_init 79 = .ok (.dup, 1) := by decide +kernel
theorem d_D_init_80 : decode b_D_init 80 = .ok (.aload_n 0, 1) := by decide +kernel
theorem d_D_init_81 : decode b_D_init 81 = .ok (.getfield 42, 3) := by decide +kernel
theorem d_D_init_84 : decode b_D_init 84 = .ok (.invokespecial 60, 3) := by decide +kernel
theorem d_D_init_87 : decode b_D_init 87 = .ok (.putfield 63, 3) := by decide +kernel
theorem d_D_init_90 : decode b_D_init 90 = .ok (.aload_n 0, 1) := by decide +kernel
theorem d_D_init_91 : decode b_D_init 91 = .ok (.new 14, 3) := by decide +kernel
theorem d_D_init_94 : decode b_D_init 94 = .ok (.dup, 1) := by decide +kernel
theorem d_D_init_95 : decode b_D_init 95 = .ok (.invokespecial 67, 3) := by decide +kernel
theorem d_D_init_98 : decode b_D_init 98 = .ok (.putfield 68, 3) := by decide +kernel
theorem d_D_init_101 : decode b_D_init 101 = .ok (.aload_n 0, 1) := by decide +kernel
theorem d_D_init_102 : decode b_D_init 102 = .ok (.new 14, 3) := by decide +kernel
theorem d_D_init_105 : decode b_D_init 105 = .ok (.dup, 1) := by decide +kernel
theorem d_D_init_106 : decode b_D_init 106 = .ok (.invokespecial 67, 3) := by decide +kernel
theorem d_D_init_109 : decode b_D_init 109 = .ok (.putfield 72, 3) := by decide +kernel
theorem d_D_init_112 : decode b_D_init 112 = .ok (.aload_n 0, 1) := by decide +kernel
theorem d_D_init_113 : decode b_D_init 113 = .ok (.bipush 8, 2) := by decide +kernel
theorem d_D_init_115 : decode b_D_init 115 = .ok (.newarray .long, 2) := by decide +kernel
theorem d_D_init_117 : decode b_D_init 117 = .ok (.putfield 75, 3) := by decide +kernel
theorem d_D_init_120 : decode b_D_init 120 = .ok (.aload_n 0, 1) := by decide +kernel
theorem d_D_init_121 : decode b_D_init 121 = .ok (.bipush 8, 2) := by decide +kernel
theorem d_D_init_123 : decode b_D_init 123 = .ok (.newarray .long, 2) := by decide +kernel
theorem d_D_init_125 : decode b_D_init 125 = .ok (.putfield 78, 3) := by decide +kernel
theorem d_D_init_128 : decode b_D_init 128 = .ok (.iconst 0, 1) := by decide +kernel
theorem d_D_init_129 : decode b_D_init 129 = .ok (.istore_n 1, 1) := by decide +kernel
theorem d_D_init_130 : decode b_D_init 130 = .ok (.iload_n 1, 1) := by decide +kernel
theorem d_D_init_131 : decode b_D_init 131 = .ok (.iconst 4, 1) := by decide +kernel
theorem d_D_init_132 : decode b_D_init 132 = .ok (.if_icmp .ge 22, 3) := by decide +kernel
theorem d_D_init_135 : decode b_D_init 135 = .ok (.aload_n 0, 1) := by decide +kernel
theorem d_D_init_136 : decode b_D_init 136 = .ok (.getfield 16, 3) := by decide +kernel
theorem d_D_init_139 : decode b_D_init 139 = .ok (.iload_n 1, 1) := by decide +kernel
theorem d_D_init_140 : decode b_D_init 140 = .ok (.new 14, 3) := by decide +kernel
theorem d_D_init_143 : decode b_D_init 143 = .ok (.dup, 1) := by decide +kernel
theorem d_D_init_144 : decode b_D_init 144 = .ok (.invokespecial 67, 3) := by decide +kernel
theorem d_D_init_147 : decode b_D_init 147 = .ok (.aastore, 1) := by decide +kernel
theorem d_D_init_148 : decode b_D_init 148 = .ok (.iinc 1 1, 3) := by decide +kernel
theorem d_D_init_151 : decode b_D_init 151 = .ok (.goto (-21), 3) := by decide +kernel
theorem d_D_init_154 : decode b_D_init 154 = .ok (.aload_n 0, 1) := by decide +kernel
theorem d_D_init_155 : decode b_D_init 155 = .ok (.getfield 68, 3) := by decide +kernel
theorem d_D_init_158 : decode b_D_init 158 = .ok (.getstatic 81, 3) := by decide +kernel
theorem d_D_init_161 : decode b_D_init 161 = .ok (.getstatic 84, 3) := by decide +kernel
theorem d_D_init_164 : decode b_D_init 164 = .ok (.invokevirtual 87, 3) := by decide +kernel
theorem d_D_init_167 : decode b_D_init 167 = .ok (.return_, 1) := by decide +kernel
theorem d_D_set_0 : decode b_D_set 0 = .ok (.iload_n 1, 1) := by decide +kernel
theorem d_D_set_1 : decode b_D_set 1 = .ok (.invokestatic 91, 3) := by decide +kernel
theorem d_D_set_4 : decode b_D_set 4 = .ok (.ifCond .ne 5, 3) := by decide +kernel
theorem d_D_set_7 : decode b_D_set 7 = .ok (.iconst 0, 1) := by decide +kernel
theorem d_D_set_8 : decode b_D_set 8 = .ok (.ireturn, 1) := by decide +kernel
theorem d_D_set_9 : decode b_D_set 9 = .ok (.aload_n 0, 1) := by decide +kernel
theorem d_D_set_10 : decode b_D_set 10 = .ok (.getfield 11, 3) := by decide +kernel
theorem d_D_set_13 : decode b_D_set 13 = .ok (.iload_n 1, 1) := by decide +kernel
theorem d_D_set_14 : decode b_D_set 14 = .ok (.aaload, 1) := by decide +kernel
theorem d_D_set_15 : decode b_D_set 15 = .ok (.astore 10, 2) := by decide +kernel
theorem d_D_set_17 : decode b_D_set 17 = .ok (.aload 10, 2) := by decide +kernel
theorem d_D_set_19 : decode b_D_set 19 = .ok (.iconst 0, 1) := by decide +kernel
theorem d_D_set_20 : decode b_D_set 20 = .ok (.lload_n 2, 1) := by decide +kernel
theorem d_D_set_21 : decode b_D_set 21 = .ok (.invokestatic 95, 3) := by decide +kernel
theorem d_D_set_24 : decode b_D_set 24 = .ok (.aload 10, 2) := by decide +kernel
theorem d_D_set_26 : decode b_D_set 26 = .ok (.iconst 1, 1) := by decide +kernel
theorem d_D_set_27 : decode b_D_set 27 = .ok (.lload 4, 2) := by decide +kernel
theorem d_D_set_29 : decode b_D_set 29 = .ok (.invokestatic 95, 3) := by decide +kernel
theorem d_D_set_32 : decode b_D_set 32 = .ok (.aload 10, 2) := by decide +kernel
theorem d_D_set_34 : decode b_D_set 34 = .ok (.iconst 2, 1) := by decide +kernel
theorem d_D_set_35 : decode b_D_set 35 = .ok (.lload 6, 2) := by decide +kernel
theorem d_D_set_37 : decode b_D_set 37 = .ok (.invokestatic 95, 3) := by decide +kernel
theorem d_D_set_40 : decode b_D_set 40 = .ok (.aload 10, 2) := by decide +kernel
theorem d_D_set_42 : decode b_D_set 42 = .ok (.iconst 3, 1) := by decide +kernel
theorem d_D_set_43 : decode b_D_set 43 = .ok (.lload 8, 2) := by decide +kernel
theorem d_D_set_45 : decode b_D_set 45 = .ok (.invokestatic 95, 3) := by decide +kernel
theorem d_D_set_48 : decode b_D_set 48 = .ok (.iconst 1, 1) := by decide +kernel
theorem d_D_set_49 : decode b_D_set 49 = .ok (.ireturn, 1) := by decide +kernel
theorem d_D_get_0 : decode b_D_get 0 = .ok (.iload_n 1, 1) := by decide +kernel
theorem d_D_get_1 : decode b_D_get 1 = .ok (.invokestatic 91, 3) := by decide +kernel
theorem d_D_get_4 : decode b_D_get 4 = .ok (.ifCond .eq 12, 3) := by decide +kernel
theorem d_D_get_7 : decode b_D_get 7 = .ok (.iload_n 2, 1) := by decide +kernel
theorem d_D_get_8 : decode b_D_get 8 = .ok (.ifCond .lt 8, 3) := by decide +kernel
theorem d_D_get_11 : decode b_D_get 11 = .ok (.iload_n 2, 1) := by decide +kernel
theorem d_D_get_12 : decode b_D_get 12 = .ok (.iconst 3, 1) := by decide +kernel
theorem d_D_get_13 : decode b_D_get 13 = .ok (.if_icmp .le 5, 3) := by decide +kernel
theorem d_D_get_16 : decode b_D_get 16 = .ok (.lconst 0, 1) := by decide +kernel
theorem d_D_get_17 : decode b_D_get 17 = .ok (.lreturn, 1) := by decide +kernel
theorem d_D_get_18 : decode b_D_get 18 = .ok (.aload_n 0, 1) := by decide +kernel
theorem d_D_get_19 : decode b_D_get 19 = .ok (.getfield 11, 3) := by decide +kernel
theorem d_D_get_22 : decode b_D_get 22 = .ok (.iload_n 1, 1) := by decide +kernel
theorem d_D_get_23 : decode b_D_get 23 = .ok (.aaload, 1) := by decide +kernel
theorem d_D_get_24 : decode b_D_get 24 = .ok (.iload_n 2, 1) := by decide +kernel
theorem d_D_get_25 : decode b_D_get 25 = .ok (.invokestatic 101, 3) := by decide +kernel
theorem d_D_get_28 : decode b_D_get 28 = .ok (.lreturn, 1) := by decide +kernel
theorem d_D_reduce_0 : decode b_D_reduce 0 = .ok (.iload_n 1, 1) := by decide +kernel
theorem d_D_reduce_1 : decode b_D_reduce 1 = .ok (.invokestatic 91, 3) := by decide +kernel
theorem d_D_reduce_4 : decode b_D_reduce 4 = .ok (.ifCond .eq 10, 3) := by decide +kernel
theorem d_D_reduce_7 : decode b_D_reduce 7 = .ok (.iload_n 2, 1) := by decide +kernel
theorem d_D_reduce_8 : decode b_D_reduce 8 = .ok (.invokestatic 105, 3) := by decide +kernel
theorem d_D_reduce_11 : decode b_D_reduce 11 = .ok (.ifCond .ne 5, 3) := by decide +kernel
theorem d_D_reduce_14 : decode b_D_reduce 14 = .ok (.iconst 0, 1) := by decide +kernel
theorem d_D_reduce_15 : decode b_D_reduce 15 = .ok (.ireturn, 1) := by decide +kernel
theorem d_D_reduce_16 : decode b_D_reduce 16 = .ok (.aload_n 0, 1) := by decide +kernel
theorem d_D_reduce_17 : decode b_D_reduce 17 = .ok (.iload_n 2, 1) := by decide +kernel
theorem d_D_reduce_18 : decode b_D_reduce 18 = .ok (.invokevirtual 108, 3) := by decide +kernel
theorem d_D_reduce_21 : decode b_D_reduce 21 = .ok (.aload_n 0, 1) := by decide +kernel
theorem d_D_reduce_22 : decode b_D_reduce 22 = .ok (.getfield 11, 3) := by decide +kernel
theorem d_D_reduce_25 : decode b_D_reduce 25 = .ok (.iload_n 1, 1) := by decide +kernel
theorem d_D_reduce_26 : decode b_D_reduce 26 = .ok (.aaload, 1) := by decide +kernel
theorem d_D_reduce_27 : decode b_D_reduce 27 = .ok (.invokevirtual 112, 3) := by decide +kernel
theorem d_D_reduce_30 : decode b_D_reduce 30 = .ok (.iconst 1, 1) := by decide +kernel
theorem d_D_reduce_31 : decode b_D_reduce 31 = .ok (.ireturn, 1) := by decide +kernel
theorem d_D_work_0 : decode b_D_work 0 = .ok (.iload_n 1, 1) := by decide +kernel
theorem d_D_work_1 : decode b_D_work 1 = .ok (.ifCond .lt 16, 3) := by decide +kernel
theorem d_D_work_4 : decode b_D_work 4 = .ok (.iload_n 1, 1) := by decide +kernel
theorem d_D_work_5 : decode b_D_work 5 = .ok (.iconst 3, 1) := by decide +kernel
theorem d_D_work_6 : decode b_D_work 6 = .ok (.if_icmp .gt 11, 3) := by decide +kernel
theorem d_D_work_9 : decode b_D_work 9 = .ok (.iload 5, 2) := by decide +kernel
theorem d_D_work_11 : decode b_D_work 11 = .ok (.invokestatic 105, 3) := by decide +kernel
theorem d_D_work_14 : decode b_D_work 14 = .ok (.ifCond .ne 5, 3) := by decide +kernel
theorem d_D_work_17 : decode b_D_work 17 = .ok (.iconst 0, 1) := by decide +kernel
theorem d_D_work_18 : decode b_D_work 18 = .ok (.ireturn, 1) := by decide +kernel
theorem d_D_work_19 : decode b_D_work 19 = .ok (.iload_n 2, 1) := by decide +kernel
theorem d_D_work_20 : decode b_D_work 20 = .ok (.invokestatic 91, 3) := by decide +kernel
theorem d_D_work_23 : decode b_D_work 23 = .ok (.ifCond .eq 18, 3) := by decide +kernel
theorem d_D_work_26 : decode b_D_work 26 = .ok (.iload_n 3, 1) := by decide +kernel
theorem d_D_work_27 : decode b_D_work 27 = .ok (.invokestatic 91, 3) := by decide +kernel
theorem d_D_work_30 : decode b_D_work 30 = .ok (.ifCond .eq 11, 3) := by decide +kernel
theorem d_D_work_33 : decode b_D_work 33 = .ok (.iload 4, 2) := by decide +kernel
theorem d_D_work_35 : decode b_D_work 35 = .ok (.invokestatic 91, 3) := by decide +kernel
theorem d_D_work_38 : decode b_D_work 38 = .ok (.ifCond .ne 5, 3) := by decide +kernel
theorem d_D_work_41 : decode b_D_work 41 = .ok (.iconst 0, 1) := by decide +kernel
theorem d_D_work_42 : decode b_D_work 42 = .ok (.ireturn, 1) := by decide +kernel
theorem d_D_work_43 : decode b_D_work 43 = .ok (.aload_n 0, 1) := by decide +kernel
theorem d_D_work_44 : decode b_D_work 44 = .ok (.iload 5, 2) := by decide +kernel
theorem d_D_work_46 : decode b_D_work 46 = .ok (.invokevirtual 108, 3) := by decide +kernel
theorem d_D_work_49 : decode b_D_work 49 = .ok (.astore 6, 2) := by decide +kernel
theorem d_D_work_51 : decode b_D_work 51 = .ok (.aload_n 0, 1) := by decide +kernel
theorem d_D_work_52 : decode b_D_work 52 = .ok (.getfield 11, 3) := by decide +kernel
theorem d_D_work_55 : decode b_D_work 55 = .ok (.iload_n 3, 1) := by decide +kernel
theorem d_D_work_56 : decode b_D_work 56 = .ok (.aaload, 1) := by decide +kernel
theorem d_D_work_57 : decode b_D_work 57 = .ok (.astore 7, 2) := by decide +kernel
theorem d_D_work_59 : decode b_D_work 59 = .ok (.aload_n 0, 1) := by decide +kernel
theorem d_D_work_60 : decode b_D_work 60 = .ok (.getfield 11, 3) := by decide +kernel
theorem d_D_work_63 : decode b_D_work 63 = .ok (.iload 4, 2) := by decide +kernel
theorem d_D_work_65 : decode b_D_work 65 = .ok (.aaload, 1) := by decide +kernel
theorem d_D_work_66 : decode b_D_work 66 = .ok (.astore 8, 2) := by decide +kernel
theorem d_D_work_68 : decode b_D_work 68 = .ok (.aload 6, 2) := by decide +kernel
theorem d_D_work_70 : decode b_D_work 70 = .ok (.aload 7, 2) := by decide +kernel
theorem d_D_work_72 : decode b_D_work 72 = .ok (.invokevirtual 116, 3) := by decide +kernel
theorem d_D_work_75 : decode b_D_work 75 = .ok (.ifCond .eq 13, 3) := by decide +kernel
theorem d_D_work_78 : decode b_D_work 78 = .ok (.aload 6, 2) := by decide +kernel
theorem d_D_work_80 : decode b_D_work 80 = .ok (.aload 8, 2) := by decide +kernel
theorem d_D_work_82 : decode b_D_work 82 = .ok (.invokevirtual 116, 3) := by decide +kernel
theorem d_D_work_85 : decode b_D_work 85 = .ok (.ifCond .ne 5, 3) := by decide +kernel
theorem d_D_work_88 : decode b_D_work 88 = .ok (.iconst 0, 1) := by decide +kernel
theorem d_D_work_89 : decode b_D_work 89 = .ok (.ireturn, 1) := by decide +kernel
theorem d_D_work_90 : decode b_D_work 90 = .ok (.iload_n 1, 1) := by decide +kernel
theorem d_D_work_91 : decode b_D_work 91 = .ok (.iconst 3, 1) := by decide +kernel
theorem d_D_work_92 : decode b_D_work 92 = .ok (.if_icmp .ne 13, 3) := by decide +kernel
theorem d_D_work_95 : decode b_D_work 95 = .ok (.aload 8, 2) := by decide +kernel
theorem d_D_work_97 : decode b_D_work 97 = .ok (.invokestatic 120, 3) := by decide +kernel
theorem d_D_work_100 : decode b_D_work 100 = .ok (.ifCond .eq 5, 3) := by decide +kernel
theorem d_D_work_103 : decode b_D_work 103 = .ok (.iconst 0, 1) := by decide +kernel
theorem d_D_work_104 : decode b_D_work 104 = .ok (.ireturn, 1) := by decide +kernel
theorem d_D_work_105 : decode b_D_work 105 = .ok (.iload_n 1, 1) := by decide +kernel
theorem d_D_work_106 : decode b_D_work 106 = .ok (.tableswitch 80 0 2 #[26, 44, 62], 26) := by decide +kernel
theorem d_D_work_132 : decode b_D_work 132 = .ok (.aload 6, 2) := by decide +kernel
theorem d_D_work_134 : decode b_D_work 134 = .ok (.aload_n 0, 1) := by decide +kernel
theorem d_D_work_135 : decode b_D_work 135 = .ok (.getfield 11, 3) := by decide +kernel
theorem d_D_work_138 : decode b_D_work 138 = .ok (.iload_n 2, 1) := by decide +kernel
theorem d_D_work_139 : decode b_D_work 139 = .ok (.aaload, 1) := by decide +kernel
theorem d_D_work_140 : decode b_D_work 140 = .ok (.aload 7, 2) := by decide +kernel
theorem d_D_work_142 : decode b_D_work 142 = .ok (.aload 8, 2) := by decide +kernel
theorem d_D_work_144 : decode b_D_work 144 = .ok (.invokevirtual 123, 3) := by decide +kernel
theorem d_D_work_147 : decode b_D_work 147 = .ok (.goto 67, 3) := by decide +kernel
theorem d_D_work_150 : decode b_D_work 150 = .ok (.aload 6, 2) := by decide +kernel
theorem d_D_work_152 : decode b_D_work 152 = .ok (.aload_n 0, 1) := by decide +kernel
theorem d_D_work_153 : decode b_D_work 153 = .ok (.getfield 11, 3) := by decide +kernel
theorem d_D_work_156 : decode b_D_work 156 = .ok (.iload_n 2, 1) := by decide +kernel
theorem d_D_work_157 : decode b_D_work 157 = .ok (.aaload, 1) := by decide +kernel
theorem d_D_work_158 : decode b_D_work 158 = .ok (.aload 7, 2) := by decide +kernel
theorem d_D_work_160 : decode b_D_work 160 = .ok (.aload 8, 2) := by decide +kernel
theorem d_D_work_162 : decode b_D_work 162 = .ok (.invokevirtual 126, 3) := by decide +kernel
theorem d_D_work_165 : decode b_D_work 165 = .ok (.goto 49, 3) := by decide +kernel
theorem d_D_work_168 : decode b_D_work 168 = .ok (.aload 6, 2) := by decide +kernel
theorem d_D_work_170 : decode b_D_work 170 = .ok (.aload_n 0, 1) := by decide +kernel
theorem d_D_work_171 : decode b_D_work 171 = .ok (.getfield 11, 3) := by decide +kernel
theorem d_D_work_174 : decode b_D_work 174 = .ok (.iload_n 2, 1) := by decide +kernel
theorem d_D_work_175 : decode b_D_work 175 = .ok (.aaload, 1) := by decide +kernel
theorem d_D_work_176 : decode b_D_work 176 = .ok (.aload 7, 2) := by decide +kernel
theorem d_D_work_178 : decode b_D_work 178 = .ok (.aload 8, 2) := by decide +kernel
theorem d_D_work_180 : decode b_D_work 180 = .ok (.invokevirtual 129, 3) := by decide +kernel
theorem d_D_work_183 : decode b_D_work 183 = .ok (.goto 31, 3) := by decide +kernel
theorem d_D_work_186 : decode b_D_work 186 = .ok (.aload 6, 2) := by decide +kernel
theorem d_D_work_188 : decode b_D_work 188 = .ok (.aload_n 0, 1) := by decide +kernel
theorem d_D_work_189 : decode b_D_work 189 = .ok (.getfield 75, 3) := by decide +kernel
theorem d_D_work_192 : decode b_D_work 192 = .ok (.aload 8, 2) := by decide +kernel
theorem d_D_work_194 : decode b_D_work 194 = .ok (.invokevirtual 132, 3) := by decide +kernel
theorem d_D_work_197 : decode b_D_work 197 = .ok (.aload 6, 2) := by decide +kernel
theorem d_D_work_199 : decode b_D_work 199 = .ok (.aload_n 0, 1) := by decide +kernel
theorem d_D_work_200 : decode b_D_work 200 = .ok (.getfield 11, 3) := by decide +kernel
theorem d_D_work_203 : decode b_D_work 203 = .ok (.iload_n 2, 1) := by decide +kernel
theorem d_D_work_204 : decode b_D_work 204 = .ok (.aaload, 1) := by decide +kernel
theorem d_D_work_205 : decode b_D_work 205 = .ok (.aload 7, 2) := by decide +kernel
theorem d_D_work_207 : decode b_D_work 207 = .ok (.aload_n 0, 1) := by decide +kernel
theorem d_D_work_208 : decode b_D_work 208 = .ok (.getfield 75, 3) := by decide +kernel
theorem d_D_work_211 : decode b_D_work 211 = .ok (.invokevirtual 129, 3) := by decide +kernel
theorem d_D_work_214 : decode b_D_work 214 = .ok (.iconst 1, 1) := by decide +kernel
theorem d_D_work_215 : decode b_D_work 215 = .ok (.ireturn, 1) := by decide +kernel
theorem d_D_root_0 : decode b_D_root 0 = .ok (.iload_n 1, 1) := by decide +kernel
theorem d_D_root_1 : decode b_D_root 1 = .ok (.invokestatic 91, 3) := by decide +kernel
theorem d_D_root_4 : decode b_D_root 4 = .ok (.ifCond .eq 26, 3) := by decide +kernel
theorem d_D_root_7 : decode b_D_root 7 = .ok (.iload_n 2, 1) := by decide +kernel
theorem d_D_root_8 : decode b_D_root 8 = .ok (.invokestatic 91, 3) := by decide +kernel
theorem d_D_root_11 : decode b_D_root 11 = .ok (.ifCond .eq 19, 3) := by decide +kernel
theorem d_D_root_14 : decode b_D_root 14 = .ok (.aload_n 0, 1) := by decide +kernel
theorem d_D_root_15 : decode b_D_root 15 = .ok (.getfield 42, 3) := by decide +kernel
theorem d_D_root_18 : decode b_D_root 18 = .ok (.aload_n 0, 1) := by decide +kernel
theorem d_D_root_19 : decode b_D_root 19 = .ok (.getfield 11, 3) := by decide +kernel
theorem d_D_root_22 : decode b_D_root 22 = .ok (.iload_n 2, 1) := by decide +kernel
theorem d_D_root_23 : decode b_D_root 23 = .ok (.aaload, 1) := by decide +kernel
theorem d_D_root_24 : decode b_D_root 24 = .ok (.invokevirtual 116, 3) := by decide +kernel
theorem d_D_root_27 : decode b_D_root 27 = .ok (.ifCond .ne 5, 3) := by decide +kernel
theorem d_D_root_30 : decode b_D_root 30 = .ok (.iconst 0, 1) := by decide +kernel
theorem d_D_root_31 : decode b_D_root 31 = .ok (.ireturn, 1) := by decide +kernel
theorem d_D_root_32 : decode b_D_root 32 = .ok (.aload_n 0, 1) := by decide +kernel
theorem d_D_root_33 : decode b_D_root 33 = .ok (.getfield 63, 3) := by decide +kernel
theorem d_D_root_36 : decode b_D_root 36 = .ok (.aload_n 0, 1) := by decide +kernel
theorem d_D_root_37 : decode b_D_root 37 = .ok (.getfield 75, 3) := by decide +kernel
theorem d_D_root_40 : decode b_D_root 40 = .ok (.aload_n 0, 1) := by decide +kernel
theorem d_D_root_41 : decode b_D_root 41 = .ok (.getfield 11, 3) := by decide +kernel
theorem d_D_root_44 : decode b_D_root 44 = .ok (.iload_n 2, 1) := by decide +kernel
theorem d_D_root_45 : decode b_D_root 45 = .ok (.aaload, 1) := by decide +kernel
theorem d_D_root_46 : decode b_D_root 46 = .ok (.invokevirtual 135, 3) := by decide +kernel
theorem d_D_root_49 : decode b_D_root 49 = .ok (.ifCond .ne 5, 3) := by decide +kernel
theorem d_D_root_52 : decode b_D_root 52 = .ok (.iconst 0, 1) := by decide +kernel
theorem d_D_root_53 : decode b_D_root 53 = .ok (.ireturn, 1) := by decide +kernel
theorem d_D_root_54 : decode b_D_root 54 = .ok (.aload_n 0, 1) := by decide +kernel
theorem d_D_root_55 : decode b_D_root 55 = .ok (.getfield 11, 3) := by decide +kernel
theorem d_D_root_58 : decode b_D_root 58 = .ok (.iload_n 1, 1) := by decide +kernel
theorem d_D_root_59 : decode b_D_root 59 = .ok (.aaload, 1) := by decide +kernel
theorem d_D_root_60 : decode b_D_root 60 = .ok (.aload_n 0, 1) := by decide +kernel
theorem d_D_root_61 : decode b_D_root 61 = .ok (.getfield 75, 3) := by decide +kernel
theorem d_D_root_64 : decode b_D_root 64 = .ok (.invokestatic 139, 3) := by decide +kernel
theorem d_D_root_67 : decode b_D_root 67 = .ok (.iconst 1, 1) := by decide +kernel
theorem d_D_root_68 : decode b_D_root 68 = .ok (.ireturn, 1) := by decide +kernel
theorem d_D_spot_0 : decode b_D_spot 0 = .ok (.iload_n 2, 1) := by decide +kernel
theorem d_D_spot_1 : decode b_D_spot 1 = .ok (.invokestatic 142, 3) := by decide +kernel
theorem d_D_spot_4 : decode b_D_spot 4 = .ok (.ifCond .ne 5, 3) := by decide +kernel
theorem d_D_spot_7 : decode b_D_spot 7 = .ok (.iconst 0, 1) := by decide +kernel
theorem d_D_spot_8 : decode b_D_spot 8 = .ok (.ireturn, 1) := by decide +kernel
theorem d_D_spot_9 : decode b_D_spot 9 = .ok (.iload_n 1, 1) := by decide +kernel
theorem d_D_spot_10 : decode b_D_spot 10 = .ok (.tableswitch 96 0 2 #[26, 37, 54], 26) := by decide +kernel
theorem d_D_spot_36 : decode b_D_spot 36 = .ok (.aload_n 0, 1) := by decide +kernel
theorem d_D_spot_37 : decode b_D_spot 37 = .ok (.getfield 16, 3) := by decide +kernel
theorem d_D_spot_40 : decode b_D_spot 40 = .ok (.iload_n 2, 1) := by decide +kernel
theorem d_D_spot_41 : decode b_D_spot 41 = .ok (.aaload, 1) := by decide +kernel
theorem d_D_spot_42 : decode b_D_spot 42 = .ok (.invokevirtual 145, 3) := by decide +kernel
theorem d_D_spot_45 : decode b_D_spot 45 = .ok (.iconst 1, 1) := by decide +kernel
theorem d_D_spot_46 : decode b_D_spot 46 = .ok (.ireturn, 1) := by decide +kernel
theorem d_D_spot_47 : decode b_D_spot 47 = .ok (.aload_n 0, 1) := by decide +kernel
theorem d_D_spot_48 : decode b_D_spot 48 = .ok (.getfield 16, 3) := by decide +kernel
theorem d_D_spot_51 : decode b_D_spot 51 = .ok (.iload_n 2, 1) := by decide +kernel
theorem d_D_spot_52 : decode b_D_spot 52 = .ok (.aaload, 1) := by decide +kernel
theorem d_D_spot_53 : decode b_D_spot 53 = .ok (.getstatic 81, 3) := by decide +kernel
theorem d_D_spot_56 : decode b_D_spot 56 = .ok (.getstatic 84, 3) := by decide +kernel
theorem d_D_spot_59 : decode b_D_spot 59 = .ok (.invokevirtual 87, 3) := by decide +kernel
theorem d_D_spot_62 : decode b_D_spot 62 = .ok (.iconst 1, 1) := by decide +kernel
theorem d_D_spot_63 : decode b_D_spot 63 = .ok (.ireturn, 1) := by decide +kernel
theorem d_D_spot_64 : decode b_D_spot 64 = .ok (.iload_n 3, 1) := by decide +kernel
theorem d_D_spot_65 : decode b_D_spot 65 = .ok (.invokestatic 91, 3) := by decide +kernel
theorem d_D_spot_68 : decode b_D_spot 68 = .ok (.ifCond .eq 36, 3) := by decide +kernel
theorem d_D_spot_71 : decode b_D_spot 71 = .ok (.iload 4, 2) := by decide +kernel
theorem d_D_spot_73 : decode b_D_spot 73 = .ok (.invokestatic 91, 3) := by decide +kernel
theorem d_D_spot_76 : decode b_D_spot 76 = .ok (.ifCond .eq 28, 3) := by decide +kernel
theorem d_D_spot_79 : decode b_D_spot 79 = .ok (.aload_n 0, 1) := by decide +kernel
theorem d_D_spot_80 : decode b_D_spot 80 = .ok (.iload_n 2, 1) := by decide +kernel
theorem d_D_spot_81 : decode b_D_spot 81 = .ok (.aload_n 0, 1) := by decide +kernel
theorem d_D_spot_82 : decode b_D_spot 82 = .ok (.getfield 11, 3) := by decide +kernel
theorem d_D_spot_85 : decode b_D_spot 85 = .ok (.iload_n 3, 1) := by decide +kernel
theorem d_D_spot_86 : decode b_D_spot 86 = .ok (.aaload, 1) := by decide +kernel
theorem d_D_spot_87 : decode b_D_spot 87 = .ok (.aload_n 0, 1) := by decide +kernel
theorem d_D_spot_88 : decode b_D_spot 88 = .ok (.getfield 11, 3) := by decide +kernel
theorem d_D_spot_91 : decode b_D_spot 91 = .ok (.iload 4, 2) := by decide +kernel
theorem d_D_spot_93 : decode b_D_spot 93 = .ok (.aaload, 1) := by decide +kernel
theorem d_D_spot_94 : decode b_D_spot 94 = .ok (.invokevirtual 148, 3) := by decide +kernel
theorem d_D_spot_97 : decode b_D_spot 97 = .ok (.ifCond .eq 7, 3) := by decide +kernel
theorem d_D_spot_100 : decode b_D_spot 100 = .ok (.iconst 1, 1) := by decide +kernel
theorem d_D_spot_101 : decode b_D_spot 101 = .ok (.goto 4, 3) := by decide +kernel
theorem d_D_spot_104 : decode b_D_spot 104 = .ok (.iconst 0, 1) := by decide +kernel
theorem d_D_spot_105 : decode b_D_spot 105 = .ok (.ireturn, 1) := by decide +kernel
theorem d_D_spot_106 : decode b_D_spot 106 = .ok (.iconst 0, 1) := by decide +kernel
theorem d_D_spot_107 : decode b_D_spot 107 = .ok (.ireturn, 1) := by decide +kernel
theorem d_D_sum_0 : decode b_D_sum 0 = .ok (.iload_n 1, 1) := by decide +kernel
theorem d_D_sum_1 : decode b_D_sum 1 = .ok (.invokestatic 142, 3) := by decide +kernel
theorem d_D_sum_4 : decode b_D_sum 4 = .ok (.ifCond .eq 17, 3) := by decide +kernel
theorem d_D_sum_7 : decode b_D_sum 7 = .ok (.iload_n 2, 1) := by decide +kernel
theorem d_D_sum_8 : decode b_D_sum 8 = .ok (.invokestatic 142, 3) := by decide +kernel
theorem d_D_sum_11 : decode b_D_sum 11 = .ok (.ifCond .eq 10, 3) := by decide +kernel
theorem d_D_sum_14 : decode b_D_sum 14 = .ok (.iload_n 3, 1) := by decide +kernel
theorem d_D_sum_15 : decode b_D_sum 15 = .ok (.invokestatic 142, 3) := by decide +kernel
theorem d_D_sum_18 : decode b_D_sum 18 = .ok (.ifCond .ne 5, 3) := by decide +kernel
theorem d_D_sum_21 : decode b_D_sum 21 = .ok (.iconst 0, 1) := by decide +kernel
theorem d_D_sum_22 : decode b_D_sum 22 = .ok (.ireturn, 1) := by decide +kernel
theorem d_D_sum_23 : decode b_D_sum 23 = .ok (.aload_n 0, 1) := by decide +kernel
theorem d_D_sum_24 : decode b_D_sum 24 = .ok (.getfield 63, 3) := by decide +kernel
theorem d_D_sum_27 : decode b_D_sum 27 = .ok (.aload_n 0, 1) := by decide +kernel
theorem d_D_sum_28 : decode b_D_sum 28 = .ok (.getfield 16, 3) := by decide +kernel
theorem d_D_sum_31 : decode b_D_sum 31 = .ok (.iload_n 1, 1) := by decide +kernel
theorem d_D_sum_32 : decode b_D_sum 32 = .ok (.aaload, 1) := by decide +kernel
theorem d_D_sum_33 : decode b_D_sum 33 = .ok (.aload_n 0, 1) := by decide +kernel
theorem d_D_sum_34 : decode b_D_sum 34 = .ok (.getfield 16, 3) := by decide +kernel
theorem d_D_sum_37 : decode b_D_sum 37 = .ok (.iload_n 2, 1) := by decide +kernel
theorem d_D_sum_38 : decode b_D_sum 38 = .ok (.aaload, 1) := by decide +kernel
theorem d_D_sum_39 : decode b_D_sum 39 = .ok (.aload_n 0, 1) := by decide +kernel
theorem d_D_sum_40 : decode b_D_sum 40 = .ok (.getfield 16, 3) := by decide +kernel
theorem d_D_sum_43 : decode b_D_sum 43 = .ok (.iload_n 3, 1) := by decide +kernel
theorem d_D_sum_44 : decode b_D_sum 44 = .ok (.aaload, 1) := by decide +kernel
theorem d_D_sum_45 : decode b_D_sum 45 = .ok (.invokevirtual 152, 3) := by decide +kernel
theorem d_D_sum_48 : decode b_D_sum 48 = .ok (.iconst 1, 1) := by decide +kernel
theorem d_D_sum_49 : decode b_D_sum 49 = .ok (.ireturn, 1) := by decide +kernel
theorem d_D_times_0 : decode b_D_times 0 = .ok (.iload_n 1, 1) := by decide +kernel
theorem d_D_times_1 : decode b_D_times 1 = .ok (.invokestatic 142, 3) := by decide +kernel
theorem d_D_times_4 : decode b_D_times 4 = .ok (.ifCond .eq 17, 3) := by decide +kernel
theorem d_D_times_7 : decode b_D_times 7 = .ok (.iload_n 2, 1) := by decide +kernel
theorem d_D_times_8 : decode b_D_times 8 = .ok (.invokestatic 142, 3) := by decide +kernel
theorem d_D_times_11 : decode b_D_times 11 = .ok (.ifCond .eq 10, 3) := by decide +kernel
theorem d_D_times_14 : decode b_D_times 14 = .ok (.iload_n 3, 1) := by decide +kernel
theorem d_D_times_15 : decode b_D_times 15 = .ok (.invokestatic 91, 3) := by decide +kernel
theorem d_D_times_18 : decode b_D_times 18 = .ok (.ifCond .ne 5, 3) := by decide +kernel
theorem d_D_times_21 : decode b_D_times 21 = .ok (.iconst 0, 1) := by decide +kernel
theorem d_D_times_22 : decode b_D_times 22 = .ok (.ireturn, 1) := by decide +kernel
theorem d_D_times_23 : decode b_D_times 23 = .ok (.aload_n 0, 1) := by decide +kernel
theorem d_D_times_24 : decode b_D_times 24 = .ok (.getfield 63, 3) := by decide +kernel
theorem d_D_times_27 : decode b_D_times 27 = .ok (.aload_n 0, 1) := by decide +kernel
theorem d_D_times_28 : decode b_D_times 28 = .ok (.getfield 16, 3) := by decide +kernel
theorem d_D_times_31 : decode b_D_times 31 = .ok (.iload_n 1, 1) := by decide +kernel
theorem d_D_times_32 : decode b_D_times 32 = .ok (.aaload, 1) := by decide +kernel
theorem d_D_times_33 : decode b_D_times 33 = .ok (.aload_n 0, 1) := by decide +kernel
theorem d_D_times_34 : decode b_D_times 34 = .ok (.getfield 11, 3) := by decide +kernel
theorem d_D_times_37 : decode b_D_times 37 = .ok (.iload_n 3, 1) := by decide +kernel
theorem d_D_times_38 : decode b_D_times 38 = .ok (.aaload, 1) := by decide +kernel
theorem d_D_times_39 : decode b_D_times 39 = .ok (.aload_n 0, 1) := by decide +kernel
theorem d_D_times_40 : decode b_D_times 40 = .ok (.getfield 16, 3) := by decide +kernel
theorem d_D_times_43 : decode b_D_times 43 = .ok (.iload_n 2, 1) := by decide +kernel
theorem d_D_times_44 : decode b_D_times 44 = .ok (.aaload, 1) := by decide +kernel
theorem d_D_times_45 : decode b_D_times 45 = .ok (.getstatic 156, 3) := by decide +kernel
theorem d_D_times_48 : decode b_D_times 48 = .ok (.aload_n 0, 1) := by decide +kernel
theorem d_D_times_49 : decode b_D_times 49 = .ok (.getfield 16, 3) := by decide +kernel
theorem d_D_times_52 : decode b_D_times 52 = .ok (.iload_n 2, 1) := by decide +kernel
theorem d_D_times_53 : decode b_D_times 53 = .ok (.aaload, 1) := by decide +kernel
theorem d_D_times_54 : decode b_D_times 54 = .ok (.invokevirtual 159, 3) := by decide +kernel
theorem d_D_times_57 : decode b_D_times 57 = .ok (.iconst 1, 1) := by decide +kernel
theorem d_D_times_58 : decode b_D_times 58 = .ok (.ireturn, 1) := by decide +kernel
theorem d_D_place_0 : decode b_D_place 0 = .ok (.iload_n 1, 1) := by decide +kernel
theorem d_D_place_1 : decode b_D_place 1 = .ok (.invokestatic 142, 3) := by decide +kernel
theorem d_D_place_4 : decode b_D_place 4 = .ok (.ifCond .eq 11, 3) := by decide +kernel
theorem d_D_place_7 : decode b_D_place 7 = .ok (.iload_n 2, 1) := by decide +kernel
theorem d_D_place_8 : decode b_D_place 8 = .ok (.iload_n 3, 1) := by decide +kernel
theorem d_D_place_9 : decode b_D_place 9 = .ok (.invokestatic 163, 3) := by decide +kernel
theorem d_D_place_12 : decode b_D_place 12 = .ok (.ifCond .ne 5, 3) := by decide +kernel
theorem d_D_place_15 : decode b_D_place 15 = .ok (.iconst (-1), 1) := by decide +kernel
theorem d_D_place_16 : decode b_D_place 16 = .ok (.ireturn, 1) := by decide +kernel
theorem d_D_place_17 : decode b_D_place 17 = .ok (.aload_n 0, 1) := by decide +kernel
theorem d_D_place_18 : decode b_D_place 18 = .ok (.getfield 16, 3) := by decide +kernel
theorem d_D_place_21 : decode b_D_place 21 = .ok (.iload_n 1, 1) := by decide +kernel
theorem d_D_place_22 : decode b_D_place 22 = .ok (.aaload, 1) := by decide +kernel
theorem d_D_place_23 : decode b_D_place 23 = .ok (.getfield 167, 3) := by decide +kernel
theorem d_D_place_26 : decode b_D_place 26 = .ok (.ifCond .eq 5, 3) := by decide +kernel
theorem d_D_place_29 : decode b_D_place 29 = .ok (.iconst 0, 1) := by decide +kernel
theorem d_D_place_30 : decode b_D_place 30 = .ok (.ireturn, 1) := by decide +kernel
theorem d_D_place_31 : decode b_D_place 31 = .ok (.aload_n 0, 1) := by decide +kernel
theorem d_D_place_32 : decode b_D_place 32 = .ok (.getfield 11, 3) := by decide +kernel
theorem d_D_place_35 : decode b_D_place 35 = .ok (.iload_n 2, 1) := by decide +kernel
theorem d_D_place_36 : decode b_D_place 36 = .ok (.aaload, 1) := by decide +kernel
theorem d_D_place_37 : decode b_D_place 37 = .ok (.aload_n 0, 1) := by decide +kernel
theorem d_D_place_38 : decode b_D_place 38 = .ok (.getfield 16, 3) := by decide +kernel
theorem d_D_place_41 : decode b_D_place 41 = .ok (.iload_n 1, 1) := by decide +kernel
theorem d_D_place_42 : decode b_D_place 42 = .ok (.aaload, 1) := by decide +kernel
theorem d_D_place_43 : decode b_D_place 43 = .ok (.getfield 171, 3) := by decide +kernel
theorem d_D_place_46 : decode b_D_place 46 = .ok (.invokestatic 139, 3) := by decide +kernel
theorem d_D_place_49 : decode b_D_place 49 = .ok (.aload_n 0, 1) := by decide +kernel
theorem d_D_place_50 : decode b_D_place 50 = .ok (.getfield 11, 3) := by decide +kernel
theorem d_D_place_53 : decode b_D_place 53 = .ok (.iload_n 3, 1) := by decide +kernel
theorem d_D_place_54 : decode b_D_place 54 = .ok (.aaload, 1) := by decide +kernel
theorem d_D_place_55 : decode b_D_place 55 = .ok (.aload_n 0, 1) := by decide +kernel
theorem d_D_place_56 : decode b_D_place 56 = .ok (.getfield 16, 3) := by decide +kernel
theorem d_D_place_59 : decode b_D_place 59 = .ok (.iload_n 1, 1) := by decide +kernel
theorem d_D_place_60 : decode b_D_place 60 = .ok (.aaload, 1) := by decide +kernel
theorem d_D_place_61 : decode b_D_place 61 = .ok (.getfield 174, 3) := by decide +kernel
theorem d_D_place_64 : decode b_D_place 64 = .ok (.invokestatic 139, 3) := by decide +kernel
