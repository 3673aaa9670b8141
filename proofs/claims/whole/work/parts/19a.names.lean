theorem dX9_init_0 : decode cX9_init 0 = .ok (.aload_n 0, 1) := by decide +kernel
theorem dX9_init_1 : decode cX9_init 1 = .ok (.invokespecial 3, 3) := by decide +kernel
theorem dX9_init_4 : decode cX9_init 4 = .ok (.aload_n 0, 1) := by decide +kernel
theorem dX9_init_5 : decode cX9_init 5 = .ok (.new 9, 3) := by decide +kernel
theorem dX9_init_8 : decode cX9_init 8 = .ok (.dup, 1) := by decide +kernel
theorem dX9_init_9 : decode cX9_init 9 = .ok (.invokespecial 11, 3) := by decide +kernel
theorem dX9_init_12 : decode cX9_init 12 = .ok (.putfield 12, 3) := by decide +kernel
theorem dX9_init_15 : decode cX9_init 15 = .ok (.aload_n 0, 1) := by decide +kernel
theorem dX9_init_16 : decode cX9_init 16 = .ok (.new 16, 3) := by decide +kernel
theorem dX9_init_19 : decode cX9_init 19 = .ok (.dup, 1) := by decide +kernel
theorem dX9_init_20 : decode cX9_init 20 = .ok (.invokespecial 18, 3) := by decide +kernel
theorem dX9_init_23 : decode cX9_init 23 = .ok (.putfield 19, 3) := by decide +kernel
theorem dX9_init_26 : decode cX9_init 26 = .ok (.aload_n 0, 1) := by decide +kernel
theorem dX9_init_27 : decode cX9_init 27 = .ok (.new 23, 3) := by decide +kernel
theorem dX9_init_30 : decode cX9_init 30 = .ok (.dup, 1) := by decide +kernel
theorem dX9_init_31 : decode cX9_init 31 = .ok (.invokespecial 25, 3) := by decide +kernel
theorem dX9_init_34 : decode cX9_init 34 = .ok (.putfield 26, 3) := by decide +kernel
theorem dX9_init_37 : decode cX9_init 37 = .ok (.aload_n 0, 1) := by decide +kernel
theorem dX9_init_38 : decode cX9_init 38 = .ok (.new 23, 3) := by decide +kernel
theorem dX9_init_41 : decode cX9_init 41 = .ok (.dup, 1) := by decide +kernel
theorem dX9_init_42 : decode cX9_init 42 = .ok (.invokespecial 25, 3) := by decide +kernel
theorem dX9_init_45 : decode cX9_init 45 = .ok (.putfield 30, 3) := by decide +kernel
theorem dX9_init_48 : decode cX9_init 48 = .ok (.aload_n 0, 1) := by decide +kernel
theorem dX9_init_49 : decode cX9_init 49 = .ok (.new 33, 3) := by decide +kernel
theorem dX9_init_52 : decode cX9_init 52 = .ok (.dup, 1) := by decide +kernel
theorem dX9_init_53 : decode cX9_init 53 = .ok (.invokespecial 35, 3) := by decide +kernel
theorem dX9_init_56 : decode cX9_init 56 = .ok (.putfield 36, 3) := by decide +kernel
theorem dX9_init_59 : decode cX9_init 59 = .ok (.aload_n 0, 1) := by decide +kernel
theorem dX9_init_60 : decode cX9_init 60 = .ok (.new 33, 3) := by decide +kernel
theorem dX9_init_63 : decode cX9_init 63 = .ok (.dup, 1) := by decide +kernel
theorem dX9_init_64 : decode cX9_init 64 = .ok (.invokespecial 35, 3) := by decide +kernel
theorem dX9_init_67 : decode cX9_init 67 = .ok (.putfield 40, 3) := by decide +kernel
theorem dX9_init_70 : decode cX9_init 70 = .ok (.aload_n 0, 1) := by decide +kernel
theorem dX9_init_71 : decode cX9_init 71 = .ok (.new 43, 3) := by decide +kernel
theorem dX9_init_74 : decode cX9_init 74 = .ok (.dup, 1) := by decide +kernel
theorem dX9_init_75 : decode cX9_init 75 = .ok (.bipush 8, 2) := by decide +kernel
theorem dX9_init_77 : decode cX9_init 77 = .ok (.invokespecial 45, 3) := by decide +kernel
theorem dX9_init_80 : decode cX9_init 80 = .ok (.putfield 48, 3) := by decide +kernel
theorem dX9_init_83 : decode cX9_init 83 = .ok (.aload_n 0, 1) := by decide +kernel
theorem dX9_init_84 : decode cX9_init 84 = .ok (.new 43, 3) := by decide +kernel
theorem dX9_init_87 : decode cX9_init 87 = .ok (.dup, 1) := by decide +kernel
theorem dX9_init_88 : decode cX9_init 88 = .ok (.iconst 2, 1) := by decide +kernel
theorem dX9_init_89 : decode cX9_init 89 = .ok (.invokespecial 45, 3) := by decide +kernel
theorem dX9_init_92 : decode cX9_init 92 = .ok (.putfield 52, 3) := by decide +kernel
theorem dX9_init_95 : decode cX9_init 95 = .ok (.aload_n 0, 1) := by decide +kernel
theorem dX9_init_96 : decode cX9_init 96 = .ok (.new 55, 3) := by decide +kernel
theorem dX9_init_99 : decode cX9_init 99 = .ok (.dup, 1) := by decide +kernel
theorem dX9_init_100 : decode cX9_init 100 = .ok (.invokespecial 57, 3) := by decide +kernel
theorem dX9_init_103 : decode cX9_init 103 = .ok (.putfield 58, 3) := by decide +kernel
theorem dX9_init_106 : decode cX9_init 106 = .ok (.aload_n 0, 1) := by decide +kernel
theorem dX9_init_107 : decode cX9_init 107 = .ok (.new 62, 3) := by decide +kernel
theorem dX9_init_110 : decode cX9_init 110 = .ok (.dup, 1) := by decide +kernel
theorem dX9_init_111 : decode cX9_init 111 = .ok (.invokespecial 64, 3) := by decide +kernel
theorem dX9_init_114 : decode cX9_init 114 = .ok (.putfield 65, 3) := by decide +kernel
theorem dX9_init_117 : decode cX9_init 117 = .ok (.aload_n 0, 1) := by decide +kernel
theorem dX9_init_118 : decode cX9_init 118 = .ok (.new 69, 3) := by decide +kernel
theorem dX9_init_121 : decode cX9_init 121 = .ok (.dup, 1) := by decide +kernel
theorem dX9_init_122 : decode cX9_init 122 = .ok (.invokespecial 71, 3) := by decide +kernel
theorem dX9_init_125 : decode cX9_init 125 = .ok (.putfield 72, 3) := by decide +kernel
theorem dX9_init_128 : decode cX9_init 128 = .ok (.aload_n 0, 1) := by decide +kernel
theorem dX9_init_129 : decode cX9_init 129 = .ok (.new 76, 3) := by decide +kernel
theorem dX9_init_132 : decode cX9_init 132 = .ok (.dup, 1) := by decide +kernel
theorem dX9_init_133 : decode cX9_init 133 = .ok (.invokespecial 78, 3) := by decide +kernel
theorem dX9_init_136 : decode cX9_init 136 = .ok (.putfield 79, 3) := by decide +kernel
theorem dX9_init_139 : decode cX9_init 139 = .ok (.iconst 0, 1) := by decide +kernel
theorem dX9_init_140 : decode cX9_init 140 = .ok (.istore_n 1, 1) := by decide +kernel
theorem dX9_init_141 : decode cX9_init 141 = .ok (.iload_n 1, 1) := by decide +kernel
theorem dX9_init_142 : decode cX9_init 142 = .ok (.ldc 83, 2) := by decide +kernel
theorem dX9_init_144 : decode cX9_init 144 = .ok (.invokevirtual 85, 3) := by decide +kernel
theorem dX9_init_147 : decode cX9_init 147 = .ok (.if_icmp .ge 22, 3) := by decide +kernel
theorem dX9_init_150 : decode cX9_init 150 = .ok (.aload_n 0, 1) := by decide +kernel
theorem dX9_init_151 : decode cX9_init 151 = .ok (.getfield 12, 3) := by decide +kernel
theorem dX9_init_154 : decode cX9_init 154 = .ok (.ldc 83, 2) := by decide +kernel
theorem dX9_init_156 : decode cX9_init 156 = .ok (.iload_n 1, 1) := by decide +kernel
theorem dX9_init_157 : decode cX9_init 157 = .ok (.invokevirtual 91, 3) := by decide +kernel
theorem dX9_init_160 : decode cX9_init 160 = .ok (.invokevirtual 95, 3) := by decide +kernel
theorem dX9_init_163 : decode cX9_init 163 = .ok (.iinc 1 1, 3) := by decide +kernel
theorem dX9_init_166 : decode cX9_init 166 = .ok (.goto (-25), 3) := by decide +kernel
theorem dX9_init_169 : decode cX9_init 169 = .ok (.aload_n 0, 1) := by decide +kernel
theorem dX9_init_170 : decode cX9_init 170 = .ok (.getfield 19, 3) := by decide +kernel
theorem dX9_init_173 : decode cX9_init 173 = .ok (.aload_n 0, 1) := by decide +kernel
theorem dX9_init_174 : decode cX9_init 174 = .ok (.getfield 12, 3) := by decide +kernel
theorem dX9_init_177 : decode cX9_init 177 = .ok (.aload_n 0, 1) := by decide +kernel
theorem dX9_init_178 : decode cX9_init 178 = .ok (.getfield 26, 3) := by decide +kernel
theorem dX9_init_181 : decode cX9_init 181 = .ok (.invokevirtual 99, 3) := by decide +kernel
theorem dX9_init_184 : decode cX9_init 184 = .ok (.pop, 1) := by decide +kernel
theorem dX9_init_185 : decode cX9_init 185 = .ok (.aload_n 0, 1) := by decide +kernel
theorem dX9_init_186 : decode cX9_init 186 = .ok (.getfield 26, 3) := by decide +kernel
theorem dX9_init_189 : decode cX9_init 189 = .ok (.aload_n 0, 1) := by decide +kernel
theorem dX9_init_190 : decode cX9_init 190 = .ok (.getfield 36, 3) := by decide +kernel
theorem dX9_init_193 : decode cX9_init 193 = .ok (.invokevirtual 103, 3) := by decide +kernel
theorem dX9_init_196 : decode cX9_init 196 = .ok (.aload_n 0, 1) := by decide +kernel
theorem dX9_init_197 : decode cX9_init 197 = .ok (.getfield 12, 3) := by decide +kernel
theorem dX9_init_200 : decode cX9_init 200 = .ok (.invokevirtual 107, 3) := by decide +kernel
theorem dX9_init_203 : decode cX9_init 203 = .ok (.return_, 1) := by decide +kernel
theorem dX9_write_0 : decode cX9_write 0 = .ok (.iload_n 1, 1) := by decide +kernel
theorem dX9_write_1 : decode cX9_write 1 = .ok (.bipush 32, 2) := by decide +kernel
theorem dX9_write_3 : decode cX9_write 3 = .ok (.if_icmp .lt 9, 3) := by decide +kernel
theorem dX9_write_6 : decode cX9_write 6 = .ok (.iload_n 1, 1) := by decide +kernel
theorem dX9_write_7 : decode cX9_write 7 = .ok (.bipush 126, 2) := by decide +kernel
theorem dX9_write_9 : decode cX9_write 9 = .ok (.if_icmp .le 5, 3) := by decide +kernel
theorem dX9_write_12 : decode cX9_write 12 = .ok (.iconst (-1), 1) := by decide +kernel
theorem dX9_write_13 : decode cX9_write 13 = .ok (.ireturn, 1) := by decide +kernel
theorem dX9_write_14 : decode cX9_write 14 = .ok (.aload_n 0, 1) := by decide +kernel
theorem dX9_write_15 : decode cX9_write 15 = .ok (.getfield 12, 3) := by decide +kernel
theorem dX9_write_18 : decode cX9_write 18 = .ok (.invokevirtual 110, 3) := by decide +kernel
theorem dX9_write_21 : decode cX9_write 21 = .ok (.ifCond .eq 6, 3) := by decide +kernel
theorem dX9_write_24 : decode cX9_write 24 = .ok (.bipush (-3), 2) := by decide +kernel
theorem dX9_write_26 : decode cX9_write 26 = .ok (.ireturn, 1) := by decide +kernel
theorem dX9_write_27 : decode cX9_write 27 = .ok (.aload_n 0, 1) := by decide +kernel
theorem dX9_write_28 : decode cX9_write 28 = .ok (.getfield 12, 3) := by decide +kernel
theorem dX9_write_31 : decode cX9_write 31 = .ok (.iload_n 1, 1) := by decide +kernel
theorem dX9_write_32 : decode cX9_write 32 = .ok (.i2c, 1) := by decide +kernel
theorem dX9_write_33 : decode cX9_write 33 = .ok (.invokevirtual 95, 3) := by decide +kernel
theorem dX9_write_36 : decode cX9_write 36 = .ok (.aload_n 0, 1) := by decide +kernel
theorem dX9_write_37 : decode cX9_write 37 = .ok (.getfield 12, 3) := by decide +kernel
theorem dX9_write_40 : decode cX9_write 40 = .ok (.invokevirtual 114, 3) := by decide +kernel
theorem dX9_write_43 : decode cX9_write 43 = .ok (.ireturn, 1) := by decide +kernel
theorem dX9_wipe_0 : decode cX9_wipe 0 = .ok (.aload_n 0, 1) := by decide +kernel
theorem dX9_wipe_1 : decode cX9_wipe 1 = .ok (.getfield 12, 3) := by decide +kernel
theorem dX9_wipe_4 : decode cX9_wipe 4 = .ok (.invokevirtual 114, 3) := by decide +kernel
theorem dX9_wipe_7 : decode cX9_wipe 7 = .ok (.istore_n 1, 1) := by decide +kernel
theorem dX9_wipe_8 : decode cX9_wipe 8 = .ok (.aload_n 0, 1) := by decide +kernel
theorem dX9_wipe_9 : decode cX9_wipe 9 = .ok (.getfield 12, 3) := by decide +kernel
theorem dX9_wipe_12 : decode cX9_wipe 12 = .ok (.invokevirtual 107, 3) := by decide +kernel
theorem dX9_wipe_15 : decode cX9_wipe 15 = .ok (.iload_n 1, 1) := by decide +kernel
theorem dX9_wipe_16 : decode cX9_wipe 16 = .ok (.ireturn, 1) := by decide +kernel
theorem dX9_fault_0 : decode cX9_fault 0 = .ok (.aload_n 0, 1) := by decide +kernel
theorem dX9_fault_1 : decode cX9_fault 1 = .ok (.getfield 19, 3) := by decide +kernel
theorem dX9_fault_4 : decode cX9_fault 4 = .ok (.aload_n 0, 1) := by decide +kernel
theorem dX9_fault_5 : decode cX9_fault 5 = .ok (.getfield 12, 3) := by decide +kernel
theorem dX9_fault_8 : decode cX9_fault 8 = .ok (.aload_n 0, 1) := by decide +kernel
theorem dX9_fault_9 : decode cX9_fault 9 = .ok (.getfield 30, 3) := by decide +kernel
theorem dX9_fault_12 : decode cX9_fault 12 = .ok (.invokevirtual 99, 3) := by decide +kernel
theorem dX9_fault_15 : decode cX9_fault 15 = .ok (.ireturn, 1) := by decide +kernel
theorem dX9_lay_0 : decode cX9_lay 0 = .ok (.aload_n 0, 1) := by decide +kernel
theorem dX9_lay_1 : decode cX9_lay 1 = .ok (.getfield 19, 3) := by decide +kernel
theorem dX9_lay_4 : decode cX9_lay 4 = .ok (.aload_n 0, 1) := by decide +kernel
theorem dX9_lay_5 : decode cX9_lay 5 = .ok (.getfield 12, 3) := by decide +kernel
theorem dX9_lay_8 : decode cX9_lay 8 = .ok (.aload_n 0, 1) := by decide +kernel
theorem dX9_lay_9 : decode cX9_lay 9 = .ok (.getfield 30, 3) := by decide +kernel
theorem dX9_lay_12 : decode cX9_lay 12 = .ok (.invokevirtual 99, 3) := by decide +kernel
theorem dX9_lay_15 : decode cX9_lay 15 = .ok (.bipush (-4), 2) := by decide +kernel
theorem dX9_lay_17 : decode cX9_lay 17 = .ok (.if_icmp .ne 13, 3) := by decide +kernel
theorem dX9_lay_20 : decode cX9_lay 20 = .ok (.aload_n 0, 1) := by decide +kernel
theorem dX9_lay_21 : decode cX9_lay 21 = .ok (.getfield 30, 3) := by decide +kernel
theorem dX9_lay_24 : decode cX9_lay 24 = .ok (.invokevirtual 117, 3) := by decide +kernel
theorem dX9_lay_27 : decode cX9_lay 27 = .ok (.ifCond .ne 6, 3) := by decide +kernel
theorem dX9_lay_30 : decode cX9_lay 30 = .ok (.bipush (-2), 2) := by decide +kernel
theorem dX9_lay_32 : decode cX9_lay 32 = .ok (.ireturn, 1) := by decide +kernel
theorem dX9_lay_33 : decode cX9_lay 33 = .ok (.aload_n 0, 1) := by decide +kernel
theorem dX9_lay_34 : decode cX9_lay 34 = .ok (.getfield 26, 3) := by decide +kernel
theorem dX9_lay_37 : decode cX9_lay 37 = .ok (.aload_n 0, 1) := by decide +kernel
theorem dX9_lay_38 : decode cX9_lay 38 = .ok (.getfield 30, 3) := by decide +kernel
theorem dX9_lay_41 : decode cX9_lay 41 = .ok (.invokevirtual 120, 3) := by decide +kernel
theorem dX9_lay_44 : decode cX9_lay 44 = .ok (.aload_n 0, 1) := by decide +kernel
theorem dX9_lay_45 : decode cX9_lay 45 = .ok (.getfield 26, 3) := by decide +kernel
theorem dX9_lay_48 : decode cX9_lay 48 = .ok (.aload_n 0, 1) := by decide +kernel
theorem dX9_lay_49 : decode cX9_lay 49 = .ok (.getfield 36, 3) := by decide +kernel
theorem dX9_lay_52 : decode cX9_lay 52 = .ok (.invokevirtual 103, 3) := by decide +kernel
theorem dX9_lay_55 : decode cX9_lay 55 = .ok (.aload_n 0, 1) := by decide +kernel
theorem dX9_lay_56 : decode cX9_lay 56 = .ok (.getfield 58, 3) := by decide +kernel
theorem dX9_lay_59 : decode cX9_lay 59 = .ok (.invokevirtual 124, 3) := by decide +kernel
theorem dX9_lay_62 : decode cX9_lay 62 = .ok (.aload_n 0, 1) := by decide +kernel
theorem dX9_lay_63 : decode cX9_lay 63 = .ok (.getfield 48, 3) := by decide +kernel
theorem dX9_lay_66 : decode cX9_lay 66 = .ok (.invokevirtual 125, 3) := by decide +kernel
theorem dX9_lay_69 : decode cX9_lay 69 = .ok (.aload_n 0, 1) := by decide +kernel
theorem dX9_lay_70 : decode cX9_lay 70 = .ok (.getfield 52, 3) := by decide +kernel
theorem dX9_lay_73 : decode cX9_lay 73 = .ok (.invokevirtual 125, 3) := by decide +kernel
theorem dX9_lay_76 : decode cX9_lay 76 = .ok (.aload_n 0, 1) := by decide +kernel
theorem dX9_lay_77 : decode cX9_lay 77 = .ok (.getfield 26, 3) := by decide +kernel
theorem dX9_lay_80 : decode cX9_lay 80 = .ok (.invokevirtual 117, 3) := by decide +kernel
theorem dX9_lay_83 : decode cX9_lay 83 = .ok (.ireturn, 1) := by decide +kernel
theorem dX9_high_0 : decode cX9_high 0 = .ok (.aload_n 0, 1) := by decide +kernel
theorem dX9_high_1 : decode cX9_high 1 = .ok (.iload_n 1, 1) := by decide +kernel
theorem dX9_high_2 : decode cX9_high 2 = .ok (.invokevirtual 126, 3) := by decide +kernel
theorem dX9_high_5 : decode cX9_high 5 = .ok (.ifCond .eq 14, 3) := by decide +kernel
theorem dX9_high_8 : decode cX9_high 8 = .ok (.aload_n 0, 1) := by decide +kernel
theorem dX9_high_9 : decode cX9_high 9 = .ok (.getfield 36, 3) := by decide +kernel
theorem dX9_high_12 : decode cX9_high 12 = .ok (.iload_n 1, 1) := by decide +kernel
theorem dX9_high_13 : decode cX9_high 13 = .ok (.invokevirtual 130, 3) := by decide +kernel
theorem dX9_high_16 : decode cX9_high 16 = .ok (.goto 4, 3) := by decide +kernel
theorem dX9_high_19 : decode cX9_high 19 = .ok (.iconst (-1), 1) := by decide +kernel
theorem dX9_high_20 : decode cX9_high 20 = .ok (.ireturn, 1) := by decide +kernel
theorem dX9_matter_0 : decode cX9_matter 0 = .ok (.aload_n 0, 1) := by decide +kernel
theorem dX9_matter_1 : decode cX9_matter 1 = .ok (.iload_n 1, 1) := by decide +kernel
theorem dX9_matter_2 : decode cX9_matter 2 = .ok (.invokevirtual 134, 3) := by decide +kernel
theorem dX9_matter_5 : decode cX9_matter 5 = .ok (.ifCond .ne 5, 3) := by decide +kernel
theorem dX9_matter_8 : decode cX9_matter 8 = .ok (.iconst (-1), 1) := by decide +kernel
theorem dX9_matter_9 : decode cX9_matter 9 = .ok (.ireturn, 1) := by decide +kernel
theorem dX9_matter_10 : decode cX9_matter 10 = .ok (.iload_n 2, 1) := by decide +kernel
theorem dX9_matter_11 : decode cX9_matter 11 = .ok (.tableswitch 70 0 5 #[37, 37, 37, 37, 47, 64], 37) := by decide +kernel
theorem dX9_matter_48 : decode cX9_matter 48 = .ok (.aload_n 0, 1) := by decide +kernel
theorem dX9_matter_49 : decode cX9_matter 49 = .ok (.getfield 26, 3) := by decide +kernel
theorem dX9_matter_52 : decode cX9_matter 52 = .ok (.iload_n 1, 1) := by decide +kernel
theorem dX9_matter_53 : decode cX9_matter 53 = .ok (.iload_n 2, 1) := by decide +kernel
theorem dX9_matter_54 : decode cX9_matter 54 = .ok (.invokevirtual 137, 3) := by decide +kernel
theorem dX9_matter_57 : decode cX9_matter 57 = .ok (.ireturn, 1) := by decide +kernel
theorem dX9_matter_58 : decode cX9_matter 58 = .ok (.aload_n 0, 1) := by decide +kernel
theorem dX9_matter_59 : decode cX9_matter 59 = .ok (.getfield 36, 3) := by decide +kernel
theorem dX9_matter_62 : decode cX9_matter 62 = .ok (.iload_n 1, 1) := by decide +kernel
theorem dX9_matter_63 : decode cX9_matter 63 = .ok (.invokevirtual 141, 3) := by decide +kernel
theorem dX9_matter_66 : decode cX9_matter 66 = .ok (.ifCond .eq 7, 3) := by decide +kernel
theorem dX9_matter_69 : decode cX9_matter 69 = .ok (.iconst 1, 1) := by decide +kernel
theorem dX9_matter_70 : decode cX9_matter 70 = .ok (.goto 4, 3) := by decide +kernel
theorem dX9_matter_73 : decode cX9_matter 73 = .ok (.iconst 0, 1) := by decide +kernel
theorem dX9_matter_74 : decode cX9_matter 74 = .ok (.ireturn, 1) := by decide +kernel
theorem dX9_matter_75 : decode cX9_matter 75 = .ok (.aload_n 0, 1) := by decide +kernel
theorem dX9_matter_76 : decode cX9_matter 76 = .ok (.iload_n 1, 1) := by decide +kernel
theorem dX9_matter_77 : decode cX9_matter 77 = .ok (.invokevirtual 144, 3) := by decide +kernel
theorem dX9_matter_80 : decode cX9_matter 80 = .ok (.ireturn, 1) := by decide +kernel
theorem dX9_matter_81 : decode cX9_matter 81 = .ok (.iconst (-1), 1) := by decide +kernel
theorem dX9_matter_82 : decode cX9_matter 82 = .ok (.ireturn, 1) := by decide +kernel
theorem dX9_maid_0 : decode cX9_maid 0 = .ok (.aload_n 0, 1) := by decide +kernel
theorem dX9_maid_1 : decode cX9_maid 1 = .ok (.iload_n 1, 1) := by decide +kernel
theorem dX9_maid_2 : decode cX9_maid 2 = .ok (.invokevirtual 147, 3) := by decide +kernel
theorem dX9_maid_5 : decode cX9_maid 5 = .ok (.ifCond .ne 5, 3) := by decide +kernel
theorem dX9_maid_8 : decode cX9_maid 8 = .ok (.iconst (-1), 1) := by decide +kernel
theorem dX9_maid_9 : decode cX9_maid 9 = .ok (.ireturn, 1) := by decide +kernel
theorem dX9_maid_10 : decode cX9_maid 10 = .ok (.aload_n 0, 1) := by decide +kernel
theorem dX9_maid_11 : decode cX9_maid 11 = .ok (.getfield 36, 3) := by decide +kernel
theorem dX9_maid_14 : decode cX9_maid 14 = .ok (.aload_n 0, 1) := by decide +kernel
theorem dX9_maid_15 : decode cX9_maid 15 = .ok (.getfield 36, 3) := by decide +kernel
theorem dX9_maid_18 : decode cX9_maid 18 = .ok (.iload_n 1, 1) := by decide +kernel
theorem dX9_maid_19 : decode cX9_maid 19 = .ok (.invokevirtual 150, 3) := by decide +kernel
theorem dX9_maid_22 : decode cX9_maid 22 = .ok (.invokevirtual 130, 3) := by decide +kernel
theorem dX9_maid_25 : decode cX9_maid 25 = .ok (.istore_n 3, 1) := by decide +kernel
theorem dX9_maid_26 : decode cX9_maid 26 = .ok (.iload_n 2, 1) := by decide +kernel
theorem dX9_maid_27 : decode cX9_maid 27 = .ok (.tableswitch 75 0 4 #[33, 33, 43, 52, 61], 33) := by decide +kernel
theorem dX9_maid_60 : decode cX9_maid 60 = .ok (.aload_n 0, 1) := by decide +kernel
theorem dX9_maid_61 : decode cX9_maid 61 = .ok (.getfield 26, 3) := by decide +kernel
theorem dX9_maid_64 : decode cX9_maid 64 = .ok (.iload_n 1, 1) := by decide +kernel
theorem dX9_maid_65 : decode cX9_maid 65 = .ok (.iload_n 2, 1) := by decide +kernel
theorem dX9_maid_66 : decode cX9_maid 66 = .ok (.invokevirtual 153, 3) := by decide +kernel
theorem dX9_maid_69 : decode cX9_maid 69 = .ok (.ireturn, 1) := by decide +kernel
theorem dX9_maid_70 : decode cX9_maid 70 = .ok (.aload_n 0, 1) := by decide +kernel
theorem dX9_maid_71 : decode cX9_maid 71 = .ok (.getfield 36, 3) := by decide +kernel
theorem dX9_maid_74 : decode cX9_maid 74 = .ok (.iload_n 1, 1) := by decide +kernel
theorem dX9_maid_75 : decode cX9_maid 75 = .ok (.invokevirtual 156, 3) := by decide +kernel
theorem dX9_maid_78 : decode cX9_maid 78 = .ok (.ireturn, 1) := by decide +kernel
theorem dX9_maid_79 : decode cX9_maid 79 = .ok (.aload_n 0, 1) := by decide +kernel
theorem dX9_maid_80 : decode cX9_maid 80 = .ok (.getfield 36, 3) := by decide +kernel
theorem dX9_maid_83 : decode cX9_maid 83 = .ok (.iload_n 1, 1) := by decide +kernel
theorem dX9_maid_84 : decode cX9_maid 84 = .ok (.invokevirtual 150, 3) := by decide +kernel
theorem dX9_maid_87 : decode cX9_maid 87 = .ok (.ireturn, 1) := by decide +kernel
theorem dX9_maid_88 : decode cX9_maid 88 = .ok (.aload_n 0, 1) := by decide +kernel
theorem dX9_maid_89 : decode cX9_maid 89 = .ok (.getfield 26, 3) := by decide +kernel
theorem dX9_maid_92 : decode cX9_maid 92 = .ok (.iload_n 1, 1) := by decide +kernel
theorem dX9_maid_93 : decode cX9_maid 93 = .ok (.iload_n 3, 1) := by decide +kernel
theorem dX9_maid_94 : decode cX9_maid 94 = .ok (.invokevirtual 159, 3) := by decide +kernel
theorem dX9_maid_97 : decode cX9_maid 97 = .ok (.iload_n 3, 1) := by decide +kernel
theorem dX9_maid_98 : decode cX9_maid 98 = .ok (.invokestatic 162, 3) := by decide +kernel
theorem dX9_maid_101 : decode cX9_maid 101 = .ok (.ireturn, 1) := by decide +kernel
theorem dX9_maid_102 : decode cX9_maid 102 = .ok (.iconst (-1), 1) := by decide +kernel
theorem dX9_maid_103 : decode cX9_maid 103 = .ok (.ireturn, 1) := by decide +kernel
theorem dX9_stroke_0 : decode cX9_stroke 0 = .ok (.aload_n 0, 1) := by decide +kernel
theorem dX9_stroke_1 : decode cX9_stroke 1 = .ok (.iload_n 1, 1) := by decide +kernel
theorem dX9_stroke_2 : decode cX9_stroke 2 = .ok (.invokevirtual 147, 3) := by decide +kernel
theorem dX9_stroke_5 : decode cX9_stroke 5 = .ok (.ifCond .eq 11, 3) := by decide +kernel
theorem dX9_stroke_8 : decode cX9_stroke 8 = .ok (.aload_n 0, 1) := by decide +kernel
theorem dX9_stroke_9 : decode cX9_stroke 9 = .ok (.iload_n 2, 1) := by decide +kernel
theorem dX9_stroke_10 : decode cX9_stroke 10 = .ok (.invokevirtual 126, 3) := by decide +kernel
theorem dX9_stroke_13 : decode cX9_stroke 13 = .ok (.ifCond .ne 5, 3) := by decide +kernel
theorem dX9_stroke_16 : decode cX9_stroke 16 = .ok (.iconst (-1), 1) := by decide +kernel
theorem dX9_stroke_17 : decode cX9_stroke 17 = .ok (.ireturn, 1) := by decide +kernel
theorem dX9_stroke_18 : decode cX9_stroke 18 = .ok (.aload_n 0, 1) := by decide +kernel
theorem dX9_stroke_19 : decode cX9_stroke 19 = .ok (.getfield 26, 3) := by decide +kernel
theorem dX9_stroke_22 : decode cX9_stroke 22 = .ok (.aload_n 0, 1) := by decide +kernel
theorem dX9_stroke_23 : decode cX9_stroke 23 = .ok (.getfield 36, 3) := by decide +kernel
theorem dX9_stroke_26 : decode cX9_stroke 26 = .ok (.iload_n 1, 1) := by decide +kernel
theorem dX9_stroke_27 : decode cX9_stroke 27 = .ok (.iload_n 2, 1) := by decide +kernel
theorem dX9_stroke_28 : decode cX9_stroke 28 = .ok (.invokevirtual 167, 3) := by decide +kernel
theorem dX9_stroke_31 : decode cX9_stroke 31 = .ok (.ifCond .ne 6, 3) := by decide +kernel
theorem dX9_stroke_34 : decode cX9_stroke 34 = .ok (.bipush (-2), 2) := by decide +kernel
theorem dX9_stroke_36 : decode cX9_stroke 36 = .ok (.ireturn, 1) := by decide +kernel
theorem dX9_stroke_37 : decode cX9_stroke 37 = .ok (.aload_n 0, 1) := by decide +kernel
theorem dX9_stroke_38 : decode cX9_stroke 38 = .ok (.getfield 48, 3) := by decide +kernel
theorem dX9_stroke_41 : decode cX9_stroke 41 = .ok (.aload_n 0, 1) := by decide +kernel
theorem dX9_stroke_42 : decode cX9_stroke 42 = .ok (.getfield 36, 3) := by decide +kernel
theorem dX9_stroke_45 : decode cX9_stroke 45 = .ok (.invokevirtual 171, 3) := by decide +kernel
theorem dX9_stroke_48 : decode cX9_stroke 48 = .ok (.aload_n 0, 1) := by decide +kernel
theorem dX9_stroke_49 : decode cX9_stroke 49 = .ok (.getfield 26, 3) := by decide +kernel
theorem dX9_stroke_52 : decode cX9_stroke 52 = .ok (.aload_n 0, 1) := by decide +kernel
theorem dX9_stroke_53 : decode cX9_stroke 53 = .ok (.getfield 36, 3) := by decide +kernel
theorem dX9_stroke_56 : decode cX9_stroke 56 = .ok (.iload_n 1, 1) := by decide +kernel
theorem dX9_stroke_57 : decode cX9_stroke 57 = .ok (.iload_n 2, 1) := by decide +kernel
theorem dX9_stroke_58 : decode cX9_stroke 58 = .ok (.invokevirtual 174, 3) := by decide +kernel
theorem dX9_stroke_61 : decode cX9_stroke 61 = .ok (.aload_n 0, 1) := by decide +kernel
theorem dX9_stroke_62 : decode cX9_stroke 62 = .ok (.getfield 36, 3) := by decide +kernel
theorem dX9_stroke_65 : decode cX9_stroke 65 = .ok (.iload_n 2, 1) := by decide +kernel
theorem dX9_stroke_66 : decode cX9_stroke 66 = .ok (.invokevirtual 130, 3) := by decide +kernel
theorem dX9_stroke_69 : decode cX9_stroke 69 = .ok (.ireturn, 1) := by decide +kernel
theorem dX9_pass_0 : decode cX9_pass 0 = .ok (.iload_n 1, 1) := by decide +kernel
theorem dX9_pass_1 : decode cX9_pass 1 = .ok (.iconst 1, 1) := by decide +kernel
theorem dX9_pass_2 : decode cX9_pass 2 = .ok (.if_icmp .lt 9, 3) := by decide +kernel
theorem dX9_pass_5 : decode cX9_pass 5 = .ok (.iload_n 1, 1) := by decide +kernel
theorem dX9_pass_6 : decode cX9_pass 6 = .ok (.bipush 20, 2) := by decide +kernel
theorem dX9_pass_8 : decode cX9_pass 8 = .ok (.if_icmp .le 5, 3) := by decide +kernel
theorem dX9_pass_11 : decode cX9_pass 11 = .ok (.iconst (-1), 1) := by decide +kernel
theorem dX9_pass_12 : decode cX9_pass 12 = .ok (.ireturn, 1) := by decide +kernel
theorem dX9_pass_13 : decode cX9_pass 13 = .ok (.aload_n 0, 1) := by decide +kernel
theorem dX9_pass_14 : decode cX9_pass 14 = .ok (.getfield 36, 3) := by decide +kernel
theorem dX9_pass_17 : decode cX9_pass 17 = .ok (.invokevirtual 178, 3) := by decide +kernel
theorem dX9_pass_20 : decode cX9_pass 20 = .ok (.iload_n 1, 1) := by decide +kernel
theorem dX9_pass_21 : decode cX9_pass 21 = .ok (.iadd, 1) := by decide +kernel
theorem dX9_pass_22 : decode cX9_pass 22 = .ok (.sipush 999, 3) := by decide +kernel
theorem dX9_pass_25 : decode cX9_pass 25 = .ok (.if_icmp .le 6, 3) := by decide +kernel
theorem dX9_pass_28 : decode cX9_pass 28 = .ok (.bipush (-2), 2) := by decide +kernel
theorem dX9_pass_30 : decode cX9_pass 30 = .ok (.ireturn, 1) := by decide +kernel
theorem dX9_pass_31 : decode cX9_pass 31 = .ok (.aload_n 0, 1) := by decide +kernel
theorem dX9_pass_32 : decode cX9_pass 32 = .ok (.getfield 48, 3) := by decide +kernel
theorem dX9_pass_35 : decode cX9_pass 35 = .ok (.aload_n 0, 1) := by decide +kernel
theorem dX9_pass_36 : decode cX9_pass 36 = .ok (.getfield 36, 3) := by decide +kernel
theorem dX9_pass_39 : decode cX9_pass 39 = .ok (.invokevirtual 171, 3) := by decide +kernel
theorem dX9_pass_42 : decode cX9_pass 42 = .ok (.aload_n 0, 1) := by decide +kernel
theorem dX9_pass_43 : decode cX9_pass 43 = .ok (.getfield 26, 3) := by decide +kernel
theorem dX9_pass_46 : decode cX9_pass 46 = .ok (.aload_n 0, 1) := by decide +kernel
theorem dX9_pass_47 : decode cX9_pass 47 = .ok (.getfield 36, 3) := by decide +kernel
theorem dX9_pass_50 : decode cX9_pass 50 = .ok (.iload_n 1, 1) := by decide +kernel
theorem dX9_pass_51 : decode cX9_pass 51 = .ok (.invokevirtual 181, 3) := by decide +kernel
theorem dX9_pass_54 : decode cX9_pass 54 = .ok (.aload_n 0, 1) := by decide +kernel
theorem dX9_pass_55 : decode cX9_pass 55 = .ok (.getfield 36, 3) := by decide +kernel
theorem dX9_pass_58 : decode cX9_pass 58 = .ok (.invokevirtual 178, 3) := by decide +kernel
theorem dX9_pass_61 : decode cX9_pass 61 = .ok (.ireturn, 1) := by decide +kernel
theorem dX9_pardon_0 : decode cX9_pardon 0 = .ok (.aload_n 0, 1) := by decide +kernel
theorem dX9_pardon_1 : decode cX9_pardon 1 = .ok (.iload_n 1, 1) := by decide +kernel
theorem dX9_pardon_2 : decode cX9_pardon 2 = .ok (.invokevirtual 134, 3) := by decide +kernel
theorem dX9_pardon_5 : decode cX9_pardon 5 = .ok (.ifCond .ne 5, 3) := by decide +kernel
theorem dX9_pardon_8 : decode cX9_pardon 8 = .ok (.iconst (-1), 1) := by decide +kernel
theorem dX9_pardon_9 : decode cX9_pardon 9 = .ok (.ireturn, 1) := by decide +kernel
theorem dX9_pardon_10 : decode cX9_pardon 10 = .ok (.aload_n 0, 1) := by decide +kernel
theorem dX9_pardon_11 : decode cX9_pardon 11 = .ok (.getfield 36, 3) := by decide +kernel
theorem dX9_pardon_14 : decode cX9_pardon 14 = .ok (.iload_n 1, 1) := by decide +kernel
theorem dX9_pardon_15 : decode cX9_pardon 15 = .ok (.invokevirtual 141, 3) := by decide +kernel
theorem dX9_pardon_18 : decode cX9_pardon 18 = .ok (.ifCond .eq 6, 3) := by decide +kernel
theorem dX9_pardon_21 : decode cX9_pardon 21 = .ok (.bipush (-2), 2) := by decide +kernel
theorem dX9_pardon_23 : decode cX9_pardon 23 = .ok (.ireturn, 1) := by decide +kernel
theorem dX9_pardon_24 : decode cX9_pardon 24 = .ok (.aload_n 0, 1) := by decide +kernel
theorem dX9_pardon_25 : decode cX9_pardon 25 = .ok (.getfield 48, 3) := by decide +kernel
theorem dX9_pardon_28 : decode cX9_pardon 28 = .ok (.aload_n 0, 1) := by decide +kernel
theorem dX9_pardon_29 : decode cX9_pardon 29 = .ok (.getfield 36, 3) := by decide +kernel
theorem dX9_pardon_32 : decode cX9_pardon 32 = .ok (.invokevirtual 171, 3) := by decide +kernel
theorem dX9_pardon_35 : decode cX9_pardon 35 = .ok (.aload_n 0, 1) := by decide +kernel
theorem dX9_pardon_36 : decode cX9_pardon 36 = .ok (.getfield 36, 3) := by decide +kernel
theorem dX9_pardon_39 : decode cX9_pardon 39 = .ok (.iload_n 1, 1) := by decide +kernel
theorem dX9_pardon_40 : decode cX9_pardon 40 = .ok (.invokevirtual 185, 3) := by decide +kernel
theorem dX9_pardon_43 : decode cX9_pardon 43 = .ok (.aload_n 0, 1) := by decide +kernel
theorem dX9_pardon_44 : decode cX9_pardon 44 = .ok (.invokevirtual 188, 3) := by decide +kernel
theorem dX9_pardon_47 : decode cX9_pardon 47 = .ok (.ireturn, 1) := by decide +kernel
theorem dX9_undo_0 : decode cX9_undo 0 = .ok (.aload_n 0, 1) := by decide +kernel
theorem dX9_undo_1 : decode cX9_undo 1 = .ok (.getfield 48, 3) := by decide +kernel
theorem dX9_undo_4 : decode cX9_undo 4 = .ok (.invokevirtual 191, 3) := by decide +kernel
theorem dX9_undo_7 : decode cX9_undo 7 = .ok (.ifCond .ne 6, 3) := by decide +kernel
theorem dX9_undo_10 : decode cX9_undo 10 = .ok (.bipush (-2), 2) := by decide +kernel
theorem dX9_undo_12 : decode cX9_undo 12 = .ok (.ireturn, 1) := by decide +kernel
theorem dX9_undo_13 : decode cX9_undo 13 = .ok (.aload_n 0, 1) := by decide +kernel
theorem dX9_undo_14 : decode cX9_undo 14 = .ok (.getfield 48, 3) := by decide +kernel
theorem dX9_undo_17 : decode cX9_undo 17 = .ok (.aload_n 0, 1) := by decide +kernel
theorem dX9_undo_18 : decode cX9_undo 18 = .ok (.getfield 36, 3) := by decide +kernel
theorem dX9_undo_21 : decode cX9_undo 21 = .ok (.invokevirtual 192, 3) := by decide +kernel
theorem dX9_undo_24 : decode cX9_undo 24 = .ok (.aload_n 0, 1) := by decide +kernel
theorem dX9_undo_25 : decode cX9_undo 25 = .ok (.getfield 48, 3) := by decide +kernel
theorem dX9_undo_28 : decode cX9_undo 28 = .ok (.invokevirtual 191, 3) := by decide +kernel
theorem dX9_undo_31 : decode cX9_undo 31 = .ok (.ireturn, 1) := by decide +kernel
theorem dX9_behind_0 : decode cX9_behind 0 = .ok (.iload_n 1, 1) := by decide +kernel
theorem dX9_behind_1 : decode cX9_behind 1 = .ok (.ifCond .lt 17, 3) := by decide +kernel
theorem dX9_behind_4 : decode cX9_behind 4 = .ok (.iload_n 1, 1) := by decide +kernel
theorem dX9_behind_5 : decode cX9_behind 5 = .ok (.bipush 20, 2) := by decide +kernel
theorem dX9_behind_7 : decode cX9_behind 7 = .ok (.if_icmp .gt 11, 3) := by decide +kernel
theorem dX9_behind_10 : decode cX9_behind 10 = .ok (.aload_n 0, 1) := by decide +kernel
theorem dX9_behind_11 : decode cX9_behind 11 = .ok (.iload_n 2, 1) := by decide +kernel
theorem dX9_behind_12 : decode cX9_behind 12 = .ok (.invokevirtual 126, 3) := by decide +kernel
theorem dX9_behind_15 : decode cX9_behind 15 = .ok (.ifCond .ne 5, 3) := by decide +kernel
theorem dX9_behind_18 : decode cX9_behind 18 = .ok (.iconst (-1), 1) := by decide +kernel
theorem dX9_behind_19 : decode cX9_behind 19 = .ok (.ireturn, 1) := by decide +kernel
theorem dX9_behind_20 : decode cX9_behind 20 = .ok (.aload_n 0, 1) := by decide +kernel
theorem dX9_behind_21 : decode cX9_behind 21 = .ok (.getfield 40, 3) := by decide +kernel
theorem dX9_behind_24 : decode cX9_behind 24 = .ok (.aload_n 0, 1) := by decide +kernel
theorem dX9_behind_25 : decode cX9_behind 25 = .ok (.getfield 36, 3) := by decide +kernel
theorem dX9_behind_28 : decode cX9_behind 28 = .ok (.invokevirtual 195, 3) := by decide +kernel
theorem dX9_behind_31 : decode cX9_behind 31 = .ok (.aload_n 0, 1) := by decide +kernel
theorem dX9_behind_32 : decode cX9_behind 32 = .ok (.getfield 26, 3) := by decide +kernel
theorem dX9_behind_35 : decode cX9_behind 35 = .ok (.aload_n 0, 1) := by decide +kernel
theorem dX9_behind_36 : decode cX9_behind 36 = .ok (.getfield 40, 3) := by decide +kernel
theorem dX9_behind_39 : decode cX9_behind 39 = .ok (.iload_n 1, 1) := by decide +kernel
theorem dX9_behind_40 : decode cX9_behind 40 = .ok (.invokevirtual 181, 3) := by decide +kernel
theorem dX9_behind_43 : decode cX9_behind 43 = .ok (.aload_n 0, 1) := by decide +kernel
theorem dX9_behind_44 : decode cX9_behind 44 = .ok (.getfield 40, 3) := by decide +kernel
theorem dX9_behind_47 : decode cX9_behind 47 = .ok (.iload_n 2, 1) := by decide +kernel
theorem dX9_behind_48 : decode cX9_behind 48 = .ok (.invokevirtual 130, 3) := by decide +kernel
theorem dX9_behind_51 : decode cX9_behind 51 = .ok (.ireturn, 1) := by decide +kernel
theorem dX9_hollowed_0 : decode cX9_hollowed 0 = .ok (.aload_n 0, 1) := by decide +kernel
theorem dX9_hollowed_1 : decode cX9_hollowed 1 = .ok (.iload_n 1, 1) := by decide +kernel
theorem dX9_hollowed_2 : decode cX9_hollowed 2 = .ok (.invokevirtual 126, 3) := by decide +kernel
theorem dX9_hollowed_5 : decode cX9_hollowed 5 = .ok (.ifCond .ne 5, 3) := by decide +kernel
theorem dX9_hollowed_8 : decode cX9_hollowed 8 = .ok (.iconst (-1), 1) := by decide +kernel
theorem dX9_hollowed_9 : decode cX9_hollowed 9 = .ok (.ireturn, 1) := by decide +kernel
theorem dX9_hollowed_10 : decode cX9_hollowed 10 = .ok (.aload_n 0, 1) := by decide +kernel
theorem dX9_hollowed_11 : decode cX9_hollowed 11 = .ok (.getfield 40, 3) := by decide +kernel
theorem dX9_hollowed_14 : decode cX9_hollowed 14 = .ok (.aload_n 0, 1) := by decide +kernel
theorem dX9_hollowed_15 : decode cX9_hollowed 15 = .ok (.getfield 36, 3) := by decide +kernel
theorem dX9_hollowed_18 : decode cX9_hollowed 18 = .ok (.invokevirtual 195, 3) := by decide +kernel
theorem dX9_hollowed_21 : decode cX9_hollowed 21 = .ok (.iconst 0, 1) := by decide +kernel
theorem dX9_hollowed_22 : decode cX9_hollowed 22 = .ok (.istore_n 2, 1) := by decide +kernel
theorem dX9_hollowed_23 : decode cX9_hollowed 23 = .ok (.iload_n 2, 1) := by decide +kernel
theorem dX9_hollowed_24 : decode cX9_hollowed 24 = .ok (.bipush 20, 2) := by decide +kernel
theorem dX9_hollowed_26 : decode cX9_hollowed 26 = .ok (.if_icmp .gt 37, 3) := by decide +kernel
theorem dX9_hollowed_29 : decode cX9_hollowed 29 = .ok (.aload_n 0, 1) := by decide +kernel
theorem dX9_hollowed_30 : decode cX9_hollowed 30 = .ok (.getfield 40, 3) := by decide +kernel
theorem dX9_hollowed_33 : decode cX9_hollowed 33 = .ok (.iload_n 1, 1) := by decide +kernel
theorem dX9_hollowed_34 : decode cX9_hollowed 34 = .ok (.invokevirtual 130, 3) := by decide +kernel
theorem dX9_hollowed_37 : decode cX9_hollowed 37 = .ok (.invokestatic 197, 3) := by decide +kernel
theorem dX9_hollowed_40 : decode cX9_hollowed 40 = .ok (.ifCond .eq 5, 3) := by decide +kernel
theorem dX9_hollowed_43 : decode cX9_hollowed 43 = .ok (.iload_n 2, 1) := by decide +kernel
theorem dX9_hollowed_44 : decode cX9_hollowed 44 = .ok (.ireturn, 1) := by decide +kernel
theorem dX9_hollowed_45 : decode cX9_hollowed 45 = .ok (.aload_n 0, 1) := by decide +kernel
theorem dX9_hollowed_46 : decode cX9_hollowed 46 = .ok (.getfield 26, 3) := by decide +kernel
theorem dX9_hollowed_49 : decode cX9_hollowed 49 = .ok (.aload_n 0, 1) := by decide +kernel
theorem dX9_hollowed_50 : decode cX9_hollowed 50 = .ok (.getfield 40, 3) := by decide +kernel
theorem dX9_hollowed_53 : decode cX9_hollowed 53 = .ok (.iconst 1, 1) := by decide +kernel
theorem dX9_hollowed_54 : decode cX9_hollowed 54 = .ok (.invokevirtual 181, 3) := by decide +kernel
theorem dX9_hollowed_57 : decode cX9_hollowed 57 = .ok (.iinc 2 1, 3) := by decide +kernel
theorem dX9_hollowed_60 : decode cX9_hollowed 60 = .ok (.goto (-37), 3) := by decide +kernel
theorem dX9_hollowed_63 : decode cX9_hollowed 63 = .ok (.bipush (-4), 2) := by decide +kernel
theorem dX9_hollowed_65 : decode cX9_hollowed 65 = .ok (.ireturn, 1) := by decide +kernel
theorem dX9_smooth_0 : decode cX9_smooth 0 = .ok (.aload_n 0, 1) := by decide +kernel
theorem dX9_smooth_1 : decode cX9_smooth 1 = .ok (.iload_n 1, 1) := by decide +kernel
theorem dX9_smooth_2 : decode cX9_smooth 2 = .ok (.invokevirtual 147, 3) := by decide +kernel
theorem dX9_smooth_5 : decode cX9_smooth 5 = .ok (.ifCond .eq 16, 3) := by decide +kernel
theorem dX9_smooth_8 : decode cX9_smooth 8 = .ok (.aload_n 0, 1) := by decide +kernel
theorem dX9_smooth_9 : decode cX9_smooth 9 = .ok (.iload_n 2, 1) := by decide +kernel
theorem dX9_smooth_10 : decode cX9_smooth 10 = .ok (.invokevirtual 126, 3) := by decide +kernel
theorem dX9_smooth_13 : decode cX9_smooth 13 = .ok (.ifCond .eq 8, 3) := by decide +kernel
theorem dX9_smooth_16 : decode cX9_smooth 16 = .ok (.iload_n 3, 1) := by decide +kernel
theorem dX9_smooth_17 : decode cX9_smooth 17 = .ok (.iconst (-1), 1) := by decide +kernel
theorem dX9_smooth_18 : decode cX9_smooth 18 = .ok (.if_icmp .ge 5, 3) := by decide +kernel
theorem dX9_smooth_21 : decode cX9_smooth 21 = .ok (.iconst (-1), 1) := by decide +kernel
theorem dX9_smooth_22 : decode cX9_smooth 22 = .ok (.ireturn, 1) := by decide +kernel
theorem dX9_smooth_23 : decode cX9_smooth 23 = .ok (.aload_n 0, 1) := by decide +kernel
theorem dX9_smooth_24 : decode cX9_smooth 24 = .ok (.getfield 65, 3) := by decide +kernel
theorem dX9_smooth_27 : decode cX9_smooth 27 = .ok (.aload_n 0, 1) := by decide +kernel
theorem dX9_smooth_28 : decode cX9_smooth 28 = .ok (.getfield 26, 3) := by decide +kernel
theorem dX9_smooth_31 : decode cX9_smooth 31 = .ok (.aload_n 0, 1) := by decide +kernel
theorem dX9_smooth_32 : decode cX9_smooth 32 = .ok (.getfield 36, 3) := by decide +kernel
theorem dX9_smooth_35 : decode cX9_smooth 35 = .ok (.iload_n 1, 1) := by decide +kernel
theorem dX9_smooth_36 : decode cX9_smooth 36 = .ok (.iload_n 2, 1) := by decide +kernel
theorem dX9_smooth_37 : decode cX9_smooth 37 = .ok (.invokevirtual 200, 3) := by decide +kernel
theorem dX9_smooth_40 : decode cX9_smooth 40 = .ok (.istore 4, 2) := by decide +kernel
theorem dX9_smooth_42 : decode cX9_smooth 42 = .ok (.iload 4, 2) := by decide +kernel
theorem dX9_smooth_44 : decode cX9_smooth 44 = .ok (.bipush (-4), 2) := by decide +kernel
theorem dX9_smooth_46 : decode cX9_smooth 46 = .ok (.if_icmp .eq 8, 3) := by decide +kernel
theorem dX9_smooth_49 : decode cX9_smooth 49 = .ok (.iload_n 3, 1) := by decide +kernel
theorem dX9_smooth_50 : decode cX9_smooth 50 = .ok (.iconst (-1), 1) := by decide +kernel
theorem dX9_smooth_51 : decode cX9_smooth 51 = .ok (.if_icmp .ne 6, 3) := by decide +kernel
theorem dX9_smooth_54 : decode cX9_smooth 54 = .ok (.iload 4, 2) := by decide +kernel
theorem dX9_smooth_56 : decode cX9_smooth 56 = .ok (.ireturn, 1) := by decide +kernel
theorem dX9_smooth_57 : decode cX9_smooth 57 = .ok (.iload_n 3, 1) := by decide +kernel
theorem dX9_smooth_58 : decode cX9_smooth 58 = .ok (.iload 4, 2) := by decide +kernel
theorem dX9_smooth_60 : decode cX9_smooth 60 = .ok (.if_icmp .ge 14, 3) := by decide +kernel
theorem dX9_smooth_63 : decode cX9_smooth 63 = .ok (.aload_n 0, 1) := by decide +kernel
theorem dX9_smooth_64 : decode cX9_smooth 64 = .ok (.getfield 65, 3) := by decide +kernel
theorem dX9_smooth_67 : decode cX9_smooth 67 = .ok (.iload_n 3, 1) := by decide +kernel
theorem dX9_smooth_68 : decode cX9_smooth 68 = .ok (.invokevirtual 204, 3) := by decide +kernel
theorem dX9_smooth_71 : decode cX9_smooth 71 = .ok (.goto 5, 3) := by decide +kernel
theorem dX9_smooth_74 : decode cX9_smooth 74 = .ok (.bipush (-4), 2) := by decide +kernel
theorem dX9_smooth_76 : decode cX9_smooth 76 = .ok (.ireturn, 1) := by decide +kernel
theorem dX9_round_0 : decode cX9_round 0 = .ok (.aload_n 0, 1) := by decide +kernel
theorem dX9_round_1 : decode cX9_round 1 = .ok (.iload_n 1, 1) := by decide +kernel
theorem dX9_round_2 : decode cX9_round 2 = .ok (.invokevirtual 147, 3) := by decide +kernel
theorem dX9_round_5 : decode cX9_round 5 = .ok (.ifCond .eq 23, 3) := by decide +kernel
theorem dX9_round_8 : decode cX9_round 8 = .ok (.iload_n 2, 1) := by decide +kernel
theorem dX9_round_9 : decode cX9_round 9 = .ok (.iconst 1, 1) := by decide +kernel
theorem dX9_round_10 : decode cX9_round 10 = .ok (.if_icmp .lt 18, 3) := by decide +kernel
theorem dX9_round_13 : decode cX9_round 13 = .ok (.iload_n 2, 1) := by decide +kernel
theorem dX9_round_14 : decode cX9_round 14 = .ok (.iconst 5, 1) := by decide +kernel
theorem dX9_round_15 : decode cX9_round 15 = .ok (.if_icmp .gt 13, 3) := by decide +kernel
theorem dX9_round_18 : decode cX9_round 18 = .ok (.iload_n 3, 1) := by decide +kernel
theorem dX9_round_19 : decode cX9_round 19 = .ok (.iconst (-1), 1) := by decide +kernel
theorem dX9_round_20 : decode cX9_round 20 = .ok (.if_icmp .lt 8, 3) := by decide +kernel
theorem dX9_round_23 : decode cX9_round 23 = .ok (.iload_n 3, 1) := by decide +kernel
theorem dX9_round_24 : decode cX9_round 24 = .ok (.iconst 5, 1) := by decide +kernel
theorem dX9_round_25 : decode cX9_round 25 = .ok (.if_icmp .lt 5, 3) := by decide +kernel
theorem dX9_round_28 : decode cX9_round 28 = .ok (.iconst (-1), 1) := by decide +kernel
theorem dX9_round_29 : decode cX9_round 29 = .ok (.ireturn, 1) := by decide +kernel
theorem dX9_round_30 : decode cX9_round 30 = .ok (.iload_n 2, 1) := by decide +kernel
theorem dX9_round_31 : decode cX9_round 31 = .ok (.aload_n 0, 1) := by decide +kernel
theorem dX9_round_32 : decode cX9_round 32 = .ok (.getfield 36, 3) := by decide +kernel
theorem dX9_round_35 : decode cX9_round 35 = .ok (.iload_n 1, 1) := by decide +kernel
theorem dX9_round_36 : decode cX9_round 36 = .ok (.invokevirtual 156, 3) := by decide +kernel
theorem dX9_round_39 : decode cX9_round 39 = .ok (.if_icmp .le 6, 3) := by decide +kernel
theorem dX9_round_42 : decode cX9_round 42 = .ok (.bipush (-2), 2) := by decide +kernel
theorem dX9_round_44 : decode cX9_round 44 = .ok (.ireturn, 1) := by decide +kernel
theorem dX9_round_45 : decode cX9_round 45 = .ok (.iload_n 3, 1) := by decide +kernel
theorem dX9_round_46 : decode cX9_round 46 = .ok (.iload_n 2, 1) := by decide +kernel
theorem dX9_round_47 : decode cX9_round 47 = .ok (.if_icmp .lt 6, 3) := by decide +kernel
theorem dX9_round_50 : decode cX9_round 50 = .ok (.bipush (-4), 2) := by decide +kernel
theorem dX9_round_52 : decode cX9_round 52 = .ok (.ireturn, 1) := by decide +kernel
theorem dX9_round_53 : decode cX9_round 53 = .ok (.aload_n 0, 1) := by decide +kernel
theorem dX9_round_54 : decode cX9_round 54 = .ok (.getfield 40, 3) := by decide +kernel
theorem dX9_round_57 : decode cX9_round 57 = .ok (.aload_n 0, 1) := by decide +kernel
theorem dX9_round_58 : decode cX9_round 58 = .ok (.getfield 36, 3) := by decide +kernel
theorem dX9_round_61 : decode cX9_round 61 = .ok (.invokevirtual 195, 3) := by decide +kernel
theorem dX9_round_64 : decode cX9_round 64 = .ok (.aload_n 0, 1) := by decide +kernel
theorem dX9_round_65 : decode cX9_round 65 = .ok (.getfield 72, 3) := by decide +kernel
theorem dX9_round_68 : decode cX9_round 68 = .ok (.aload_n 0, 1) := by decide +kernel
theorem dX9_round_69 : decode cX9_round 69 = .ok (.getfield 26, 3) := by decide +kernel
theorem dX9_round_72 : decode cX9_round 72 = .ok (.aload_n 0, 1) := by decide +kernel
theorem dX9_round_73 : decode cX9_round 73 = .ok (.getfield 40, 3) := by decide +kernel
theorem dX9_round_76 : decode cX9_round 76 = .ok (.iload_n 1, 1) := by decide +kernel
theorem dX9_round_77 : decode cX9_round 77 = .ok (.iload_n 2, 1) := by decide +kernel
theorem dX9_round_78 : decode cX9_round 78 = .ok (.invokevirtual 207, 3) := by decide +kernel
theorem dX9_round_81 : decode cX9_round 81 = .ok (.istore 4, 2) := by decide +kernel
theorem dX9_round_83 : decode cX9_round 83 = .ok (.iload_n 3, 1) := by decide +kernel
theorem dX9_round_84 : decode cX9_round 84 = .ok (.iconst (-1), 1) := by decide +kernel
theorem dX9_round_85 : decode cX9_round 85 = .ok (.if_icmp .ne 8, 3) := by decide +kernel
theorem dX9_round_88 : decode cX9_round 88 = .ok (.iload 4, 2) := by decide +kernel
theorem dX9_round_90 : decode cX9_round 90 = .ok (.goto 11, 3) := by decide +kernel
theorem dX9_round_93 : decode cX9_round 93 = .ok (.aload_n 0, 1) := by decide +kernel
theorem dX9_round_94 : decode cX9_round 94 = .ok (.getfield 72, 3) := by decide +kernel
theorem dX9_round_97 : decode cX9_round 97 = .ok (.iload_n 3, 1) := by decide +kernel
theorem dX9_round_98 : decode cX9_round 98 = .ok (.invokevirtual 210, 3) := by decide +kernel
theorem dX9_round_101 : decode cX9_round 101 = .ok (.ireturn, 1) := by decide +kernel
theorem dX9_chairs_0 : decode cX9_chairs 0 = .ok (.iload_n 1, 1) := by decide +kernel
theorem dX9_chairs_1 : decode cX9_chairs 1 = .ok (.ifCond .lt 9, 3) := by decide +kernel
theorem dX9_chairs_4 : decode cX9_chairs 4 = .ok (.iload_n 1, 1) := by decide +kernel
theorem dX9_chairs_5 : decode cX9_chairs 5 = .ok (.bipush 40, 2) := by decide +kernel
theorem dX9_chairs_7 : decode cX9_chairs 7 = .ok (.if_icmp .le 5, 3) := by decide +kernel
theorem dX9_chairs_10 : decode cX9_chairs 10 = .ok (.iconst (-1), 1) := by decide +kernel
theorem dX9_chairs_11 : decode cX9_chairs 11 = .ok (.ireturn, 1) := by decide +kernel
theorem dX9_chairs_12 : decode cX9_chairs 12 = .ok (.aload_n 0, 1) := by decide +kernel
theorem dX9_chairs_13 : decode cX9_chairs 13 = .ok (.getfield 79, 3) := by decide +kernel
theorem dX9_chairs_16 : decode cX9_chairs 16 = .ok (.aload_n 0, 1) := by decide +kernel
theorem dX9_chairs_17 : decode cX9_chairs 17 = .ok (.getfield 26, 3) := by decide +kernel
theorem dX9_chairs_20 : decode cX9_chairs 20 = .ok (.aload_n 0, 1) := by decide +kernel
theorem dX9_chairs_21 : decode cX9_chairs 21 = .ok (.getfield 36, 3) := by decide +kernel
theorem dX9_chairs_24 : decode cX9_chairs 24 = .ok (.iload_n 1, 1) := by decide +kernel
theorem dX9_chairs_25 : decode cX9_chairs 25 = .ok (.invokevirtual 211, 3) := by decide +kernel
theorem dX9_chairs_28 : decode cX9_chairs 28 = .ok (.ireturn, 1) := by decide +kernel
theorem dX9_pardons_0 : decode cX9_pardons 0 = .ok (.iload_n 1, 1) := by decide +kernel
theorem dX9_pardons_1 : decode cX9_pardons 1 = .ok (.iconst 1, 1) := by decide +kernel
theorem dX9_pardons_2 : decode cX9_pardons 2 = .ok (.if_icmp .lt 18, 3) := by decide +kernel
theorem dX9_pardons_5 : decode cX9_pardons 5 = .ok (.iload_n 1, 1) := by decide +kernel
theorem dX9_pardons_6 : decode cX9_pardons 6 = .ok (.bipush 20, 2) := by decide +kernel
theorem dX9_pardons_8 : decode cX9_pardons 8 = .ok (.if_icmp .gt 12, 3) := by decide +kernel
theorem dX9_pardons_11 : decode cX9_pardons 11 = .ok (.iload_n 2, 1) := by decide +kernel
theorem dX9_pardons_12 : decode cX9_pardons 12 = .ok (.ifCond .lt 8, 3) := by decide +kernel
theorem dX9_pardons_15 : decode cX9_pardons 15 = .ok (.iload_n 2, 1) := by decide +kernel
theorem dX9_pardons_16 : decode cX9_pardons 16 = .ok (.iconst 1, 1) := by decide +kernel
theorem dX9_pardons_17 : decode cX9_pardons 17 = .ok (.if_icmp .le 5, 3) := by decide +kernel
theorem dX9_pardons_20 : decode cX9_pardons 20 = .ok (.iconst (-1), 1) := by decide +kernel
theorem dX9_pardons_21 : decode cX9_pardons 21 = .ok (.ireturn, 1) := by decide +kernel
theorem dX9_pardons_22 : decode cX9_pardons 22 = .ok (.bipush (-4), 2) := by decide +kernel
theorem dX9_pardons_24 : decode cX9_pardons 24 = .ok (.istore_n 3, 1) := by decide +kernel
theorem dX9_pardons_25 : decode cX9_pardons 25 = .ok (.bipush (-4), 2) := by decide +kernel
theorem dX9_pardons_27 : decode cX9_pardons 27 = .ok (.istore 4, 2) := by decide +kernel
theorem dX9_pardons_29 : decode cX9_pardons 29 = .ok (.iconst 0, 1) := by decide +kernel
theorem dX9_pardons_30 : decode cX9_pardons 30 = .ok (.istore 5, 2) := by decide +kernel
theorem dX9_pardons_32 : decode cX9_pardons 32 = .ok (.iload 5, 2) := by decide +kernel
theorem dX9_pardons_34 : decode cX9_pardons 34 = .ok (.aload_n 0, 1) := by decide +kernel
theorem dX9_pardons_35 : decode cX9_pardons 35 = .ok (.getfield 26, 3) := by decide +kernel
theorem dX9_pardons_38 : decode cX9_pardons 38 = .ok (.invokevirtual 215, 3) := by decide +kernel
theorem dX9_pardons_41 : decode cX9_pardons 41 = .ok (.if_icmp .ge 86, 3) := by decide +kernel
theorem dX9_pardons_44 : decode cX9_pardons 44 = .ok (.aload_n 0, 1) := by decide +kernel
theorem dX9_pardons_45 : decode cX9_pardons 45 = .ok (.getfield 36, 3) := by decide +kernel
theorem dX9_pardons_48 : decode cX9_pardons 48 = .ok (.iload 5, 2) := by decide +kernel
theorem dX9_pardons_50 : decode cX9_pardons 50 = .ok (.invokevirtual 141, 3) := by decide +kernel
theorem dX9_pardons_53 : decode cX9_pardons 53 = .ok (.ifCond .eq 6, 3) := by decide +kernel
theorem dX9_pardons_56 : decode cX9_pardons 56 = .ok (.goto 65, 3) := by decide +kernel
theorem dX9_pardons_59 : decode cX9_pardons 59 = .ok (.aload_n 0, 1) := by decide +kernel
theorem dX9_pardons_60 : decode cX9_pardons 60 = .ok (.getfield 40, 3) := by decide +kernel
theorem dX9_pardons_63 : decode cX9_pardons 63 = .ok (.aload_n 0, 1) := by decide +kernel
theorem dX9_pardons_64 : decode cX9_pardons 64 = .ok (.getfield 36, 3) := by decide +kernel
theorem dX9_pardons_67 : decode cX9_pardons 67 = .ok (.invokevirtual 195, 3) := by decide +kernel
theorem dX9_pardons_70 : decode cX9_pardons 70 = .ok (.aload_n 0, 1) := by decide +kernel
theorem dX9_pardons_71 : decode cX9_pardons 71 = .ok (.getfield 40, 3) := by decide +kernel
theorem dX9_pardons_74 : decode cX9_pardons 74 = .ok (.iload 5, 2) := by decide +kernel
theorem dX9_pardons_76 : decode cX9_pardons 76 = .ok (.invokevirtual 185, 3) := by decide +kernel
theorem dX9_pardons_79 : decode cX9_pardons 79 = .ok (.aload_n 0, 1) := by decide +kernel
theorem dX9_pardons_80 : decode cX9_pardons 80 = .ok (.getfield 26, 3) := by decide +kernel
theorem dX9_pardons_83 : decode cX9_pardons 83 = .ok (.aload_n 0, 1) := by decide +kernel
theorem dX9_pardons_84 : decode cX9_pardons 84 = .ok (.getfield 40, 3) := by decide +kernel
theorem dX9_pardons_87 : decode cX9_pardons 87 = .ok (.iload_n 1, 1) := by decide +kernel
theorem dX9_pardons_88 : decode cX9_pardons 88 = .ok (.invokevirtual 181, 3) := by decide +kernel
theorem dX9_pardons_91 : decode cX9_pardons 91 = .ok (.iload_n 3, 1) := by decide +kernel
theorem dX9_pardons_92 : decode cX9_pardons 92 = .ok (.bipush (-4), 2) := by decide +kernel
theorem dX9_pardons_94 : decode cX9_pardons 94 = .ok (.if_icmp .eq 15, 3) := by decide +kernel
theorem dX9_pardons_97 : decode cX9_pardons 97 = .ok (.aload_n 0, 1) := by decide +kernel
theorem dX9_pardons_98 : decode cX9_pardons 98 = .ok (.getfield 40, 3) := by decide +kernel
theorem dX9_pardons_101 : decode cX9_pardons 101 = .ok (.invokevirtual 218, 3) := by decide +kernel
theorem dX9_pardons_104 : decode cX9_pardons 104 = .ok (.iload 4, 2) := by decide +kernel
theorem dX9_pardons_106 : decode cX9_pardons 106 = .ok (.if_icmp .ge 15, 3) := by decide +kernel
theorem dX9_pardons_109 : decode cX9_pardons 109 = .ok (.iload 5, 2) := by decide +kernel
theorem dX9_pardons_111 : decode cX9_pardons 111 = .ok (.istore_n 3, 1) := by decide +kernel
theorem dX9_pardons_112 : decode cX9_pardons 112 = .ok (.aload_n 0, 1) := by decide +kernel
theorem dX9_pardons_113 : decode cX9_pardons 113 = .ok (.getfield 40, 3) := by decide +kernel
theorem dX9_pardons_116 : decode cX9_pardons 116 = .ok (.invokevirtual 218, 3) := by decide +kernel
theorem dX9_pardons_119 : decode cX9_pardons 119 = .ok (.istore 4, 2) := by decide +kernel
theorem dX9_pardons_121 : decode cX9_pardons 121 = .ok (.iinc 5 1, 3) := by decide +kernel
theorem dX9_pardons_124 : decode cX9_pardons 124 = .ok (.goto (-92), 3) := by decide +kernel
theorem dX9_pardons_127 : decode cX9_pardons 127 = .ok (.iload_n 2, 1) := by decide +kernel
theorem dX9_pardons_128 : decode cX9_pardons 128 = .ok (.ifCond .ne 7, 3) := by decide +kernel
theorem dX9_pardons_131 : decode cX9_pardons 131 = .ok (.iload_n 3, 1) := by decide +kernel
theorem dX9_pardons_132 : decode cX9_pardons 132 = .ok (.goto 5, 3) := by decide +kernel
theorem dX9_pardons_135 : decode cX9_pardons 135 = .ok (.iload 4, 2) := by decide +kernel
theorem dX9_pardons_137 : decode cX9_pardons 137 = .ok (.ireturn, 1) := by decide +kernel
theorem dX9_see_0 : decode cX9_see 0 = .ok (.aload_n 0, 1) := by decide +kernel
theorem dX9_see_1 : decode cX9_see 1 = .ok (.iload_n 1, 1) := by decide +kernel
theorem dX9_see_2 : decode cX9_see 2 = .ok (.invokevirtual 126, 3) := by decide +kernel
theorem dX9_see_5 : decode cX9_see 5 = .ok (.ifCond .eq 13, 3) := by decide +kernel
theorem dX9_see_8 : decode cX9_see 8 = .ok (.iload_n 2, 1) := by decide +kernel
theorem dX9_see_9 : decode cX9_see 9 = .ok (.ifCond .lt 9, 3) := by decide +kernel
theorem dX9_see_12 : decode cX9_see 12 = .ok (.iload_n 2, 1) := by decide +kernel
theorem dX9_see_13 : decode cX9_see 13 = .ok (.bipush 40, 2) := by decide +kernel
theorem dX9_see_15 : decode cX9_see 15 = .ok (.if_icmp .le 5, 3) := by decide +kernel
theorem dX9_see_18 : decode cX9_see 18 = .ok (.iconst (-1), 1) := by decide +kernel
theorem dX9_see_19 : decode cX9_see 19 = .ok (.ireturn, 1) := by decide +kernel
theorem dX9_see_20 : decode cX9_see 20 = .ok (.aload_n 0, 1) := by decide +kernel
theorem dX9_see_21 : decode cX9_see 21 = .ok (.getfield 58, 3) := by decide +kernel
theorem dX9_see_24 : decode cX9_see 24 = .ok (.invokevirtual 221, 3) := by decide +kernel
theorem dX9_see_27 : decode cX9_see 27 = .ok (.ifCond .eq 6, 3) := by decide +kernel
theorem dX9_see_30 : decode cX9_see 30 = .ok (.bipush (-3), 2) := by decide +kernel
theorem dX9_see_32 : decode cX9_see 32 = .ok (.ireturn, 1) := by decide +kernel
theorem dX9_see_33 : decode cX9_see 33 = .ok (.aload_n 0, 1) := by decide +kernel
theorem dX9_see_34 : decode cX9_see 34 = .ok (.getfield 58, 3) := by decide +kernel
theorem dX9_see_37 : decode cX9_see 37 = .ok (.iload_n 1, 1) := by decide +kernel
theorem dX9_see_38 : decode cX9_see 38 = .ok (.iload_n 2, 1) := by decide +kernel
theorem dX9_see_39 : decode cX9_see 39 = .ok (.invokevirtual 222, 3) := by decide +kernel
theorem dX9_see_42 : decode cX9_see 42 = .ok (.aload_n 0, 1) := by decide +kernel
theorem dX9_see_43 : decode cX9_see 43 = .ok (.getfield 58, 3) := by decide +kernel
theorem dX9_see_46 : decode cX9_see 46 = .ok (.invokevirtual 225, 3) := by decide +kernel
theorem dX9_see_49 : decode cX9_see 49 = .ok (.ireturn, 1) := by decide +kernel
theorem dX9_forget_0 : decode cX9_forget 0 = .ok (.aload_n 0, 1) := by decide +kernel
theorem dX9_forget_1 : decode cX9_forget 1 = .ok (.getfield 58, 3) := by decide +kernel
theorem dX9_forget_4 : decode cX9_forget 4 = .ok (.invokevirtual 225, 3) := by decide +kernel
theorem dX9_forget_7 : decode cX9_forget 7 = .ok (.istore_n 1, 1) := by decide +kernel
theorem dX9_forget_8 : decode cX9_forget 8 = .ok (.aload_n 0, 1) := by decide +kernel
theorem dX9_forget_9 : decode cX9_forget 9 = .ok (.getfield 58, 3) := by decide +kernel
theorem dX9_forget_12 : decode cX9_forget 12 = .ok (.invokevirtual 124, 3) := by decide +kernel
theorem dX9_forget_15 : decode cX9_forget 15 = .ok (.iload_n 1, 1) := by decide +kernel
theorem dX9_forget_16 : decode cX9_forget 16 = .ok (.ireturn, 1) := by decide +kernel
theorem dX9_mind_0 : decode cX9_mind 0 = .ok (.iload_n 1, 1) := by decide +kernel
theorem dX9_mind_1 : decode cX9_mind 1 = .ok (.iconst 1, 1) := by decide +kernel
theorem dX9_mind_2 : decode cX9_mind 2 = .ok (.if_icmp .lt 18, 3) := by decide +kernel
theorem dX9_mind_5 : decode cX9_mind 5 = .ok (.iload_n 1, 1) := by decide +kernel
theorem dX9_mind_6 : decode cX9_mind 6 = .ok (.bipush 20, 2) := by decide +kernel
theorem dX9_mind_8 : decode cX9_mind 8 = .ok (.if_icmp .gt 12, 3) := by decide +kernel
theorem dX9_mind_11 : decode cX9_mind 11 = .ok (.iload_n 2, 1) := by decide +kernel
theorem dX9_mind_12 : decode cX9_mind 12 = .ok (.ifCond .lt 8, 3) := by decide +kernel
theorem dX9_mind_15 : decode cX9_mind 15 = .ok (.iload_n 2, 1) := by decide +kernel
theorem dX9_mind_16 : decode cX9_mind 16 = .ok (.iconst 1, 1) := by decide +kernel
theorem dX9_mind_17 : decode cX9_mind 17 = .ok (.if_icmp .le 5, 3) := by decide +kernel
theorem dX9_mind_20 : decode cX9_mind 20 = .ok (.iconst (-1), 1) := by decide +kernel
theorem dX9_mind_21 : decode cX9_mind 21 = .ok (.ireturn, 1) := by decide +kernel
theorem dX9_mind_22 : decode cX9_mind 22 = .ok (.iconst 1, 1) := by decide +kernel
theorem dX9_mind_23 : decode cX9_mind 23 = .ok (.aload_n 0, 1) := by decide +kernel
theorem dX9_mind_24 : decode cX9_mind 24 = .ok (.getfield 26, 3) := by decide +kernel
theorem dX9_mind_27 : decode cX9_mind 27 = .ok (.invokevirtual 215, 3) := by decide +kernel
theorem dX9_mind_30 : decode cX9_mind 30 = .ok (.ishl, 1) := by decide +kernel
theorem dX9_mind_31 : decode cX9_mind 31 = .ok (.istore_n 3, 1) := by decide +kernel
theorem dX9_mind_32 : decode cX9_mind 32 = .ok (.iconst 0, 1) := by decide +kernel
theorem dX9_mind_33 : decode cX9_mind 33 = .ok (.istore 4, 2) := by decide +kernel
theorem dX9_mind_35 : decode cX9_mind 35 = .ok (.bipush (-4), 2) := by decide +kernel
theorem dX9_mind_37 : decode cX9_mind 37 = .ok (.istore 5, 2) := by decide +kernel
theorem dX9_mind_39 : decode cX9_mind 39 = .ok (.iconst 0, 1) := by decide +kernel
theorem dX9_mind_40 : decode cX9_mind 40 = .ok (.istore 6, 2) := by decide +kernel
theorem dX9_mind_42 : decode cX9_mind 42 = .ok (.iload 6, 2) := by decide +kernel
theorem dX9_mind_44 : decode cX9_mind 44 = .ok (.iload_n 3, 1) := by decide +kernel
theorem dX9_mind_45 : decode cX9_mind 45 = .ok (.if_icmp .ge 42, 3) := by decide +kernel
theorem dX9_mind_48 : decode cX9_mind 48 = .ok (.aload_n 0, 1) := by decide +kernel
theorem dX9_mind_49 : decode cX9_mind 49 = .ok (.aload_n 0, 1) := by decide +kernel
theorem dX9_mind_50 : decode cX9_mind 50 = .ok (.getfield 26, 3) := by decide +kernel
theorem dX9_mind_53 : decode cX9_mind 53 = .ok (.iload 6, 2) := by decide +kernel
theorem dX9_mind_55 : decode cX9_mind 55 = .ok (.iload_n 1, 1) := by decide +kernel
theorem dX9_mind_56 : decode cX9_mind 56 = .ok (.invokevirtual 226, 3) := by decide +kernel
theorem dX9_mind_59 : decode cX9_mind 59 = .ok (.ifCond .eq 22, 3) := by decide +kernel
theorem dX9_mind_62 : decode cX9_mind 62 = .ok (.iinc 4 1, 3) := by decide +kernel
theorem dX9_mind_65 : decode cX9_mind 65 = .ok (.iload 5, 2) := by decide +kernel
theorem dX9_mind_67 : decode cX9_mind 67 = .ok (.bipush (-4), 2) := by decide +kernel
theorem dX9_mind_69 : decode cX9_mind 69 = .ok (.if_icmp .ne 8, 3) := by decide +kernel
theorem dX9_mind_72 : decode cX9_mind 72 = .ok (.iload 6, 2) := by decide +kernel
theorem dX9_mind_74 : decode cX9_mind 74 = .ok (.goto 5, 3) := by decide +kernel
theorem dX9_mind_77 : decode cX9_mind 77 = .ok (.iload 5, 2) := by decide +kernel
theorem dX9_mind_79 : decode cX9_mind 79 = .ok (.istore 5, 2) := by decide +kernel
theorem dX9_mind_81 : decode cX9_mind 81 = .ok (.iinc 6 1, 3) := by decide +kernel
theorem dX9_mind_84 : decode cX9_mind 84 = .ok (.goto (-42), 3) := by decide +kernel
theorem dX9_mind_87 : decode cX9_mind 87 = .ok (.iload_n 2, 1) := by decide +kernel
theorem dX9_mind_88 : decode cX9_mind 88 = .ok (.ifCond .ne 8, 3) := by decide +kernel
theorem dX9_mind_91 : decode cX9_mind 91 = .ok (.iload 4, 2) := by decide +kernel
theorem dX9_mind_93 : decode cX9_mind 93 = .ok (.goto 5, 3) := by decide +kernel
theorem dX9_mind_96 : decode cX9_mind 96 = .ok (.iload 5, 2) := by decide +kernel
theorem dX9_mind_98 : decode cX9_mind 98 = .ok (.ireturn, 1) := by decide +kernel
theorem dX9_deep_0 : decode cX9_deep 0 = .ok (.aload_n 0, 1) := by decide +kernel
theorem dX9_deep_1 : decode cX9_deep 1 = .ok (.iload_n 1, 1) := by decide +kernel
theorem dX9_deep_2 : decode cX9_deep 2 = .ok (.invokevirtual 134, 3) := by decide +kernel
theorem dX9_deep_5 : decode cX9_deep 5 = .ok (.ifCond .eq 23, 3) := by decide +kernel
theorem dX9_deep_8 : decode cX9_deep 8 = .ok (.iload_n 2, 1) := by decide +kernel
theorem dX9_deep_9 : decode cX9_deep 9 = .ok (.iconst 1, 1) := by decide +kernel
theorem dX9_deep_10 : decode cX9_deep 10 = .ok (.if_icmp .lt 18, 3) := by decide +kernel
theorem dX9_deep_13 : decode cX9_deep 13 = .ok (.iload_n 2, 1) := by decide +kernel
theorem dX9_deep_14 : decode cX9_deep 14 = .ok (.bipush 20, 2) := by decide +kernel
theorem dX9_deep_16 : decode cX9_deep 16 = .ok (.if_icmp .gt 12, 3) := by decide +kernel
theorem dX9_deep_19 : decode cX9_deep 19 = .ok (.iload_n 3, 1) := by decide +kernel
theorem dX9_deep_20 : decode cX9_deep 20 = .ok (.ifCond .lt 8, 3) := by decide +kernel
theorem dX9_deep_23 : decode cX9_deep 23 = .ok (.iload_n 3, 1) := by decide +kernel
theorem dX9_deep_24 : decode cX9_deep 24 = .ok (.iconst 1, 1) := by decide +kernel
theorem dX9_deep_25 : decode cX9_deep 25 = .ok (.if_icmp .le 5, 3) := by decide +kernel
theorem dX9_deep_28 : decode cX9_deep 28 = .ok (.iconst (-1), 1) := by decide +kernel
theorem dX9_deep_29 : decode cX9_deep 29 = .ok (.ireturn, 1) := by decide +kernel
theorem dX9_deep_30 : decode cX9_deep 30 = .ok (.iconst 1, 1) := by decide +kernel
theorem dX9_deep_31 : decode cX9_deep 31 = .ok (.aload_n 0, 1) := by decide +kernel
theorem dX9_deep_32 : decode cX9_deep 32 = .ok (.getfield 26, 3) := by decide +kernel
theorem dX9_deep_35 : decode cX9_deep 35 = .ok (.invokevirtual 215, 3) := by decide +kernel
theorem dX9_deep_38 : decode cX9_deep 38 = .ok (.ishl, 1) := by decide +kernel
theorem dX9_deep_39 : decode cX9_deep 39 = .ok (.iconst 1, 1) := by decide +kernel
theorem dX9_deep_40 : decode cX9_deep 40 = .ok (.isub, 1) := by decide +kernel
theorem dX9_deep_41 : decode cX9_deep 41 = .ok (.istore 4, 2) := by decide +kernel
theorem dX9_deep_43 : decode cX9_deep 43 = .ok (.iconst 0, 1) := by decide +kernel
theorem dX9_deep_44 : decode cX9_deep 44 = .ok (.istore 5, 2) := by decide +kernel
theorem dX9_deep_46 : decode cX9_deep 46 = .ok (.bipush (-4), 2) := by decide +kernel
theorem dX9_deep_48 : decode cX9_deep 48 = .ok (.istore 6, 2) := by decide +kernel
theorem dX9_deep_50 : decode cX9_deep 50 = .ok (.aload_n 0, 1) := by decide +kernel
theorem dX9_deep_51 : decode cX9_deep 51 = .ok (.getfield 30, 3) := by decide +kernel
theorem dX9_deep_54 : decode cX9_deep 54 = .ok (.aload_n 0, 1) := by decide +kernel
theorem dX9_deep_55 : decode cX9_deep 55 = .ok (.getfield 26, 3) := by decide +kernel
theorem dX9_deep_58 : decode cX9_deep 58 = .ok (.invokevirtual 120, 3) := by decide +kernel
theorem dX9_deep_61 : decode cX9_deep 61 = .ok (.iconst 1, 1) := by decide +kernel
theorem dX9_deep_62 : decode cX9_deep 62 = .ok (.istore 7, 2) := by decide +kernel
theorem dX9_deep_64 : decode cX9_deep 64 = .ok (.iload 7, 2) := by decide +kernel
theorem dX9_deep_66 : decode cX9_deep 66 = .ok (.bipush 9, 2) := by decide +kernel
theorem dX9_deep_68 : decode cX9_deep 68 = .ok (.if_icmp .gt 52, 3) := by decide +kernel
theorem dX9_deep_71 : decode cX9_deep 71 = .ok (.aload_n 0, 1) := by decide +kernel
theorem dX9_deep_72 : decode cX9_deep 72 = .ok (.getfield 30, 3) := by decide +kernel
theorem dX9_deep_75 : decode cX9_deep 75 = .ok (.iload_n 1, 1) := by decide +kernel
theorem dX9_deep_76 : decode cX9_deep 76 = .ok (.iload 7, 2) := by decide +kernel
theorem dX9_deep_78 : decode cX9_deep 78 = .ok (.invokevirtual 230, 3) := by decide +kernel
theorem dX9_deep_81 : decode cX9_deep 81 = .ok (.aload_n 0, 1) := by decide +kernel
theorem dX9_deep_82 : decode cX9_deep 82 = .ok (.aload_n 0, 1) := by decide +kernel
theorem dX9_deep_83 : decode cX9_deep 83 = .ok (.getfield 30, 3) := by decide +kernel
theorem dX9_deep_86 : decode cX9_deep 86 = .ok (.iload 4, 2) := by decide +kernel
theorem dX9_deep_88 : decode cX9_deep 88 = .ok (.iload_n 2, 1) := by decide +kernel
theorem dX9_deep_89 : decode cX9_deep 89 = .ok (.invokevirtual 226, 3) := by decide +kernel
theorem dX9_deep_92 : decode cX9_deep 92 = .ok (.ifCond .eq 22, 3) := by decide +kernel
theorem dX9_deep_95 : decode cX9_deep 95 = .ok (.iinc 5 1, 3) := by decide +kernel
theorem dX9_deep_98 : decode cX9_deep 98 = .ok (.iload 6, 2) := by decide +kernel
theorem dX9_deep_100 : decode cX9_deep 100 = .ok (.bipush (-4), 2) := by decide +kernel
theorem dX9_deep_102 : decode cX9_deep 102 = .ok (.if_icmp .ne 8, 3) := by decide +kernel
theorem dX9_deep_105 : decode cX9_deep 105 = .ok (.iload 7, 2) := by decide +kernel
theorem dX9_deep_107 : decode cX9_deep 107 = .ok (.goto 5, 3) := by decide +kernel
theorem dX9_deep_110 : decode cX9_deep 110 = .ok (.iload 6, 2) := by decide +kernel
theorem dX9_deep_112 : decode cX9_deep 112 = .ok (.istore 6, 2) := by decide +kernel
theorem dX9_deep_114 : decode cX9_deep 114 = .ok (.iinc 7 1, 3) := by decide +kernel
theorem dX9_deep_117 : decode cX9_deep 117 = .ok (.goto (-53), 3) := by decide +kernel
theorem dX9_deep_120 : decode cX9_deep 120 = .ok (.iload_n 3, 1) := by decide +kernel
theorem dX9_deep_121 : decode cX9_deep 121 = .ok (.ifCond .ne 8, 3) := by decide +kernel
theorem dX9_deep_124 : decode cX9_deep 124 = .ok (.iload 5, 2) := by decide +kernel
theorem dX9_deep_126 : decode cX9_deep 126 = .ok (.goto 5, 3) := by decide +kernel
theorem dX9_deep_129 : decode cX9_deep 129 = .ok (.iload 6, 2) := by decide +kernel
theorem dX9_deep_131 : decode cX9_deep 131 = .ok (.ireturn, 1) := by decide +kernel
theorem dX9_slip_0 : decode cX9_slip 0 = .ok (.aload_n 0, 1) := by decide +kernel
theorem dX9_slip_1 : decode cX9_slip 1 = .ok (.iload_n 1, 1) := by decide +kernel
theorem dX9_slip_2 : decode cX9_slip 2 = .ok (.invokevirtual 147, 3) := by decide +kernel
theorem dX9_slip_5 : decode cX9_slip 5 = .ok (.ifCond .eq 22, 3) := by decide +kernel
theorem dX9_slip_8 : decode cX9_slip 8 = .ok (.aload_n 0, 1) := by decide +kernel
theorem dX9_slip_9 : decode cX9_slip 9 = .ok (.iload_n 2, 1) := by decide +kernel
theorem dX9_slip_10 : decode cX9_slip 10 = .ok (.invokevirtual 126, 3) := by decide +kernel
theorem dX9_slip_13 : decode cX9_slip 13 = .ok (.ifCond .eq 14, 3) := by decide +kernel
theorem dX9_slip_16 : decode cX9_slip 16 = .ok (.iload 5, 2) := by decide +kernel
theorem dX9_slip_18 : decode cX9_slip 18 = .ok (.ifCond .lt 9, 3) := by decide +kernel
theorem dX9_slip_21 : decode cX9_slip 21 = .ok (.iload 5, 2) := by decide +kernel
theorem dX9_slip_23 : decode cX9_slip 23 = .ok (.iconst 1, 1) := by decide +kernel
theorem dX9_slip_24 : decode cX9_slip 24 = .ok (.if_icmp .le 5, 3) := by decide +kernel
theorem dX9_slip_27 : decode cX9_slip 27 = .ok (.iconst (-1), 1) := by decide +kernel
theorem dX9_slip_28 : decode cX9_slip 28 = .ok (.ireturn, 1) := by decide +kernel
theorem dX9_slip_29 : decode cX9_slip 29 = .ok (.iload_n 3, 1) := by decide +kernel
theorem dX9_slip_30 : decode cX9_slip 30 = .ok (.ifCond .lt 21, 3) := by decide +kernel
theorem dX9_slip_33 : decode cX9_slip 33 = .ok (.iload_n 3, 1) := by decide +kernel
theorem dX9_slip_34 : decode cX9_slip 34 = .ok (.bipush 8, 2) := by decide +kernel
theorem dX9_slip_36 : decode cX9_slip 36 = .ok (.if_icmp .gt 15, 3) := by decide +kernel
theorem dX9_slip_39 : decode cX9_slip 39 = .ok (.iload 4, 2) := by decide +kernel
theorem dX9_slip_41 : decode cX9_slip 41 = .ok (.ifCond .lt 10, 3) := by decide +kernel
theorem dX9_slip_44 : decode cX9_slip 44 = .ok (.iload 4, 2) := by decide +kernel
theorem dX9_slip_46 : decode cX9_slip 46 = .ok (.bipush 10, 2) := by decide +kernel
theorem dX9_slip_48 : decode cX9_slip 48 = .ok (.if_icmp .le 5, 3) := by decide +kernel
theorem dX9_slip_51 : decode cX9_slip 51 = .ok (.iconst (-1), 1) := by decide +kernel
theorem dX9_slip_52 : decode cX9_slip 52 = .ok (.ireturn, 1) := by decide +kernel
theorem dX9_slip_53 : decode cX9_slip 53 = .ok (.aload_n 0, 1) := by decide +kernel
theorem dX9_slip_54 : decode cX9_slip 54 = .ok (.getfield 26, 3) := by decide +kernel
theorem dX9_slip_57 : decode cX9_slip 57 = .ok (.iload_n 1, 1) := by decide +kernel
theorem dX9_slip_58 : decode cX9_slip 58 = .ok (.aload_n 0, 1) := by decide +kernel
theorem dX9_slip_59 : decode cX9_slip 59 = .ok (.getfield 36, 3) := by decide +kernel
theorem dX9_slip_62 : decode cX9_slip 62 = .ok (.iload_n 2, 1) := by decide +kernel
theorem dX9_slip_63 : decode cX9_slip 63 = .ok (.invokevirtual 130, 3) := by decide +kernel
theorem dX9_slip_66 : decode cX9_slip 66 = .ok (.iload_n 3, 1) := by decide +kernel
theorem dX9_slip_67 : decode cX9_slip 67 = .ok (.iload 4, 2) := by decide +kernel
theorem dX9_slip_69 : decode cX9_slip 69 = .ok (.invokestatic 233, 3) := by decide +kernel
theorem dX9_slip_72 : decode cX9_slip 72 = .ok (.istore 6, 2) := by decide +kernel
theorem dX9_slip_74 : decode cX9_slip 74 = .ok (.iconst 1, 1) := by decide +kernel
theorem dX9_slip_75 : decode cX9_slip 75 = .ok (.istore 7, 2) := by decide +kernel
theorem dX9_slip_77 : decode cX9_slip 77 = .ok (.iconst 0, 1) := by decide +kernel
theorem dX9_slip_78 : decode cX9_slip 78 = .ok (.istore 8, 2) := by decide +kernel
theorem dX9_slip_80 : decode cX9_slip 80 = .ok (.iload 8, 2) := by decide +kernel
theorem dX9_slip_82 : decode cX9_slip 82 = .ok (.iload_n 3, 1) := by decide +kernel
theorem dX9_slip_83 : decode cX9_slip 83 = .ok (.if_icmp .ge 16, 3) := by decide +kernel
theorem dX9_slip_86 : decode cX9_slip 86 = .ok (.iload 7, 2) := by decide +kernel
theorem dX9_slip_88 : decode cX9_slip 88 = .ok (.bipush 10, 2) := by decide +kernel
theorem dX9_slip_90 : decode cX9_slip 90 = .ok (.imul, 1) := by decide +kernel
theorem dX9_slip_91 : decode cX9_slip 91 = .ok (.istore 7, 2) := by decide +kernel
theorem dX9_slip_93 : decode cX9_slip 93 = .ok (.iinc 8 1, 3) := by decide +kernel
theorem dX9_slip_96 : decode cX9_slip 96 = .ok (.goto (-16), 3) := by decide +kernel
theorem dX9_slip_99 : decode cX9_slip 99 = .ok (.iload 7, 2) := by decide +kernel
theorem dX9_slip_101 : decode cX9_slip 101 = .ok (.iload 6, 2) := by decide +kernel
theorem dX9_slip_103 : decode cX9_slip 103 = .ok (.invokestatic 237, 3) := by decide +kernel
theorem dX9_slip_106 : decode cX9_slip 106 = .ok (.istore 8, 2) := by decide +kernel
theorem dX9_slip_108 : decode cX9_slip 108 = .ok (.iload 8, 2) := by decide +kernel
theorem dX9_slip_110 : decode cX9_slip 110 = .ok (.iconst 1, 1) := by decide +kernel
theorem dX9_slip_111 : decode cX9_slip 111 = .ok (.if_icmp .ge 5, 3) := by decide +kernel
theorem dX9_slip_114 : decode cX9_slip 114 = .ok (.iconst (-1), 1) := by decide +kernel
theorem dX9_slip_115 : decode cX9_slip 115 = .ok (.ireturn, 1) := by decide +kernel
theorem dX9_slip_116 : decode cX9_slip 116 = .ok (.iload 5, 2) := by decide +kernel
theorem dX9_slip_118 : decode cX9_slip 118 = .ok (.ifCond .ne 11, 3) := by decide +kernel
theorem dX9_slip_121 : decode cX9_slip 121 = .ok (.iload 6, 2) := by decide +kernel
theorem dX9_slip_123 : decode cX9_slip 123 = .ok (.iload 8, 2) := by decide +kernel
theorem dX9_slip_125 : decode cX9_slip 125 = .ok (.idiv, 1) := by decide +kernel
theorem dX9_slip_126 : decode cX9_slip 126 = .ok (.goto 8, 3) := by decide +kernel
theorem dX9_slip_129 : decode cX9_slip 129 = .ok (.iload 7, 2) := by decide +kernel
theorem dX9_slip_131 : decode cX9_slip 131 = .ok (.iload 8, 2) := by decide +kernel
theorem dX9_slip_133 : decode cX9_slip 133 = .ok (.idiv, 1) := by decide +kernel
theorem dX9_slip_134 : decode cX9_slip 134 = .ok (.ireturn, 1) := by decide +kernel
theorem dX9_evening_0 : decode cX9_evening 0 = .ok (.iload_n 1, 1) := by decide +kernel
theorem dX9_evening_1 : decode cX9_evening 1 = .ok (.ifCond .lt 30, 3) := by decide +kernel
theorem dX9_evening_4 : decode cX9_evening 4 = .ok (.iload_n 1, 1) := by decide +kernel
theorem dX9_evening_5 : decode cX9_evening 5 = .ok (.sipush 9999, 3) := by decide +kernel
theorem dX9_evening_8 : decode cX9_evening 8 = .ok (.if_icmp .gt 23, 3) := by decide +kernel
theorem dX9_evening_11 : decode cX9_evening 11 = .ok (.iload_n 2, 1) := by decide +kernel
theorem dX9_evening_12 : decode cX9_evening 12 = .ok (.iconst 1, 1) := by decide +kernel
theorem dX9_evening_13 : decode cX9_evening 13 = .ok (.if_icmp .lt 18, 3) := by decide +kernel
theorem dX9_evening_16 : decode cX9_evening 16 = .ok (.iload_n 2, 1) := by decide +kernel
theorem dX9_evening_17 : decode cX9_evening 17 = .ok (.bipush 60, 2) := by decide +kernel
theorem dX9_evening_19 : decode cX9_evening 19 = .ok (.if_icmp .gt 12, 3) := by decide +kernel
theorem dX9_evening_22 : decode cX9_evening 22 = .ok (.iload_n 3, 1) := by decide +kernel
theorem dX9_evening_23 : decode cX9_evening 23 = .ok (.ifCond .lt 8, 3) := by decide +kernel
theorem dX9_evening_26 : decode cX9_evening 26 = .ok (.iload_n 3, 1) := by decide +kernel
theorem dX9_evening_27 : decode cX9_evening 27 = .ok (.iconst 1, 1) := by decide +kernel
theorem dX9_evening_28 : decode cX9_evening 28 = .ok (.if_icmp .le 5, 3) := by decide +kernel
theorem dX9_evening_31 : decode cX9_evening 31 = .ok (.iconst (-1), 1) := by decide +kernel
theorem dX9_evening_32 : decode cX9_evening 32 = .ok (.ireturn, 1) := by decide +kernel
theorem dX9_evening_33 : decode cX9_evening 33 = .ok (.aload_n 0, 1) := by decide +kernel
theorem dX9_evening_34 : decode cX9_evening 34 = .ok (.getfield 40, 3) := by decide +kernel
theorem dX9_evening_37 : decode cX9_evening 37 = .ok (.aload_n 0, 1) := by decide +kernel
theorem dX9_evening_38 : decode cX9_evening 38 = .ok (.getfield 36, 3) := by decide +kernel
theorem dX9_evening_41 : decode cX9_evening 41 = .ok (.invokevirtual 195, 3) := by decide +kernel
theorem dX9_evening_44 : decode cX9_evening 44 = .ok (.iconst 0, 1) := by decide +kernel
theorem dX9_evening_45 : decode cX9_evening 45 = .ok (.istore 4, 2) := by decide +kernel
theorem dX9_evening_47 : decode cX9_evening 47 = .ok (.iload 4, 2) := by decide +kernel
theorem dX9_evening_49 : decode cX9_evening 49 = .ok (.iload_n 2, 1) := by decide +kernel
theorem dX9_evening_50 : decode cX9_evening 50 = .ok (.if_icmp .ge 23, 3) := by decide +kernel
theorem dX9_evening_53 : decode cX9_evening 53 = .ok (.aload_n 0, 1) := by decide +kernel
theorem dX9_evening_54 : decode cX9_evening 54 = .ok (.aload_n 0, 1) := by decide +kernel
theorem dX9_evening_55 : decode cX9_evening 55 = .ok (.getfield 40, 3) := by decide +kernel
theorem dX9_evening_58 : decode cX9_evening 58 = .ok (.iload_n 1, 1) := by decide +kernel
theorem dX9_evening_59 : decode cX9_evening 59 = .ok (.iload 4, 2) := by decide +kernel
theorem dX9_evening_61 : decode cX9_evening 61 = .ok (.invokestatic 240, 3) := by decide +kernel
theorem dX9_evening_64 : decode cX9_evening 64 = .ok (.invokevirtual 243, 3) := by decide +kernel
theorem dX9_evening_67 : decode cX9_evening 67 = .ok (.iinc 4 1, 3) := by decide +kernel
theorem dX9_evening_70 : decode cX9_evening 70 = .ok (.goto (-23), 3) := by decide +kernel
theorem dX9_evening_73 : decode cX9_evening 73 = .ok (.iload_n 3, 1) := by decide +kernel
theorem dX9_evening_74 : decode cX9_evening 74 = .ok (.ifCond .ne 13, 3) := by decide +kernel
theorem dX9_evening_77 : decode cX9_evening 77 = .ok (.aload_n 0, 1) := by decide +kernel
theorem dX9_evening_78 : decode cX9_evening 78 = .ok (.getfield 40, 3) := by decide +kernel
theorem dX9_evening_81 : decode cX9_evening 81 = .ok (.invokevirtual 218, 3) := by decide +kernel
theorem dX9_evening_84 : decode cX9_evening 84 = .ok (.goto 10, 3) := by decide +kernel
theorem dX9_evening_87 : decode cX9_evening 87 = .ok (.aload_n 0, 1) := by decide +kernel
theorem dX9_evening_88 : decode cX9_evening 88 = .ok (.getfield 40, 3) := by decide +kernel
theorem dX9_evening_91 : decode cX9_evening 91 = .ok (.invokevirtual 246, 3) := by decide +kernel
theorem dX9_evening_94 : decode cX9_evening 94 = .ok (.ireturn, 1) := by decide +kernel
theorem dX9_keep_0 : decode cX9_keep 0 = .ok (.aload_n 0, 1) := by decide +kernel
theorem dX9_keep_1 : decode cX9_keep 1 = .ok (.getfield 52, 3) := by decide +kernel
theorem dX9_keep_4 : decode cX9_keep 4 = .ok (.invokevirtual 249, 3) := by decide +kernel
theorem dX9_keep_7 : decode cX9_keep 7 = .ok (.ifCond .eq 6, 3) := by decide +kernel
theorem dX9_keep_10 : decode cX9_keep 10 = .ok (.bipush (-3), 2) := by decide +kernel
theorem dX9_keep_12 : decode cX9_keep 12 = .ok (.ireturn, 1) := by decide +kernel
theorem dX9_keep_13 : decode cX9_keep 13 = .ok (.aload_n 0, 1) := by decide +kernel
theorem dX9_keep_14 : decode cX9_keep 14 = .ok (.getfield 52, 3) := by decide +kernel
theorem dX9_keep_17 : decode cX9_keep 17 = .ok (.aload_n 0, 1) := by decide +kernel
theorem dX9_keep_18 : decode cX9_keep 18 = .ok (.getfield 36, 3) := by decide +kernel
theorem dX9_keep_21 : decode cX9_keep 21 = .ok (.invokevirtual 171, 3) := by decide +kernel
theorem dX9_keep_24 : decode cX9_keep 24 = .ok (.aload_n 0, 1) := by decide +kernel
theorem dX9_keep_25 : decode cX9_keep 25 = .ok (.getfield 52, 3) := by decide +kernel
theorem dX9_keep_28 : decode cX9_keep 28 = .ok (.invokevirtual 191, 3) := by decide +kernel
theorem dX9_keep_31 : decode cX9_keep 31 = .ok (.ireturn, 1) := by decide +kernel
theorem dX9_back_0 : decode cX9_back 0 = .ok (.aload_n 0, 1) := by decide +kernel
theorem dX9_back_1 : decode cX9_back 1 = .ok (.getfield 52, 3) := by decide +kernel
theorem dX9_back_4 : decode cX9_back 4 = .ok (.invokevirtual 191, 3) := by decide +kernel
theorem dX9_back_7 : decode cX9_back 7 = .ok (.ifCond .ne 6, 3) := by decide +kernel
theorem dX9_back_10 : decode cX9_back 10 = .ok (.bipush (-2), 2) := by decide +kernel
theorem dX9_back_12 : decode cX9_back 12 = .ok (.ireturn, 1) := by decide +kernel
theorem dX9_back_13 : decode cX9_back 13 = .ok (.aload_n 0, 1) := by decide +kernel
theorem dX9_back_14 : decode cX9_back 14 = .ok (.getfield 52, 3) := by decide +kernel
theorem dX9_back_17 : decode cX9_back 17 = .ok (.aload_n 0, 1) := by decide +kernel
theorem dX9_back_18 : decode cX9_back 18 = .ok (.getfield 36, 3) := by decide +kernel
theorem dX9_back_21 : decode cX9_back 21 = .ok (.invokevirtual 192, 3) := by decide +kernel
theorem dX9_back_24 : decode cX9_back 24 = .ok (.aload_n 0, 1) := by decide +kernel
theorem dX9_back_25 : decode cX9_back 25 = .ok (.getfield 48, 3) := by decide +kernel
theorem dX9_back_28 : decode cX9_back 28 = .ok (.invokevirtual 125, 3) := by decide +kernel
theorem dX9_back_31 : decode cX9_back 31 = .ok (.aload_n 0, 1) := by decide +kernel
theorem dX9_back_32 : decode cX9_back 32 = .ok (.getfield 52, 3) := by decide +kernel
theorem dX9_back_35 : decode cX9_back 35 = .ok (.invokevirtual 191, 3) := by decide +kernel
theorem dX9_back_38 : decode cX9_back 38 = .ok (.ireturn, 1) := by decide +kernel
theorem dX9_count_0 : decode cX9_count 0 = .ok (.iload_n 1, 1) := by decide +kernel
theorem dX9_count_1 : decode cX9_count 1 = .ok (.tableswitch 168 0 12 #[67, 75, 83, 91, 99, 107, 115, 123, 128, 136, 144, 152, 160], 67) := by decide +kernel
theorem dX9_count_68 : decode cX9_count 68 = .ok (.aload_n 0, 1) := by decide +kernel
theorem dX9_count_69 : decode cX9_count 69 = .ok (.getfield 26, 3) := by decide +kernel
theorem dX9_count_72 : decode cX9_count 72 = .ok (.invokevirtual 117, 3) := by decide +kernel
theorem dX9_count_75 : decode cX9_count 75 = .ok (.ireturn, 1) := by decide +kernel
theorem dX9_count_76 : decode cX9_count 76 = .ok (.aload_n 0, 1) := by decide +kernel
theorem dX9_count_77 : decode cX9_count 77 = .ok (.getfield 26, 3) := by decide +kernel
theorem dX9_count_80 : decode cX9_count 80 = .ok (.invokevirtual 250, 3) := by decide +kernel
theorem dX9_count_83 : decode cX9_count 83 = .ok (.ireturn, 1) := by decide +kernel
theorem dX9_count_84 : decode cX9_count 84 = .ok (.aload_n 0, 1) := by decide +kernel
theorem dX9_count_85 : decode cX9_count 85 = .ok (.getfield 26, 3) := by decide +kernel
theorem dX9_count_88 : decode cX9_count 88 = .ok (.invokevirtual 215, 3) := by decide +kernel
theorem dX9_count_91 : decode cX9_count 91 = .ok (.ireturn, 1) := by decide +kernel
theorem dX9_count_92 : decode cX9_count 92 = .ok (.aload_n 0, 1) := by decide +kernel
theorem dX9_count_93 : decode cX9_count 93 = .ok (.getfield 26, 3) := by decide +kernel
theorem dX9_count_96 : decode cX9_count 96 = .ok (.invokevirtual 253, 3) := by decide +kernel
theorem dX9_count_99 : decode cX9_count 99 = .ok (.ireturn, 1) := by decide +kernel
theorem dX9_count_100 : decode cX9_count 100 = .ok (.aload_n 0, 1) := by decide +kernel
theorem dX9_count_101 : decode cX9_count 101 = .ok (.getfield 36, 3) := by decide +kernel
theorem dX9_count_104 : decode cX9_count 104 = .ok (.invokevirtual 178, 3) := by decide +kernel
theorem dX9_count_107 : decode cX9_count 107 = .ok (.ireturn, 1) := by decide +kernel
theorem dX9_count_108 : decode cX9_count 108 = .ok (.aload_n 0, 1) := by decide +kernel
theorem dX9_count_109 : decode cX9_count 109 = .ok (.getfield 36, 3) := by decide +kernel
theorem dX9_count_112 : decode cX9_count 112 = .ok (.invokevirtual 218, 3) := by decide +kernel
theorem dX9_count_115 : decode cX9_count 115 = .ok (.ireturn, 1) := by decide +kernel
theorem dX9_count_116 : decode cX9_count 116 = .ok (.aload_n 0, 1) := by decide +kernel
theorem dX9_count_117 : decode cX9_count 117 = .ok (.getfield 36, 3) := by decide +kernel
theorem dX9_count_120 : decode cX9_count 120 = .ok (.invokevirtual 246, 3) := by decide +kernel
theorem dX9_count_123 : decode cX9_count 123 = .ok (.ireturn, 1) := by decide +kernel
theorem dX9_count_124 : decode cX9_count 124 = .ok (.aload_n 0, 1) := by decide +kernel
theorem dX9_count_125 : decode cX9_count 125 = .ok (.invokevirtual 188, 3) := by decide +kernel
theorem dX9_count_128 : decode cX9_count 128 = .ok (.ireturn, 1) := by decide +kernel
theorem dX9_count_129 : decode cX9_count 129 = .ok (.aload_n 0, 1) := by decide +kernel
theorem dX9_count_130 : decode cX9_count 130 = .ok (.getfield 36, 3) := by decide +kernel
theorem dX9_count_133 : decode cX9_count 133 = .ok (.invokevirtual 256, 3) := by decide +kernel
theorem dX9_count_136 : decode cX9_count 136 = .ok (.ireturn, 1) := by decide +kernel
theorem dX9_count_137 : decode cX9_count 137 = .ok (.aload_n 0, 1) := by decide +kernel
theorem dX9_count_138 : decode cX9_count 138 = .ok (.getfield 58, 3) := by decide +kernel
theorem dX9_count_141 : decode cX9_count 141 = .ok (.invokevirtual 225, 3) := by decide +kernel
theorem dX9_count_144 : decode cX9_count 144 = .ok (.ireturn, 1) := by decide +kernel
theorem dX9_count_145 : decode cX9_count 145 = .ok (.aload_n 0, 1) := by decide +kernel
theorem dX9_count_146 : decode cX9_count 146 = .ok (.getfield 48, 3) := by decide +kernel
theorem dX9_count_149 : decode cX9_count 149 = .ok (.invokevirtual 191, 3) := by decide +kernel
theorem dX9_count_152 : decode cX9_count 152 = .ok (.ireturn, 1) := by decide +kernel
theorem dX9_count_153 : decode cX9_count 153 = .ok (.aload_n 0, 1) := by decide +kernel
theorem dX9_count_154 : decode cX9_count 154 = .ok (.getfield 52, 3) := by decide +kernel
theorem dX9_count_157 : decode cX9_count 157 = .ok (.invokevirtual 191, 3) := by decide +kernel
theorem dX9_count_160 : decode cX9_count 160 = .ok (.ireturn, 1) := by decide +kernel
theorem dX9_count_161 : decode cX9_count 161 = .ok (.aload_n 0, 1) := by decide +kernel
theorem dX9_count_162 : decode cX9_count 162 = .ok (.getfield 12, 3) := by decide +kernel
theorem dX9_count_165 : decode cX9_count 165 = .ok (.invokevirtual 114, 3) := by decide +kernel
theorem dX9_count_168 : decode cX9_count 168 = .ok (.ireturn, 1) := by decide +kernel
theorem dX9_count_169 : decode cX9_count 169 = .ok (.iconst (-1), 1) := by decide +kernel
theorem dX9_count_170 : decode cX9_count 170 = .ok (.ireturn, 1) := by decide +kernel
theorem dX9_isCell_0 : decode cX9_isCell 0 = .ok (.iload_n 1, 1) := by decide +kernel
theorem dX9_isCell_1 : decode cX9_isCell 1 = .ok (.ifCond .lt 18, 3) := by decide +kernel
theorem dX9_isCell_4 : decode cX9_isCell 4 = .ok (.iload_n 1, 1) := by decide +kernel
theorem dX9_isCell_5 : decode cX9_isCell 5 = .ok (.aload_n 0, 1) := by decide +kernel
theorem dX9_isCell_6 : decode cX9_isCell 6 = .ok (.getfield 26, 3) := by decide +kernel
theorem dX9_isCell_9 : decode cX9_isCell 9 = .ok (.invokevirtual 117, 3) := by decide +kernel
theorem dX9_isCell_12 : decode cX9_isCell 12 = .ok (.if_icmp .ge 7, 3) := by decide +kernel
theorem dX9_isCell_15 : decode cX9_isCell 15 = .ok (.iconst 1, 1) := by decide +kernel
theorem dX9_isCell_16 : decode cX9_isCell 16 = .ok (.goto 4, 3) := by decide +kernel
theorem dX9_isCell_19 : decode cX9_isCell 19 = .ok (.iconst 0, 1) := by decide +kernel
theorem dX9_isCell_20 : decode cX9_isCell 20 = .ok (.ireturn, 1) := by decide +kernel
theorem dX9_isCase_0 : decode cX9_isCase 0 = .ok (.iload_n 1, 1) := by decide +kernel
theorem dX9_isCase_1 : decode cX9_isCase 1 = .ok (.ifCond .lt 18, 3) := by decide +kernel
theorem dX9_isCase_4 : decode cX9_isCase 4 = .ok (.iload_n 1, 1) := by decide +kernel
theorem dX9_isCase_5 : decode cX9_isCase 5 = .ok (.aload_n 0, 1) := by decide +kernel
theorem dX9_isCase_6 : decode cX9_isCase 6 = .ok (.getfield 26, 3) := by decide +kernel
theorem dX9_isCase_9 : decode cX9_isCase 9 = .ok (.invokevirtual 215, 3) := by decide +kernel
theorem dX9_isCase_12 : decode cX9_isCase 12 = .ok (.if_icmp .ge 7, 3) := by decide +kernel
theorem dX9_isCase_15 : decode cX9_isCase 15 = .ok (.iconst 1, 1) := by decide +kernel
theorem dX9_isCase_16 : decode cX9_isCase 16 = .ok (.goto 4, 3) := by decide +kernel
theorem dX9_isCase_19 : decode cX9_isCase 19 = .ok (.iconst 0, 1) := by decide +kernel
theorem dX9_isCase_20 : decode cX9_isCase 20 = .ok (.ireturn, 1) := by decide +kernel
theorem dX9_isMaid_0 : decode cX9_isMaid 0 = .ok (.iload_n 1, 1) := by decide +kernel
theorem dX9_isMaid_1 : decode cX9_isMaid 1 = .ok (.ifCond .lt 18, 3) := by decide +kernel
theorem dX9_isMaid_4 : decode cX9_isMaid 4 = .ok (.iload_n 1, 1) := by decide +kernel
theorem dX9_isMaid_5 : decode cX9_isMaid 5 = .ok (.aload_n 0, 1) := by decide +kernel
theorem dX9_isMaid_6 : decode cX9_isMaid 6 = .ok (.getfield 26, 3) := by decide +kernel
theorem dX9_isMaid_9 : decode cX9_isMaid 9 = .ok (.invokevirtual 253, 3) := by decide +kernel
theorem dX9_isMaid_12 : decode cX9_isMaid 12 = .ok (.if_icmp .ge 7, 3) := by decide +kernel
theorem dX9_isMaid_15 : decode cX9_isMaid 15 = .ok (.iconst 1, 1) := by decide +kernel
theorem dX9_isMaid_16 : decode cX9_isMaid 16 = .ok (.goto 4, 3) := by decide +kernel
theorem dX9_isMaid_19 : decode cX9_isMaid 19 = .ok (.iconst 0, 1) := by decide +kernel
theorem dX9_isMaid_20 : decode cX9_isMaid 20 = .ok (.ireturn, 1) := by decide +kernel
theorem dX9_casesNotPardoned_0 : decode cX9_casesNotPardoned 0 = .ok (.aload_n 0, 1) := by decide +kernel
theorem dX9_casesNotPardoned_1 : decode cX9_casesNotPardoned 1 = .ok (.getfield 26, 3) := by decide +kernel
theorem dX9_casesNotPardoned_4 : decode cX9_casesNotPardoned 4 = .ok (.invokevirtual 215, 3) := by decide +kernel
theorem dX9_casesNotPardoned_7 : decode cX9_casesNotPardoned 7 = .ok (.aload_n 0, 1) := by decide +kernel
theorem dX9_casesNotPardoned_8 : decode cX9_casesNotPardoned 8 = .ok (.getfield 36, 3) := by decide +kernel
theorem dX9_casesNotPardoned_11 : decode cX9_casesNotPardoned 11 = .ok (.invokevirtual 259, 3) := by decide +kernel
theorem dX9_casesNotPardoned_14 : decode cX9_casesNotPardoned 14 = .ok (.isub, 1) := by decide +kernel
theorem dX9_casesNotPardoned_15 : decode cX9_casesNotPardoned 15 = .ok (.ireturn, 1) := by decide +kernel
theorem dX9_wouldRaise_0 : decode cX9_wouldRaise 0 = .ok (.aload_n 0, 1) := by decide +kernel
theorem dX9_wouldRaise_1 : decode cX9_wouldRaise 1 = .ok (.getfield 36, 3) := by decide +kernel
theorem dX9_wouldRaise_4 : decode cX9_wouldRaise 4 = .ok (.iload_n 1, 1) := by decide +kernel
theorem dX9_wouldRaise_5 : decode cX9_wouldRaise 5 = .ok (.invokevirtual 141, 3) := by decide +kernel
theorem dX9_wouldRaise_8 : decode cX9_wouldRaise 8 = .ok (.ifCond .eq 5, 3) := by decide +kernel
theorem dX9_wouldRaise_11 : decode cX9_wouldRaise 11 = .ok (.iconst 0, 1) := by decide +kernel
theorem dX9_wouldRaise_12 : decode cX9_wouldRaise 12 = .ok (.ireturn, 1) := by decide +kernel
theorem dX9_wouldRaise_13 : decode cX9_wouldRaise 13 = .ok (.aload_n 0, 1) := by decide +kernel
theorem dX9_wouldRaise_14 : decode cX9_wouldRaise 14 = .ok (.getfield 36, 3) := by decide +kernel
theorem dX9_wouldRaise_17 : decode cX9_wouldRaise 17 = .ok (.aload_n 0, 1) := by decide +kernel
theorem dX9_wouldRaise_18 : decode cX9_wouldRaise 18 = .ok (.getfield 26, 3) := by decide +kernel
theorem dX9_wouldRaise_21 : decode cX9_wouldRaise 21 = .ok (.iload_n 1, 1) := by decide +kernel
theorem dX9_wouldRaise_22 : decode cX9_wouldRaise 22 = .ok (.iconst 1, 1) := by decide +kernel
theorem dX9_wouldRaise_23 : decode cX9_wouldRaise 23 = .ok (.invokevirtual 137, 3) := by decide +kernel
theorem dX9_wouldRaise_26 : decode cX9_wouldRaise 26 = .ok (.invokevirtual 130, 3) := by decide +kernel
theorem dX9_wouldRaise_29 : decode cX9_wouldRaise 29 = .ok (.istore_n 2, 1) := by decide +kernel
theorem dX9_wouldRaise_30 : decode cX9_wouldRaise 30 = .ok (.aload_n 0, 1) := by decide +kernel
theorem dX9_wouldRaise_31 : decode cX9_wouldRaise 31 = .ok (.getfield 26, 3) := by decide +kernel
theorem dX9_wouldRaise_34 : decode cX9_wouldRaise 34 = .ok (.iload_n 1, 1) := by decide +kernel
theorem dX9_wouldRaise_35 : decode cX9_wouldRaise 35 = .ok (.iload_n 2, 1) := by decide +kernel
theorem dX9_wouldRaise_36 : decode cX9_wouldRaise 36 = .ok (.invokevirtual 262, 3) := by decide +kernel
theorem dX9_wouldRaise_39 : decode cX9_wouldRaise 39 = .ok (.bipush 40, 2) := by decide +kernel
theorem dX9_wouldRaise_41 : decode cX9_wouldRaise 41 = .ok (.iload_n 2, 1) := by decide +kernel
theorem dX9_wouldRaise_42 : decode cX9_wouldRaise 42 = .ok (.isub, 1) := by decide +kernel
theorem dX9_wouldRaise_43 : decode cX9_wouldRaise 43 = .ok (.invokestatic 162, 3) := by decide +kernel
theorem dX9_wouldRaise_46 : decode cX9_wouldRaise 46 = .ok (.ireturn, 1) := by decide +kernel
theorem dX9_wouldBeSeen_0 : decode cX9_wouldBeSeen 0 = .ok (.aload_n 1, 1) := by decide +kernel
theorem dX9_wouldBeSeen_1 : decode cX9_wouldBeSeen 1 = .ok (.aload_n 0, 1) := by decide +kernel
theorem dX9_wouldBeSeen_2 : decode cX9_wouldBeSeen 2 = .ok (.getfield 40, 3) := by decide +kernel
theorem dX9_wouldBeSeen_5 : decode cX9_wouldBeSeen 5 = .ok (.invokevirtual 103, 3) := by decide +kernel
theorem dX9_wouldBeSeen_8 : decode cX9_wouldBeSeen 8 = .ok (.iconst 0, 1) := by decide +kernel
theorem dX9_wouldBeSeen_9 : decode cX9_wouldBeSeen 9 = .ok (.istore 4, 2) := by decide +kernel
theorem dX9_wouldBeSeen_11 : decode cX9_wouldBeSeen 11 = .ok (.iload 4, 2) := by decide +kernel
theorem dX9_wouldBeSeen_13 : decode cX9_wouldBeSeen 13 = .ok (.aload_n 1, 1) := by decide +kernel
theorem dX9_wouldBeSeen_14 : decode cX9_wouldBeSeen 14 = .ok (.invokevirtual 215, 3) := by decide +kernel
theorem dX9_wouldBeSeen_17 : decode cX9_wouldBeSeen 17 = .ok (.if_icmp .ge 27, 3) := by decide +kernel
theorem dX9_wouldBeSeen_20 : decode cX9_wouldBeSeen 20 = .ok (.iload_n 2, 1) := by decide +kernel
theorem dX9_wouldBeSeen_21 : decode cX9_wouldBeSeen 21 = .ok (.iload 4, 2) := by decide +kernel
theorem dX9_wouldBeSeen_23 : decode cX9_wouldBeSeen 23 = .ok (.ishr, 1) := by decide +kernel
theorem dX9_wouldBeSeen_24 : decode cX9_wouldBeSeen 24 = .ok (.iconst 1, 1) := by decide +kernel
theorem dX9_wouldBeSeen_25 : decode cX9_wouldBeSeen 25 = .ok (.iand, 1) := by decide +kernel
theorem dX9_wouldBeSeen_26 : decode cX9_wouldBeSeen 26 = .ok (.ifCond .ne 12, 3) := by decide +kernel
theorem dX9_wouldBeSeen_29 : decode cX9_wouldBeSeen 29 = .ok (.aload_n 0, 1) := by decide +kernel
theorem dX9_wouldBeSeen_30 : decode cX9_wouldBeSeen 30 = .ok (.getfield 40, 3) := by decide +kernel
theorem dX9_wouldBeSeen_33 : decode cX9_wouldBeSeen 33 = .ok (.iload 4, 2) := by decide +kernel
theorem dX9_wouldBeSeen_35 : decode cX9_wouldBeSeen 35 = .ok (.invokevirtual 185, 3) := by decide +kernel
theorem dX9_wouldBeSeen_38 : decode cX9_wouldBeSeen 38 = .ok (.iinc 4 1, 3) := by decide +kernel
theorem dX9_wouldBeSeen_41 : decode cX9_wouldBeSeen 41 = .ok (.goto (-30), 3) := by decide +kernel
theorem dX9_wouldBeSeen_44 : decode cX9_wouldBeSeen 44 = .ok (.aload_n 1, 1) := by decide +kernel
theorem dX9_wouldBeSeen_45 : decode cX9_wouldBeSeen 45 = .ok (.aload_n 0, 1) := by decide +kernel
theorem dX9_wouldBeSeen_46 : decode cX9_wouldBeSeen 46 = .ok (.getfield 40, 3) := by decide +kernel
theorem dX9_wouldBeSeen_49 : decode cX9_wouldBeSeen 49 = .ok (.iload_n 3, 1) := by decide +kernel
theorem dX9_wouldBeSeen_50 : decode cX9_wouldBeSeen 50 = .ok (.invokevirtual 181, 3) := by decide +kernel
theorem dX9_wouldBeSeen_53 : decode cX9_wouldBeSeen 53 = .ok (.aload_n 0, 1) := by decide +kernel
theorem dX9_wouldBeSeen_54 : decode cX9_wouldBeSeen 54 = .ok (.getfield 58, 3) := by decide +kernel
theorem dX9_wouldBeSeen_57 : decode cX9_wouldBeSeen 57 = .ok (.aload_n 0, 1) := by decide +kernel
theorem dX9_wouldBeSeen_58 : decode cX9_wouldBeSeen 58 = .ok (.getfield 40, 3) := by decide +kernel
theorem dX9_wouldBeSeen_61 : decode cX9_wouldBeSeen 61 = .ok (.invokevirtual 265, 3) := by decide +kernel
theorem dX9_wouldBeSeen_64 : decode cX9_wouldBeSeen 64 = .ok (.ireturn, 1) := by decide +kernel
theorem dX9_smoothOutcomes_0 : decode cX9_smoothOutcomes 0 = .ok (.iload_n 3, 1) := by decide +kernel
theorem dX9_smoothOutcomes_1 : decode cX9_smoothOutcomes 1 = .ok (.ifCond .gt 13, 3) := by decide +kernel
theorem dX9_smoothOutcomes_4 : decode cX9_smoothOutcomes 4 = .ok (.iload_n 2, 1) := by decide +kernel
theorem dX9_smoothOutcomes_5 : decode cX9_smoothOutcomes 5 = .ok (.ifCond .ne 7, 3) := by decide +kernel
theorem dX9_smoothOutcomes_8 : decode cX9_smoothOutcomes 8 = .ok (.iconst 1, 1) := by decide +kernel
theorem dX9_smoothOutcomes_9 : decode cX9_smoothOutcomes 9 = .ok (.goto 4, 3) := by decide +kernel
theorem dX9_smoothOutcomes_12 : decode cX9_smoothOutcomes 12 = .ok (.iconst 0, 1) := by decide +kernel
theorem dX9_smoothOutcomes_13 : decode cX9_smoothOutcomes 13 = .ok (.ireturn, 1) := by decide +kernel
theorem dX9_smoothOutcomes_14 : decode cX9_smoothOutcomes 14 = .ok (.iconst 0, 1) := by decide +kernel
theorem dX9_smoothOutcomes_15 : decode cX9_smoothOutcomes 15 = .ok (.iload_n 2, 1) := by decide +kernel
theorem dX9_smoothOutcomes_16 : decode cX9_smoothOutcomes 16 = .ok (.aload_n 0, 1) := by decide +kernel
theorem dX9_smoothOutcomes_17 : decode cX9_smoothOutcomes 17 = .ok (.iload_n 1, 1) := by decide +kernel
theorem dX9_smoothOutcomes_18 : decode cX9_smoothOutcomes 18 = .ok (.iload_n 2, 1) := by decide +kernel
theorem dX9_smoothOutcomes_19 : decode cX9_smoothOutcomes 19 = .ok (.invokevirtual 159, 3) := by decide +kernel
theorem dX9_smoothOutcomes_22 : decode cX9_smoothOutcomes 22 = .ok (.isub, 1) := by decide +kernel
theorem dX9_smoothOutcomes_23 : decode cX9_smoothOutcomes 23 = .ok (.invokestatic 269, 3) := by decide +kernel
theorem dX9_smoothOutcomes_26 : decode cX9_smoothOutcomes 26 = .ok (.istore 5, 2) := by decide +kernel
theorem dX9_smoothOutcomes_28 : decode cX9_smoothOutcomes 28 = .ok (.iload 4, 2) := by decide +kernel
theorem dX9_smoothOutcomes_30 : decode cX9_smoothOutcomes 30 = .ok (.aload_n 0, 1) := by decide +kernel
theorem dX9_smoothOutcomes_31 : decode cX9_smoothOutcomes 31 = .ok (.iload_n 1, 1) := by decide +kernel
theorem dX9_smoothOutcomes_32 : decode cX9_smoothOutcomes 32 = .ok (.iload_n 2, 1) := by decide +kernel
theorem dX9_smoothOutcomes_33 : decode cX9_smoothOutcomes 33 = .ok (.iload_n 3, 1) := by decide +kernel
theorem dX9_smoothOutcomes_34 : decode cX9_smoothOutcomes 34 = .ok (.iconst 1, 1) := by decide +kernel
theorem dX9_smoothOutcomes_35 : decode cX9_smoothOutcomes 35 = .ok (.isub, 1) := by decide +kernel
theorem dX9_smoothOutcomes_36 : decode cX9_smoothOutcomes 36 = .ok (.iload 4, 2) := by decide +kernel
theorem dX9_smoothOutcomes_38 : decode cX9_smoothOutcomes 38 = .ok (.invokestatic 233, 3) := by decide +kernel
theorem dX9_smoothOutcomes_41 : decode cX9_smoothOutcomes 41 = .ok (.imul, 1) := by decide +kernel
theorem dX9_smoothOutcomes_42 : decode cX9_smoothOutcomes 42 = .ok (.bipush 10, 2) := by decide +kernel
theorem dX9_smoothOutcomes_44 : decode cX9_smoothOutcomes 44 = .ok (.iload 4, 2) := by decide +kernel
theorem dX9_smoothOutcomes_46 : decode cX9_smoothOutcomes 46 = .ok (.isub, 1) := by decide +kernel
theorem dX9_smoothOutcomes_47 : decode cX9_smoothOutcomes 47 = .ok (.aload_n 0, 1) := by decide +kernel
theorem dX9_smoothOutcomes_48 : decode cX9_smoothOutcomes 48 = .ok (.iload_n 1, 1) := by decide +kernel
theorem dX9_smoothOutcomes_49 : decode cX9_smoothOutcomes 49 = .ok (.iload 5, 2) := by decide +kernel
theorem dX9_smoothOutcomes_51 : decode cX9_smoothOutcomes 51 = .ok (.iload_n 3, 1) := by decide +kernel
theorem dX9_smoothOutcomes_52 : decode cX9_smoothOutcomes 52 = .ok (.iconst 1, 1) := by decide +kernel
theorem dX9_smoothOutcomes_53 : decode cX9_smoothOutcomes 53 = .ok (.isub, 1) := by decide +kernel
theorem dX9_smoothOutcomes_54 : decode cX9_smoothOutcomes 54 = .ok (.iload 4, 2) := by decide +kernel
theorem dX9_smoothOutcomes_56 : decode cX9_smoothOutcomes 56 = .ok (.invokestatic 233, 3) := by decide +kernel
theorem dX9_smoothOutcomes_59 : decode cX9_smoothOutcomes 59 = .ok (.imul, 1) := by decide +kernel
theorem dX9_smoothOutcomes_60 : decode cX9_smoothOutcomes 60 = .ok (.iadd, 1) := by decide +kernel
theorem dX9_smoothOutcomes_61 : decode cX9_smoothOutcomes 61 = .ok (.ireturn, 1) := by decide +kernel
theorem dX9_commonDivisor_0 : decode cX9_commonDivisor 0 = .ok (.iload_n 0, 1) := by decide +kernel
theorem dX9_commonDivisor_1 : decode cX9_commonDivisor 1 = .ok (.istore_n 2, 1) := by decide +kernel
theorem dX9_commonDivisor_2 : decode cX9_commonDivisor 2 = .ok (.iload_n 1, 1) := by decide +kernel
theorem dX9_commonDivisor_3 : decode cX9_commonDivisor 3 = .ok (.istore_n 3, 1) := by decide +kernel
theorem dX9_commonDivisor_4 : decode cX9_commonDivisor 4 = .ok (.iconst 0, 1) := by decide +kernel
theorem dX9_commonDivisor_5 : decode cX9_commonDivisor 5 = .ok (.istore 4, 2) := by decide +kernel
theorem dX9_commonDivisor_7 : decode cX9_commonDivisor 7 = .ok (.iload 4, 2) := by decide +kernel
theorem dX9_commonDivisor_9 : decode cX9_commonDivisor 9 = .ok (.bipush 64, 2) := by decide +kernel
theorem dX9_commonDivisor_11 : decode cX9_commonDivisor 11 = .ok (.if_icmp .ge 23, 3) := by decide +kernel
theorem dX9_commonDivisor_14 : decode cX9_commonDivisor 14 = .ok (.iload_n 3, 1) := by decide +kernel
theorem dX9_commonDivisor_15 : decode cX9_commonDivisor 15 = .ok (.ifCond .eq 19, 3) := by decide +kernel
theorem dX9_commonDivisor_18 : decode cX9_commonDivisor 18 = .ok (.iload_n 2, 1) := by decide +kernel
theorem dX9_commonDivisor_19 : decode cX9_commonDivisor 19 = .ok (.iload_n 3, 1) := by decide +kernel
theorem dX9_commonDivisor_20 : decode cX9_commonDivisor 20 = .ok (.irem, 1) := by decide +kernel
theorem dX9_commonDivisor_21 : decode cX9_commonDivisor 21 = .ok (.istore 5, 2) := by decide +kernel
theorem dX9_commonDivisor_23 : decode cX9_commonDivisor 23 = .ok (.iload_n 3, 1) := by decide +kernel
theorem dX9_commonDivisor_24 : decode cX9_commonDivisor 24 = .ok (.istore_n 2, 1) := by decide +kernel
theorem dX9_commonDivisor_25 : decode cX9_commonDivisor 25 = .ok (.iload 5, 2) := by decide +kernel
theorem dX9_commonDivisor_27 : decode cX9_commonDivisor 27 = .ok (.istore_n 3, 1) := by decide +kernel
theorem dX9_commonDivisor_28 : decode cX9_commonDivisor 28 = .ok (.iinc 4 1, 3) := by decide +kernel
theorem dX9_commonDivisor_31 : decode cX9_commonDivisor 31 = .ok (.goto (-24), 3) := by decide +kernel
theorem dX9_commonDivisor_34 : decode cX9_commonDivisor 34 = .ok (.iload_n 2, 1) := by decide +kernel
theorem dX9_commonDivisor_35 : decode cX9_commonDivisor 35 = .ok (.ireturn, 1) := by decide +kernel
theorem dX9_drawOf_0 : decode cX9_drawOf 0 = .ok (.ldc2_w 272, 3) := by decide +kernel
theorem dX9_drawOf_3 : decode cX9_drawOf 3 = .ok (.iload_n 0, 1) := by decide +kernel
theorem dX9_drawOf_4 : decode cX9_drawOf 4 = .ok (.i2l, 1) := by decide +kernel
theorem dX9_drawOf_5 : decode cX9_drawOf 5 = .ok (.lmul, 1) := by decide +kernel
theorem dX9_drawOf_6 : decode cX9_drawOf 6 = .ok (.ldc2_w 274, 3) := by decide +kernel
theorem dX9_drawOf_9 : decode cX9_drawOf 9 = .ok (.iload_n 1, 1) := by decide +kernel
theorem dX9_drawOf_10 : decode cX9_drawOf 10 = .ok (.i2l, 1) := by decide +kernel
theorem dX9_drawOf_11 : decode cX9_drawOf 11 = .ok (.lmul, 1) := by decide +kernel
theorem dX9_drawOf_12 : decode cX9_drawOf 12 = .ok (.ladd, 1) := by decide +kernel
theorem dX9_drawOf_13 : decode cX9_drawOf 13 = .ok (.lconst 1, 1) := by decide +kernel
theorem dX9_drawOf_14 : decode cX9_drawOf 14 = .ok (.ladd, 1) := by decide +kernel
theorem dX9_drawOf_15 : decode cX9_drawOf 15 = .ok (.lstore_n 2, 1) := by decide +kernel
theorem dX9_drawOf_16 : decode cX9_drawOf 16 = .ok (.lload_n 2, 1) := by decide +kernel
theorem dX9_drawOf_17 : decode cX9_drawOf 17 = .ok (.lload_n 2, 1) := by decide +kernel
theorem dX9_drawOf_18 : decode cX9_drawOf 18 = .ok (.lmul, 1) := by decide +kernel
theorem dX9_drawOf_19 : decode cX9_drawOf 19 = .ok (.ldc2_w 276, 3) := by decide +kernel
theorem dX9_drawOf_22 : decode cX9_drawOf 22 = .ok (.lrem, 1) := by decide +kernel
theorem dX9_drawOf_23 : decode cX9_drawOf 23 = .ok (.l2i, 1) := by decide +kernel
theorem dX9_drawOf_24 : decode cX9_drawOf 24 = .ok (.ireturn, 1) := by decide +kernel
theorem dX9_goOnByDraw_0 : decode cX9_goOnByDraw 0 = .ok (.iload_n 2, 1) := by decide +kernel
theorem dX9_goOnByDraw_1 : decode cX9_goOnByDraw 1 = .ok (.bipush 8, 2) := by decide +kernel
theorem dX9_goOnByDraw_3 : decode cX9_goOnByDraw 3 = .ok (.idiv, 1) := by decide +kernel
theorem dX9_goOnByDraw_4 : decode cX9_goOnByDraw 4 = .ok (.istore_n 3, 1) := by decide +kernel
theorem dX9_goOnByDraw_5 : decode cX9_goOnByDraw 5 = .ok (.iload_n 2, 1) := by decide +kernel
theorem dX9_goOnByDraw_6 : decode cX9_goOnByDraw 6 = .ok (.bipush 8, 2) := by decide +kernel
theorem dX9_goOnByDraw_8 : decode cX9_goOnByDraw 8 = .ok (.irem, 1) := by decide +kernel
theorem dX9_goOnByDraw_9 : decode cX9_goOnByDraw 9 = .ok (.lookupswitch 75 #[(6, 49), (7, 27)], 27) := by decide +kernel
theorem dX9_goOnByDraw_36 : decode cX9_goOnByDraw 36 = .ok (.aload_n 1, 1) := by decide +kernel
theorem dX9_goOnByDraw_37 : decode cX9_goOnByDraw 37 = .ok (.invokevirtual 178, 3) := by decide +kernel
theorem dX9_goOnByDraw_40 : decode cX9_goOnByDraw 40 = .ok (.sipush 999, 3) := by decide +kernel
theorem dX9_goOnByDraw_43 : decode cX9_goOnByDraw 43 = .ok (.if_icmp .ge 87, 3) := by decide +kernel
theorem dX9_goOnByDraw_46 : decode cX9_goOnByDraw 46 = .ok (.aload_n 0, 1) := by decide +kernel
theorem dX9_goOnByDraw_47 : decode cX9_goOnByDraw 47 = .ok (.getfield 26, 3) := by decide +kernel
theorem dX9_goOnByDraw_50 : decode cX9_goOnByDraw 50 = .ok (.aload_n 1, 1) := by decide +kernel
theorem dX9_goOnByDraw_51 : decode cX9_goOnByDraw 51 = .ok (.iconst 1, 1) := by decide +kernel
theorem dX9_goOnByDraw_52 : decode cX9_goOnByDraw 52 = .ok (.invokevirtual 181, 3) := by decide +kernel
theorem dX9_goOnByDraw_55 : decode cX9_goOnByDraw 55 = .ok (.goto 75, 3) := by decide +kernel
theorem dX9_goOnByDraw_58 : decode cX9_goOnByDraw 58 = .ok (.aload_n 0, 1) := by decide +kernel
theorem dX9_goOnByDraw_59 : decode cX9_goOnByDraw 59 = .ok (.getfield 26, 3) := by decide +kernel
theorem dX9_goOnByDraw_62 : decode cX9_goOnByDraw 62 = .ok (.invokevirtual 215, 3) := by decide +kernel
theorem dX9_goOnByDraw_65 : decode cX9_goOnByDraw 65 = .ok (.ifCond .le 65, 3) := by decide +kernel
theorem dX9_goOnByDraw_68 : decode cX9_goOnByDraw 68 = .ok (.aload_n 1, 1) := by decide +kernel
theorem dX9_goOnByDraw_69 : decode cX9_goOnByDraw 69 = .ok (.iload_n 3, 1) := by decide +kernel
theorem dX9_goOnByDraw_70 : decode cX9_goOnByDraw 70 = .ok (.aload_n 0, 1) := by decide +kernel
theorem dX9_goOnByDraw_71 : decode cX9_goOnByDraw 71 = .ok (.getfield 26, 3) := by decide +kernel
theorem dX9_goOnByDraw_74 : decode cX9_goOnByDraw 74 = .ok (.invokevirtual 215, 3) := by decide +kernel
theorem dX9_goOnByDraw_77 : decode cX9_goOnByDraw 77 = .ok (.irem, 1) := by decide +kernel
theorem dX9_goOnByDraw_78 : decode cX9_goOnByDraw 78 = .ok (.invokevirtual 185, 3) := by decide +kernel
theorem dX9_goOnByDraw_81 : decode cX9_goOnByDraw 81 = .ok (.goto 49, 3) := by decide +kernel
theorem dX9_goOnByDraw_84 : decode cX9_goOnByDraw 84 = .ok (.aload_n 0, 1) := by decide +kernel
theorem dX9_goOnByDraw_85 : decode cX9_goOnByDraw 85 = .ok (.getfield 26, 3) := by decide +kernel
theorem dX9_goOnByDraw_88 : decode cX9_goOnByDraw 88 = .ok (.invokevirtual 253, 3) := by decide +kernel
theorem dX9_goOnByDraw_91 : decode cX9_goOnByDraw 91 = .ok (.ifCond .le 39, 3) := by decide +kernel
theorem dX9_goOnByDraw_94 : decode cX9_goOnByDraw 94 = .ok (.aload_n 0, 1) := by decide +kernel
theorem dX9_goOnByDraw_95 : decode cX9_goOnByDraw 95 = .ok (.getfield 26, 3) := by decide +kernel
theorem dX9_goOnByDraw_98 : decode cX9_goOnByDraw 98 = .ok (.invokevirtual 117, 3) := by decide +kernel
theorem dX9_goOnByDraw_101 : decode cX9_goOnByDraw 101 = .ok (.ifCond .le 29, 3) := by decide +kernel
theorem dX9_goOnByDraw_104 : decode cX9_goOnByDraw 104 = .ok (.aload_n 0, 1) := by decide +kernel
theorem dX9_goOnByDraw_105 : decode cX9_goOnByDraw 105 = .ok (.aload_n 1, 1) := by decide +kernel
theorem dX9_goOnByDraw_106 : decode cX9_goOnByDraw 106 = .ok (.iload_n 3, 1) := by decide +kernel
theorem dX9_goOnByDraw_107 : decode cX9_goOnByDraw 107 = .ok (.aload_n 0, 1) := by decide +kernel
theorem dX9_goOnByDraw_108 : decode cX9_goOnByDraw 108 = .ok (.getfield 26, 3) := by decide +kernel
theorem dX9_goOnByDraw_111 : decode cX9_goOnByDraw 111 = .ok (.invokevirtual 253, 3) := by decide +kernel
theorem dX9_goOnByDraw_114 : decode cX9_goOnByDraw 114 = .ok (.irem, 1) := by decide +kernel
theorem dX9_goOnByDraw_115 : decode cX9_goOnByDraw 115 = .ok (.iload_n 2, 1) := by decide +kernel
theorem dX9_goOnByDraw_116 : decode cX9_goOnByDraw 116 = .ok (.bipush 64, 2) := by decide +kernel
theorem dX9_goOnByDraw_118 : decode cX9_goOnByDraw 118 = .ok (.idiv, 1) := by decide +kernel
theorem dX9_goOnByDraw_119 : decode cX9_goOnByDraw 119 = .ok (.aload_n 0, 1) := by decide +kernel
theorem dX9_goOnByDraw_120 : decode cX9_goOnByDraw 120 = .ok (.getfield 26, 3) := by decide +kernel
theorem dX9_goOnByDraw_123 : decode cX9_goOnByDraw 123 = .ok (.invokevirtual 117, 3) := by decide +kernel
theorem dX9_goOnByDraw_126 : decode cX9_goOnByDraw 126 = .ok (.irem, 1) := by decide +kernel
theorem dX9_goOnByDraw_127 : decode cX9_goOnByDraw 127 = .ok (.invokevirtual 278, 3) := by decide +kernel
theorem dX9_goOnByDraw_130 : decode cX9_goOnByDraw 130 = .ok (.return_, 1) := by decide +kernel
theorem dX9_strikeIfShe_0 : decode cX9_strikeIfShe 0 = .ok (.aload_n 0, 1) := by decide +kernel
theorem dX9_strikeIfShe_1 : decode cX9_strikeIfShe 1 = .ok (.getfield 26, 3) := by decide +kernel
theorem dX9_strikeIfShe_4 : decode cX9_strikeIfShe 4 = .ok (.aload_n 1, 1) := by decide +kernel
theorem dX9_strikeIfShe_5 : decode cX9_strikeIfShe 5 = .ok (.iload_n 2, 1) := by decide +kernel
theorem dX9_strikeIfShe_6 : decode cX9_strikeIfShe 6 = .ok (.iload_n 3, 1) := by decide +kernel
theorem dX9_strikeIfShe_7 : decode cX9_strikeIfShe 7 = .ok (.invokevirtual 167, 3) := by decide +kernel
theorem dX9_strikeIfShe_10 : decode cX9_strikeIfShe 10 = .ok (.ifCond .eq 13, 3) := by decide +kernel
theorem dX9_strikeIfShe_13 : decode cX9_strikeIfShe 13 = .ok (.aload_n 0, 1) := by decide +kernel
theorem dX9_strikeIfShe_14 : decode cX9_strikeIfShe 14 = .ok (.getfield 26, 3) := by decide +kernel
theorem dX9_strikeIfShe_17 : decode cX9_strikeIfShe 17 = .ok (.aload_n 1, 1) := by decide +kernel
theorem dX9_strikeIfShe_18 : decode cX9_strikeIfShe 18 = .ok (.iload_n 2, 1) := by decide +kernel
theorem dX9_strikeIfShe_19 : decode cX9_strikeIfShe 19 = .ok (.iload_n 3, 1) := by decide +kernel
theorem dX9_strikeIfShe_20 : decode cX9_strikeIfShe 20 = .ok (.invokevirtual 174, 3) := by decide +kernel
theorem dX9_strikeIfShe_23 : decode cX9_strikeIfShe 23 = .ok (.return_, 1) := by decide +kernel
theorem dL_law_0 : decode cL_law 0 = .ok (.new 7, 3) := by decide +kernel
theorem dL_law_3 : decode cL_law 3 = .ok (.dup, 1) := by decide +kernel
theorem dL_law_4 : decode cL_law 4 = .ok (.invokespecial 9, 3) := by decide +kernel
theorem dL_law_7 : decode cL_law 7 = .ok (.astore_n 1, 1) := by decide +kernel
theorem dL_law_8 : decode cL_law 8 = .ok (.new 10, 3) := by decide +kernel
theorem dL_law_11 : decode cL_law 11 = .ok (.dup, 1) := by decide +kernel
theorem dL_law_12 : decode cL_law 12 = .ok (.invokespecial 12, 3) := by decide +kernel
theorem dL_law_15 : decode cL_law 15 = .ok (.astore_n 2, 1) := by decide +kernel
theorem dL_law_16 : decode cL_law 16 = .ok (.iconst 0, 1) := by decide +kernel
theorem dL_law_17 : decode cL_law 17 = .ok (.istore_n 3, 1) := by decide +kernel
theorem dL_law_18 : decode cL_law 18 = .ok (.iload_n 3, 1) := by decide +kernel
theorem dL_law_19 : decode cL_law 19 = .ok (.aload_n 0, 1) := by decide +kernel
theorem dL_law_20 : decode cL_law 20 = .ok (.arraylength, 1) := by decide +kernel
theorem dL_law_21 : decode cL_law 21 = .ok (.bipush 6, 2) := by decide +kernel
theorem dL_law_23 : decode cL_law 23 = .ok (.isub, 1) := by decide +kernel
theorem dL_law_24 : decode cL_law 24 = .ok (.if_icmp .gt 852, 3) := by decide +kernel
theorem dL_law_27 : decode cL_law 27 = .ok (.aload_n 0, 1) := by decide +kernel
theorem dL_law_28 : decode cL_law 28 = .ok (.iload_n 3, 1) := by decide +kernel
theorem dL_law_29 : decode cL_law 29 = .ok (.iaload, 1) := by decide +kernel
theorem dL_law_30 : decode cL_law 30 = .ok (.bipush 31, 2) := by decide +kernel
theorem dL_law_32 : decode cL_law 32 = .ok (.iand, 1) := by decide +kernel
theorem dL_law_33 : decode cL_law 33 = .ok (.tableswitch 837 0 25 #[119, 142, 155, 168, 181, 204, 237, 270, 303, 326, 349, 362, 395, 418, 461, 504, 527, 560, 593, 606, 639, 682, 745, 788, 801, 814], 119) := by decide +kernel
theorem dL_law_152 : decode cL_law 152 = .ok (.aload_n 1, 1) := by decide +kernel
theorem dL_law_153 : decode cL_law 153 = .ok (.aload_n 0, 1) := by decide +kernel
theorem dL_law_154 : decode cL_law 154 = .ok (.iload_n 3, 1) := by decide +kernel
theorem dL_law_155 : decode cL_law 155 = .ok (.iconst 1, 1) := by decide +kernel
theorem dL_law_156 : decode cL_law 156 = .ok (.iadd, 1) := by decide +kernel
theorem dL_law_157 : decode cL_law 157 = .ok (.iaload, 1) := by decide +kernel
theorem dL_law_158 : decode cL_law 158 = .ok (.invokevirtual 13, 3) := by decide +kernel
theorem dL_law_161 : decode cL_law 161 = .ok (.aload_n 2, 1) := by decide +kernel
theorem dL_law_162 : decode cL_law 162 = .ok (.aload_n 0, 1) := by decide +kernel
theorem dL_law_163 : decode cL_law 163 = .ok (.iload_n 3, 1) := by decide +kernel
theorem dL_law_164 : decode cL_law 164 = .ok (.iconst 1, 1) := by decide +kernel
theorem dL_law_165 : decode cL_law 165 = .ok (.iadd, 1) := by decide +kernel
theorem dL_law_166 : decode cL_law 166 = .ok (.iaload, 1) := by decide +kernel
theorem dL_law_167 : decode cL_law 167 = .ok (.invokevirtual 17, 3) := by decide +kernel
theorem dL_law_170 : decode cL_law 170 = .ok (.if_icmp .eq 700, 3) := by decide +kernel
theorem dL_law_173 : decode cL_law 173 = .ok (.iconst 0, 1) := by decide +kernel
theorem dL_law_174 : decode cL_law 174 = .ok (.ireturn, 1) := by decide +kernel
theorem dL_law_175 : decode cL_law 175 = .ok (.aload_n 1, 1) := by decide +kernel
theorem dL_law_176 : decode cL_law 176 = .ok (.invokevirtual 18, 3) := by decide +kernel
theorem dL_law_179 : decode cL_law 179 = .ok (.aload_n 2, 1) := by decide +kernel
theorem dL_law_180 : decode cL_law 180 = .ok (.invokevirtual 22, 3) := by decide +kernel
theorem dL_law_183 : decode cL_law 183 = .ok (.if_icmp .eq 687, 3) := by decide +kernel
theorem dL_law_186 : decode cL_law 186 = .ok (.iconst 0, 1) := by decide +kernel
theorem dL_law_187 : decode cL_law 187 = .ok (.ireturn, 1) := by decide +kernel
theorem dL_law_188 : decode cL_law 188 = .ok (.aload_n 1, 1) := by decide +kernel
theorem dL_law_189 : decode cL_law 189 = .ok (.invokevirtual 23, 3) := by decide +kernel
theorem dL_law_192 : decode cL_law 192 = .ok (.aload_n 2, 1) := by decide +kernel
theorem dL_law_193 : decode cL_law 193 = .ok (.invokevirtual 26, 3) := by decide +kernel
theorem dL_law_196 : decode cL_law 196 = .ok (.if_icmp .eq 674, 3) := by decide +kernel
theorem dL_law_199 : decode cL_law 199 = .ok (.iconst 0, 1) := by decide +kernel
theorem dL_law_200 : decode cL_law 200 = .ok (.ireturn, 1) := by decide +kernel
theorem dL_law_201 : decode cL_law 201 = .ok (.aload_n 1, 1) := by decide +kernel
theorem dL_law_202 : decode cL_law 202 = .ok (.invokevirtual 27, 3) := by decide +kernel
theorem dL_law_205 : decode cL_law 205 = .ok (.aload_n 2, 1) := by decide +kernel
theorem dL_law_206 : decode cL_law 206 = .ok (.invokevirtual 30, 3) := by decide +kernel
theorem dL_law_209 : decode cL_law 209 = .ok (.if_icmp .eq 661, 3) := by decide +kernel
theorem dL_law_212 : decode cL_law 212 = .ok (.iconst 0, 1) := by decide +kernel
theorem dL_law_213 : decode cL_law 213 = .ok (.ireturn, 1) := by decide +kernel
theorem dL_law_214 : decode cL_law 214 = .ok (.aload_n 1, 1) := by decide +kernel
theorem dL_law_215 : decode cL_law 215 = .ok (.aload_n 0, 1) := by decide +kernel
theorem dL_law_216 : decode cL_law 216 = .ok (.iload_n 3, 1) := by decide +kernel
theorem dL_law_217 : decode cL_law 217 = .ok (.iconst 1, 1) := by decide +kernel
theorem dL_law_218 : decode cL_law 218 = .ok (.iadd, 1) := by decide +kernel
theorem dL_law_219 : decode cL_law 219 = .ok (.iaload, 1) := by decide +kernel
theorem dL_law_220 : decode cL_law 220 = .ok (.invokevirtual 31, 3) := by decide +kernel
theorem dL_law_223 : decode cL_law 223 = .ok (.aload_n 2, 1) := by decide +kernel
theorem dL_law_224 : decode cL_law 224 = .ok (.aload_n 0, 1) := by decide +kernel
theorem dL_law_225 : decode cL_law 225 = .ok (.iload_n 3, 1) := by decide +kernel
theorem dL_law_226 : decode cL_law 226 = .ok (.iconst 1, 1) := by decide +kernel
theorem dL_law_227 : decode cL_law 227 = .ok (.iadd, 1) := by decide +kernel
theorem dL_law_228 : decode cL_law 228 = .ok (.iaload, 1) := by decide +kernel
theorem dL_law_229 : decode cL_law 229 = .ok (.invokevirtual 34, 3) := by decide +kernel
theorem dL_law_232 : decode cL_law 232 = .ok (.if_icmp .eq 638, 3) := by decide +kernel
theorem dL_law_235 : decode cL_law 235 = .ok (.iconst 0, 1) := by decide +kernel
theorem dL_law_236 : decode cL_law 236 = .ok (.ireturn, 1) := by decide +kernel
theorem dL_law_237 : decode cL_law 237 = .ok (.aload_n 1, 1) := by decide +kernel
theorem dL_law_238 : decode cL_law 238 = .ok (.aload_n 0, 1) := by decide +kernel
theorem dL_law_239 : decode cL_law 239 = .ok (.iload_n 3, 1) := by decide +kernel
theorem dL_law_240 : decode cL_law 240 = .ok (.iconst 1, 1) := by decide +kernel
theorem dL_law_241 : decode cL_law 241 = .ok (.iadd, 1) := by decide +kernel
theorem dL_law_242 : decode cL_law 242 = .ok (.iaload, 1) := by decide +kernel
theorem dL_law_243 : decode cL_law 243 = .ok (.aload_n 0, 1) := by decide +kernel
theorem dL_law_244 : decode cL_law 244 = .ok (.iload_n 3, 1) := by decide +kernel
theorem dL_law_245 : decode cL_law 245 = .ok (.iconst 2, 1) := by decide +kernel
theorem dL_law_246 : decode cL_law 246 = .ok (.iadd, 1) := by decide +kernel
theorem dL_law_247 : decode cL_law 247 = .ok (.iaload, 1) := by decide +kernel
theorem dL_law_248 : decode cL_law 248 = .ok (.invokevirtual 35, 3) := by decide +kernel
theorem dL_law_251 : decode cL_law 251 = .ok (.aload_n 2, 1) := by decide +kernel
theorem dL_law_252 : decode cL_law 252 = .ok (.aload_n 0, 1) := by decide +kernel
theorem dL_law_253 : decode cL_law 253 = .ok (.iload_n 3, 1) := by decide +kernel
theorem dL_law_254 : decode cL_law 254 = .ok (.iconst 1, 1) := by decide +kernel
theorem dL_law_255 : decode cL_law 255 = .ok (.iadd, 1) := by decide +kernel
theorem dL_law_256 : decode cL_law 256 = .ok (.iaload, 1) := by decide +kernel
theorem dL_law_257 : decode cL_law 257 = .ok (.aload_n 0, 1) := by decide +kernel
theorem dL_law_258 : decode cL_law 258 = .ok (.iload_n 3, 1) := by decide +kernel
theorem dL_law_259 : decode cL_law 259 = .ok (.iconst 2, 1) := by decide +kernel
theorem dL_law_260 : decode cL_law 260 = .ok (.iadd, 1) := by decide +kernel
theorem dL_law_261 : decode cL_law 261 = .ok (.iaload, 1) := by decide +kernel
theorem dL_law_262 : decode cL_law 262 = .ok (.invokevirtual 39, 3) := by decide +kernel
theorem dL_law_265 : decode cL_law 265 = .ok (.if_icmp .eq 605, 3) := by decide +kernel
theorem dL_law_268 : decode cL_law 268 = .ok (.iconst 0, 1) := by decide +kernel
theorem dL_law_269 : decode cL_law 269 = .ok (.ireturn, 1) := by decide +kernel
theorem dL_law_270 : decode cL_law 270 = .ok (.aload_n 1, 1) := by decide +kernel
theorem dL_law_271 : decode cL_law 271 = .ok (.aload_n 0, 1) := by decide +kernel
theorem dL_law_272 : decode cL_law 272 = .ok (.iload_n 3, 1) := by decide +kernel
theorem dL_law_273 : decode cL_law 273 = .ok (.iconst 1, 1) := by decide +kernel
theorem dL_law_274 : decode cL_law 274 = .ok (.iadd, 1) := by decide +kernel
theorem dL_law_275 : decode cL_law 275 = .ok (.iaload, 1) := by decide +kernel
theorem dL_law_276 : decode cL_law 276 = .ok (.aload_n 0, 1) := by decide +kernel
theorem dL_law_277 : decode cL_law 277 = .ok (.iload_n 3, 1) := by decide +kernel
theorem dL_law_278 : decode cL_law 278 = .ok (.iconst 2, 1) := by decide +kernel
theorem dL_law_279 : decode cL_law 279 = .ok (.iadd, 1) := by decide +kernel
theorem dL_law_280 : decode cL_law 280 = .ok (.iaload, 1) := by decide +kernel
theorem dL_law_281 : decode cL_law 281 = .ok (.invokevirtual 40, 3) := by decide +kernel
theorem dL_law_284 : decode cL_law 284 = .ok (.aload_n 2, 1) := by decide +kernel
theorem dL_law_285 : decode cL_law 285 = .ok (.aload_n 0, 1) := by decide +kernel
theorem dL_law_286 : decode cL_law 286 = .ok (.iload_n 3, 1) := by decide +kernel
theorem dL_law_287 : decode cL_law 287 = .ok (.iconst 1, 1) := by decide +kernel
theorem dL_law_288 : decode cL_law 288 = .ok (.iadd, 1) := by decide +kernel
theorem dL_law_289 : decode cL_law 289 = .ok (.iaload, 1) := by decide +kernel
theorem dL_law_290 : decode cL_law 290 = .ok (.aload_n 0, 1) := by decide +kernel
theorem dL_law_291 : decode cL_law 291 = .ok (.iload_n 3, 1) := by decide +kernel
theorem dL_law_292 : decode cL_law 292 = .ok (.iconst 2, 1) := by decide +kernel
theorem dL_law_293 : decode cL_law 293 = .ok (.iadd, 1) := by decide +kernel
theorem dL_law_294 : decode cL_law 294 = .ok (.iaload, 1) := by decide +kernel
theorem dL_law_295 : decode cL_law 295 = .ok (.invokevirtual 43, 3) := by decide +kernel
theorem dL_law_298 : decode cL_law 298 = .ok (.if_icmp .eq 572, 3) := by decide +kernel
theorem dL_law_301 : decode cL_law 301 = .ok (.iconst 0, 1) := by decide +kernel
theorem dL_law_302 : decode cL_law 302 = .ok (.ireturn, 1) := by decide +kernel
theorem dL_law_303 : decode cL_law 303 = .ok (.aload_n 1, 1) := by decide +kernel
theorem dL_law_304 : decode cL_law 304 = .ok (.aload_n 0, 1) := by decide +kernel
theorem dL_law_305 : decode cL_law 305 = .ok (.iload_n 3, 1) := by decide +kernel
theorem dL_law_306 : decode cL_law 306 = .ok (.iconst 1, 1) := by decide +kernel
theorem dL_law_307 : decode cL_law 307 = .ok (.iadd, 1) := by decide +kernel
theorem dL_law_308 : decode cL_law 308 = .ok (.iaload, 1) := by decide +kernel
theorem dL_law_309 : decode cL_law 309 = .ok (.aload_n 0, 1) := by decide +kernel
theorem dL_law_310 : decode cL_law 310 = .ok (.iload_n 3, 1) := by decide +kernel
theorem dL_law_311 : decode cL_law 311 = .ok (.iconst 2, 1) := by decide +kernel
theorem dL_law_312 : decode cL_law 312 = .ok (.iadd, 1) := by decide +kernel
theorem dL_law_313 : decode cL_law 313 = .ok (.iaload, 1) := by decide +kernel
theorem dL_law_314 : decode cL_law 314 = .ok (.invokevirtual 44, 3) := by decide +kernel
theorem dL_law_317 : decode cL_law 317 = .ok (.aload_n 2, 1) := by decide +kernel
theorem dL_law_318 : decode cL_law 318 = .ok (.aload_n 0, 1) := by decide +kernel
theorem dL_law_319 : decode cL_law 319 = .ok (.iload_n 3, 1) := by decide +kernel
theorem dL_law_320 : decode cL_law 320 = .ok (.iconst 1, 1) := by decide +kernel
theorem dL_law_321 : decode cL_law 321 = .ok (.iadd, 1) := by decide +kernel
theorem dL_law_322 : decode cL_law 322 = .ok (.iaload, 1) := by decide +kernel
theorem dL_law_323 : decode cL_law 323 = .ok (.aload_n 0, 1) := by decide +kernel
theorem dL_law_324 : decode cL_law 324 = .ok (.iload_n 3, 1) := by decide +kernel
theorem dL_law_325 : decode cL_law 325 = .ok (.iconst 2, 1) := by decide +kernel
theorem dL_law_326 : decode cL_law 326 = .ok (.iadd, 1) := by decide +kernel
theorem dL_law_327 : decode cL_law 327 = .ok (.iaload, 1) := by decide +kernel
theorem dL_law_328 : decode cL_law 328 = .ok (.invokevirtual 47, 3) := by decide +kernel
theorem dL_law_331 : decode cL_law 331 = .ok (.if_icmp .eq 539, 3) := by decide +kernel
theorem dL_law_334 : decode cL_law 334 = .ok (.iconst 0, 1) := by decide +kernel
theorem dL_law_335 : decode cL_law 335 = .ok (.ireturn, 1) := by decide +kernel
theorem dL_law_336 : decode cL_law 336 = .ok (.aload_n 1, 1) := by decide +kernel
theorem dL_law_337 : decode cL_law 337 = .ok (.aload_n 0, 1) := by decide +kernel
theorem dL_law_338 : decode cL_law 338 = .ok (.iload_n 3, 1) := by decide +kernel
theorem dL_law_339 : decode cL_law 339 = .ok (.iconst 1, 1) := by decide +kernel
theorem dL_law_340 : decode cL_law 340 = .ok (.iadd, 1) := by decide +kernel
theorem dL_law_341 : decode cL_law 341 = .ok (.iaload, 1) := by decide +kernel
theorem dL_law_342 : decode cL_law 342 = .ok (.invokevirtual 48, 3) := by decide +kernel
theorem dL_law_345 : decode cL_law 345 = .ok (.aload_n 2, 1) := by decide +kernel
theorem dL_law_346 : decode cL_law 346 = .ok (.aload_n 0, 1) := by decide +kernel
theorem dL_law_347 : decode cL_law 347 = .ok (.iload_n 3, 1) := by decide +kernel
theorem dL_law_348 : decode cL_law 348 = .ok (.iconst 1, 1) := by decide +kernel
theorem dL_law_349 : decode cL_law 349 = .ok (.iadd, 1) := by decide +kernel
theorem dL_law_350 : decode cL_law 350 = .ok (.iaload, 1) := by decide +kernel
theorem dL_law_351 : decode cL_law 351 = .ok (.invokevirtual 51, 3) := by decide +kernel
theorem dL_law_354 : decode cL_law 354 = .ok (.if_icmp .eq 516, 3) := by decide +kernel
theorem dL_law_357 : decode cL_law 357 = .ok (.iconst 0, 1) := by decide +kernel
theorem dL_law_358 : decode cL_law 358 = .ok (.ireturn, 1) := by decide +kernel
theorem dL_law_359 : decode cL_law 359 = .ok (.aload_n 1, 1) := by decide +kernel
theorem dL_law_360 : decode cL_law 360 = .ok (.aload_n 0, 1) := by decide +kernel
theorem dL_law_361 : decode cL_law 361 = .ok (.iload_n 3, 1) := by decide +kernel
theorem dL_law_362 : decode cL_law 362 = .ok (.iconst 1, 1) := by decide +kernel
theorem dL_law_363 : decode cL_law 363 = .ok (.iadd, 1) := by decide +kernel
theorem dL_law_364 : decode cL_law 364 = .ok (.iaload, 1) := by decide +kernel
theorem dL_law_365 : decode cL_law 365 = .ok (.invokevirtual 52, 3) := by decide +kernel
theorem dL_law_368 : decode cL_law 368 = .ok (.aload_n 2, 1) := by decide +kernel
theorem dL_law_369 : decode cL_law 369 = .ok (.aload_n 0, 1) := by decide +kernel
theorem dL_law_370 : decode cL_law 370 = .ok (.iload_n 3, 1) := by decide +kernel
theorem dL_law_371 : decode cL_law 371 = .ok (.iconst 1, 1) := by decide +kernel
theorem dL_law_372 : decode cL_law 372 = .ok (.iadd, 1) := by decide +kernel
theorem dL_law_373 : decode cL_law 373 = .ok (.iaload, 1) := by decide +kernel
theorem dL_law_374 : decode cL_law 374 = .ok (.invokevirtual 55, 3) := by decide +kernel
theorem dL_law_377 : decode cL_law 377 = .ok (.if_icmp .eq 493, 3) := by decide +kernel
theorem dL_law_380 : decode cL_law 380 = .ok (.iconst 0, 1) := by decide +kernel
theorem dL_law_381 : decode cL_law 381 = .ok (.ireturn, 1) := by decide +kernel
theorem dL_law_382 : decode cL_law 382 = .ok (.aload_n 1, 1) := by decide +kernel
theorem dL_law_383 : decode cL_law 383 = .ok (.invokevirtual 56, 3) := by decide +kernel
theorem dL_law_386 : decode cL_law 386 = .ok (.aload_n 2, 1) := by decide +kernel
theorem dL_law_387 : decode cL_law 387 = .ok (.invokevirtual 59, 3) := by decide +kernel
theorem dL_law_390 : decode cL_law 390 = .ok (.if_icmp .eq 480, 3) := by decide +kernel
theorem dL_law_393 : decode cL_law 393 = .ok (.iconst 0, 1) := by decide +kernel
theorem dL_law_394 : decode cL_law 394 = .ok (.ireturn, 1) := by decide +kernel
theorem dL_law_395 : decode cL_law 395 = .ok (.aload_n 1, 1) := by decide +kernel
theorem dL_law_396 : decode cL_law 396 = .ok (.aload_n 0, 1) := by decide +kernel
theorem dL_law_397 : decode cL_law 397 = .ok (.iload_n 3, 1) := by decide +kernel
theorem dL_law_398 : decode cL_law 398 = .ok (.iconst 1, 1) := by decide +kernel
theorem dL_law_399 : decode cL_law 399 = .ok (.iadd, 1) := by decide +kernel
theorem dL_law_400 : decode cL_law 400 = .ok (.iaload, 1) := by decide +kernel
theorem dL_law_401 : decode cL_law 401 = .ok (.aload_n 0, 1) := by decide +kernel
theorem dL_law_402 : decode cL_law 402 = .ok (.iload_n 3, 1) := by decide +kernel
theorem dL_law_403 : decode cL_law 403 = .ok (.iconst 2, 1) := by decide +kernel
theorem dL_law_404 : decode cL_law 404 = .ok (.iadd, 1) := by decide +kernel
theorem dL_law_405 : decode cL_law 405 = .ok (.iaload, 1) := by decide +kernel
theorem dL_law_406 : decode cL_law 406 = .ok (.invokevirtual 60, 3) := by decide +kernel
theorem dL_law_409 : decode cL_law 409 = .ok (.aload_n 2, 1) := by decide +kernel
theorem dL_law_410 : decode cL_law 410 = .ok (.aload_n 0, 1) := by decide +kernel
theorem dL_law_411 : decode cL_law 411 = .ok (.iload_n 3, 1) := by decide +kernel
theorem dL_law_412 : decode cL_law 412 = .ok (.iconst 1, 1) := by decide +kernel
theorem dL_law_413 : decode cL_law 413 = .ok (.iadd, 1) := by decide +kernel
theorem dL_law_414 : decode cL_law 414 = .ok (.iaload, 1) := by decide +kernel
theorem dL_law_415 : decode cL_law 415 = .ok (.aload_n 0, 1) := by decide +kernel
theorem dL_law_416 : decode cL_law 416 = .ok (.iload_n 3, 1) := by decide +kernel
theorem dL_law_417 : decode cL_law 417 = .ok (.iconst 2, 1) := by decide +kernel
theorem dL_law_418 : decode cL_law 418 = .ok (.iadd, 1) := by decide +kernel
theorem dL_law_419 : decode cL_law 419 = .ok (.iaload, 1) := by decide +kernel
theorem dL_law_420 : decode cL_law 420 = .ok (.invokevirtual 63, 3) := by decide +kernel
theorem dL_law_423 : decode cL_law 423 = .ok (.if_icmp .eq 447, 3) := by decide +kernel
theorem dL_law_426 : decode cL_law 426 = .ok (.iconst 0, 1) := by decide +kernel
theorem dL_law_427 : decode cL_law 427 = .ok (.ireturn, 1) := by decide +kernel
theorem dL_law_428 : decode cL_law 428 = .ok (.aload_n 1, 1) := by decide +kernel
theorem dL_law_429 : decode cL_law 429 = .ok (.aload_n 0, 1) := by decide +kernel
theorem dL_law_430 : decode cL_law 430 = .ok (.iload_n 3, 1) := by decide +kernel
theorem dL_law_431 : decode cL_law 431 = .ok (.iconst 1, 1) := by decide +kernel
theorem dL_law_432 : decode cL_law 432 = .ok (.iadd, 1) := by decide +kernel
theorem dL_law_433 : decode cL_law 433 = .ok (.iaload, 1) := by decide +kernel
theorem dL_law_434 : decode cL_law 434 = .ok (.invokevirtual 64, 3) := by decide +kernel
theorem dL_law_437 : decode cL_law 437 = .ok (.aload_n 2, 1) := by decide +kernel
theorem dL_law_438 : decode cL_law 438 = .ok (.aload_n 0, 1) := by decide +kernel
theorem dL_law_439 : decode cL_law 439 = .ok (.iload_n 3, 1) := by decide +kernel
theorem dL_law_440 : decode cL_law 440 = .ok (.iconst 1, 1) := by decide +kernel
theorem dL_law_441 : decode cL_law 441 = .ok (.iadd, 1) := by decide +kernel
theorem dL_law_442 : decode cL_law 442 = .ok (.iaload, 1) := by decide +kernel
theorem dL_law_443 : decode cL_law 443 = .ok (.invokevirtual 67, 3) := by decide +kernel
theorem dL_law_446 : decode cL_law 446 = .ok (.if_icmp .eq 424, 3) := by decide +kernel
theorem dL_law_449 : decode cL_law 449 = .ok (.iconst 0, 1) := by decide +kernel
theorem dL_law_450 : decode cL_law 450 = .ok (.ireturn, 1) := by decide +kernel
theorem dL_law_451 : decode cL_law 451 = .ok (.aload_n 1, 1) := by decide +kernel
theorem dL_law_452 : decode cL_law 452 = .ok (.aload_n 0, 1) := by decide +kernel
theorem dL_law_453 : decode cL_law 453 = .ok (.iload_n 3, 1) := by decide +kernel
theorem dL_law_454 : decode cL_law 454 = .ok (.iconst 1, 1) := by decide +kernel
theorem dL_law_455 : decode cL_law 455 = .ok (.iadd, 1) := by decide +kernel
theorem dL_law_456 : decode cL_law 456 = .ok (.iaload, 1) := by decide +kernel
theorem dL_law_457 : decode cL_law 457 = .ok (.aload_n 0, 1) := by decide +kernel
theorem dL_law_458 : decode cL_law 458 = .ok (.iload_n 3, 1) := by decide +kernel
theorem dL_law_459 : decode cL_law 459 = .ok (.iconst 2, 1) := by decide +kernel
theorem dL_law_460 : decode cL_law 460 = .ok (.iadd, 1) := by decide +kernel
theorem dL_law_461 : decode cL_law 461 = .ok (.iaload, 1) := by decide +kernel
theorem dL_law_462 : decode cL_law 462 = .ok (.aload_n 0, 1) := by decide +kernel
theorem dL_law_463 : decode cL_law 463 = .ok (.iload_n 3, 1) := by decide +kernel
theorem dL_law_464 : decode cL_law 464 = .ok (.iconst 3, 1) := by decide +kernel
theorem dL_law_465 : decode cL_law 465 = .ok (.iadd, 1) := by decide +kernel
theorem dL_law_466 : decode cL_law 466 = .ok (.iaload, 1) := by decide +kernel
theorem dL_law_467 : decode cL_law 467 = .ok (.invokevirtual 68, 3) := by decide +kernel
theorem dL_law_470 : decode cL_law 470 = .ok (.aload_n 2, 1) := by decide +kernel
theorem dL_law_471 : decode cL_law 471 = .ok (.aload_n 0, 1) := by decide +kernel
theorem dL_law_472 : decode cL_law 472 = .ok (.iload_n 3, 1) := by decide +kernel
theorem dL_law_473 : decode cL_law 473 = .ok (.iconst 1, 1) := by decide +kernel
theorem dL_law_474 : decode cL_law 474 = .ok (.iadd, 1) := by decide +kernel
theorem dL_law_475 : decode cL_law 475 = .ok (.iaload, 1) := by decide +kernel
theorem dL_law_476 : decode cL_law 476 = .ok (.aload_n 0, 1) := by decide +kernel
theorem dL_law_477 : decode cL_law 477 = .ok (.iload_n 3, 1) := by decide +kernel
theorem dL_law_478 : decode cL_law 478 = .ok (.iconst 2, 1) := by decide +kernel
theorem dL_law_479 : decode cL_law 479 = .ok (.iadd, 1) := by decide +kernel
theorem dL_law_480 : decode cL_law 480 = .ok (.iaload, 1) := by decide +kernel
theorem dL_law_481 : decode cL_law 481 = .ok (.aload_n 0, 1) := by decide +kernel
theorem dL_law_482 : decode cL_law 482 = .ok (.iload_n 3, 1) := by decide +kernel
theorem dL_law_483 : decode cL_law 483 = .ok (.iconst 3, 1) := by decide +kernel
theorem dL_law_484 : decode cL_law 484 = .ok (.iadd, 1) := by decide +kernel
theorem dL_law_485 : decode cL_law 485 = .ok (.iaload, 1) := by decide +kernel
theorem dL_law_486 : decode cL_law 486 = .ok (.invokevirtual 72, 3) := by decide +kernel
theorem dL_law_489 : decode cL_law 489 = .ok (.if_icmp .eq 381, 3) := by decide +kernel
theorem dL_law_492 : decode cL_law 492 = .ok (.iconst 0, 1) := by decide +kernel
theorem dL_law_493 : decode cL_law 493 = .ok (.ireturn, 1) := by decide +kernel
theorem dL_law_494 : decode cL_law 494 = .ok (.aload_n 1, 1) := by decide +kernel
theorem dL_law_495 : decode cL_law 495 = .ok (.aload_n 0, 1) := by decide +kernel
theorem dL_law_496 : decode cL_law 496 = .ok (.iload_n 3, 1) := by decide +kernel
theorem dL_law_497 : decode cL_law 497 = .ok (.iconst 1, 1) := by decide +kernel
theorem dL_law_498 : decode cL_law 498 = .ok (.iadd, 1) := by decide +kernel
theorem dL_law_499 : decode cL_law 499 = .ok (.iaload, 1) := by decide +kernel
theorem dL_law_500 : decode cL_law 500 = .ok (.aload_n 0, 1) := by decide +kernel
theorem dL_law_501 : decode cL_law 501 = .ok (.iload_n 3, 1) := by decide +kernel
theorem dL_law_502 : decode cL_law 502 = .ok (.iconst 2, 1) := by decide +kernel
theorem dL_law_503 : decode cL_law 503 = .ok (.iadd, 1) := by decide +kernel
theorem dL_law_504 : decode cL_law 504 = .ok (.iaload, 1) := by decide +kernel
theorem dL_law_505 : decode cL_law 505 = .ok (.aload_n 0, 1) := by decide +kernel
theorem dL_law_506 : decode cL_law 506 = .ok (.iload_n 3, 1) := by decide +kernel
theorem dL_law_507 : decode cL_law 507 = .ok (.iconst 3, 1) := by decide +kernel
theorem dL_law_508 : decode cL_law 508 = .ok (.iadd, 1) := by decide +kernel
theorem dL_law_509 : decode cL_law 509 = .ok (.iaload, 1) := by decide +kernel
theorem dL_law_510 : decode cL_law 510 = .ok (.invokevirtual 73, 3) := by decide +kernel
theorem dL_law_513 : decode cL_law 513 = .ok (.aload_n 2, 1) := by decide +kernel
theorem dL_law_514 : decode cL_law 514 = .ok (.aload_n 0, 1) := by decide +kernel
theorem dL_law_515 : decode cL_law 515 = .ok (.iload_n 3, 1) := by decide +kernel
theorem dL_law_516 : decode cL_law 516 = .ok (.iconst 1, 1) := by decide +kernel
theorem dL_law_517 : decode cL_law 517 = .ok (.iadd, 1) := by decide +kernel
theorem dL_law_518 : decode cL_law 518 = .ok (.iaload, 1) := by decide +kernel
theorem dL_law_519 : decode cL_law 519 = .ok (.aload_n 0, 1) := by decide +kernel
theorem dL_law_520 : decode cL_law 520 = .ok (.iload_n 3, 1) := by decide +kernel
theorem dL_law_521 : decode cL_law 521 = .ok (.iconst 2, 1) := by decide +kernel
theorem dL_law_522 : decode cL_law 522 = .ok (.iadd, 1) := by decide +kernel
theorem dL_law_523 : decode cL_law 523 = .ok (.iaload, 1) := by decide +kernel
theorem dL_law_524 : decode cL_law 524 = .ok (.aload_n 0, 1) := by decide +kernel
theorem dL_law_525 : decode cL_law 525 = .ok (.iload_n 3, 1) := by decide +kernel
theorem dL_law_526 : decode cL_law 526 = .ok (.iconst 3, 1) := by decide +kernel
theorem dL_law_527 : decode cL_law 527 = .ok (.iadd, 1) := by decide +kernel
theorem dL_law_528 : decode cL_law 528 = .ok (.iaload, 1) := by decide +kernel
theorem dL_law_529 : decode cL_law 529 = .ok (.invokevirtual 76, 3) := by decide +kernel
theorem dL_law_532 : decode cL_law 532 = .ok (.if_icmp .eq 338, 3) := by decide +kernel
theorem dL_law_535 : decode cL_law 535 = .ok (.iconst 0, 1) := by decide +kernel
theorem dL_law_536 : decode cL_law 536 = .ok (.ireturn, 1) := by decide +kernel
theorem dL_law_537 : decode cL_law 537 = .ok (.aload_n 1, 1) := by decide +kernel
theorem dL_law_538 : decode cL_law 538 = .ok (.aload_n 0, 1) := by decide +kernel
theorem dL_law_539 : decode cL_law 539 = .ok (.iload_n 3, 1) := by decide +kernel
theorem dL_law_540 : decode cL_law 540 = .ok (.iconst 1, 1) := by decide +kernel
theorem dL_law_541 : decode cL_law 541 = .ok (.iadd, 1) := by decide +kernel
theorem dL_law_542 : decode cL_law 542 = .ok (.iaload, 1) := by decide +kernel
theorem dL_law_543 : decode cL_law 543 = .ok (.invokevirtual 77, 3) := by decide +kernel
theorem dL_law_546 : decode cL_law 546 = .ok (.aload_n 2, 1) := by decide +kernel
theorem dL_law_547 : decode cL_law 547 = .ok (.aload_n 0, 1) := by decide +kernel
theorem dL_law_548 : decode cL_law 548 = .ok (.iload_n 3, 1) := by decide +kernel
theorem dL_law_549 : decode cL_law 549 = .ok (.iconst 1, 1) := by decide +kernel
theorem dL_law_550 : decode cL_law 550 = .ok (.iadd, 1) := by decide +kernel
theorem dL_law_551 : decode cL_law 551 = .ok (.iaload, 1) := by decide +kernel
theorem dL_law_552 : decode cL_law 552 = .ok (.invokevirtual 80, 3) := by decide +kernel
theorem dL_law_555 : decode cL_law 555 = .ok (.if_icmp .eq 315, 3) := by decide +kernel
theorem dL_law_558 : decode cL_law 558 = .ok (.iconst 0, 1) := by decide +kernel
theorem dL_law_559 : decode cL_law 559 = .ok (.ireturn, 1) := by decide +kernel
theorem dL_law_560 : decode cL_law 560 = .ok (.aload_n 1, 1) := by decide +kernel
theorem dL_law_561 : decode cL_law 561 = .ok (.aload_n 0, 1) := by decide +kernel
theorem dL_law_562 : decode cL_law 562 = .ok (.iload_n 3, 1) := by decide +kernel
theorem dL_law_563 : decode cL_law 563 = .ok (.iconst 1, 1) := by decide +kernel
theorem dL_law_564 : decode cL_law 564 = .ok (.iadd, 1) := by decide +kernel
theorem dL_law_565 : decode cL_law 565 = .ok (.iaload, 1) := by decide +kernel
theorem dL_law_566 : decode cL_law 566 = .ok (.aload_n 0, 1) := by decide +kernel
theorem dL_law_567 : decode cL_law 567 = .ok (.iload_n 3, 1) := by decide +kernel
theorem dL_law_568 : decode cL_law 568 = .ok (.iconst 2, 1) := by decide +kernel
theorem dL_law_569 : decode cL_law 569 = .ok (.iadd, 1) := by decide +kernel
theorem dL_law_570 : decode cL_law 570 = .ok (.iaload, 1) := by decide +kernel
theorem dL_law_571 : decode cL_law 571 = .ok (.invokevirtual 81, 3) := by decide +kernel
theorem dL_law_574 : decode cL_law 574 = .ok (.aload_n 2, 1) := by decide +kernel
theorem dL_law_575 : decode cL_law 575 = .ok (.aload_n 0, 1) := by decide +kernel
theorem dL_law_576 : decode cL_law 576 = .ok (.iload_n 3, 1) := by decide +kernel
theorem dL_law_577 : decode cL_law 577 = .ok (.iconst 1, 1) := by decide +kernel
theorem dL_law_578 : decode cL_law 578 = .ok (.iadd, 1) := by decide +kernel
theorem dL_law_579 : decode cL_law 579 = .ok (.iaload, 1) := by decide +kernel
theorem dL_law_580 : decode cL_law 580 = .ok (.aload_n 0, 1) := by decide +kernel
theorem dL_law_581 : decode cL_law 581 = .ok (.iload_n 3, 1) := by decide +kernel
theorem dL_law_582 : decode cL_law 582 = .ok (.iconst 2, 1) := by decide +kernel
theorem dL_law_583 : decode cL_law 583 = .ok (.iadd, 1) := by decide +kernel
theorem dL_law_584 : decode cL_law 584 = .ok (.iaload, 1) := by decide +kernel
theorem dL_law_585 : decode cL_law 585 = .ok (.invokevirtual 84, 3) := by decide +kernel
theorem dL_law_588 : decode cL_law 588 = .ok (.if_icmp .eq 282, 3) := by decide +kernel
theorem dL_law_591 : decode cL_law 591 = .ok (.iconst 0, 1) := by decide +kernel
theorem dL_law_592 : decode cL_law 592 = .ok (.ireturn, 1) := by decide +kernel
theorem dL_law_593 : decode cL_law 593 = .ok (.aload_n 1, 1) := by decide +kernel
theorem dL_law_594 : decode cL_law 594 = .ok (.aload_n 0, 1) := by decide +kernel
theorem dL_law_595 : decode cL_law 595 = .ok (.iload_n 3, 1) := by decide +kernel
theorem dL_law_596 : decode cL_law 596 = .ok (.iconst 1, 1) := by decide +kernel
theorem dL_law_597 : decode cL_law 597 = .ok (.iadd, 1) := by decide +kernel
theorem dL_law_598 : decode cL_law 598 = .ok (.iaload, 1) := by decide +kernel
theorem dL_law_599 : decode cL_law 599 = .ok (.aload_n 0, 1) := by decide +kernel
theorem dL_law_600 : decode cL_law 600 = .ok (.iload_n 3, 1) := by decide +kernel
theorem dL_law_601 : decode cL_law 601 = .ok (.iconst 2, 1) := by decide +kernel
theorem dL_law_602 : decode cL_law 602 = .ok (.iadd, 1) := by decide +kernel
theorem dL_law_603 : decode cL_law 603 = .ok (.iaload, 1) := by decide +kernel
theorem dL_law_604 : decode cL_law 604 = .ok (.invokevirtual 85, 3) := by decide +kernel
theorem dL_law_607 : decode cL_law 607 = .ok (.aload_n 2, 1) := by decide +kernel
theorem dL_law_608 : decode cL_law 608 = .ok (.aload_n 0, 1) := by decide +kernel
theorem dL_law_609 : decode cL_law 609 = .ok (.iload_n 3, 1) := by decide +kernel
theorem dL_law_610 : decode cL_law 610 = .ok (.iconst 1, 1) := by decide +kernel
theorem dL_law_611 : decode cL_law 611 = .ok (.iadd, 1) := by decide +kernel
theorem dL_law_612 : decode cL_law 612 = .ok (.iaload, 1) := by decide +kernel
theorem dL_law_613 : decode cL_law 613 = .ok (.aload_n 0, 1) := by decide +kernel
theorem dL_law_614 : decode cL_law 614 = .ok (.iload_n 3, 1) := by decide +kernel
theorem dL_law_615 : decode cL_law 615 = .ok (.iconst 2, 1) := by decide +kernel
theorem dL_law_616 : decode cL_law 616 = .ok (.iadd, 1) := by decide +kernel
theorem dL_law_617 : decode cL_law 617 = .ok (.iaload, 1) := by decide +kernel
theorem dL_law_618 : decode cL_law 618 = .ok (.invokevirtual 88, 3) := by decide +kernel
theorem dL_law_621 : decode cL_law 621 = .ok (.if_icmp .eq 249, 3) := by decide +kernel
theorem dL_law_624 : decode cL_law 624 = .ok (.iconst 0, 1) := by decide +kernel
theorem dL_law_625 : decode cL_law 625 = .ok (.ireturn, 1) := by decide +kernel
theorem dL_law_626 : decode cL_law 626 = .ok (.aload_n 1, 1) := by decide +kernel
theorem dL_law_627 : decode cL_law 627 = .ok (.invokevirtual 89, 3) := by decide +kernel
theorem dL_law_630 : decode cL_law 630 = .ok (.aload_n 2, 1) := by decide +kernel
theorem dL_law_631 : decode cL_law 631 = .ok (.invokevirtual 92, 3) := by decide +kernel
theorem dL_law_634 : decode cL_law 634 = .ok (.if_icmp .eq 236, 3) := by decide +kernel
theorem dL_law_637 : decode cL_law 637 = .ok (.iconst 0, 1) := by decide +kernel
theorem dL_law_638 : decode cL_law 638 = .ok (.ireturn, 1) := by decide +kernel
theorem dL_law_639 : decode cL_law 639 = .ok (.aload_n 1, 1) := by decide +kernel
theorem dL_law_640 : decode cL_law 640 = .ok (.aload_n 0, 1) := by decide +kernel
theorem dL_law_641 : decode cL_law 641 = .ok (.iload_n 3, 1) := by decide +kernel
theorem dL_law_642 : decode cL_law 642 = .ok (.iconst 1, 1) := by decide +kernel
theorem dL_law_643 : decode cL_law 643 = .ok (.iadd, 1) := by decide +kernel
theorem dL_law_644 : decode cL_law 644 = .ok (.iaload, 1) := by decide +kernel
theorem dL_law_645 : decode cL_law 645 = .ok (.aload_n 0, 1) := by decide +kernel
theorem dL_law_646 : decode cL_law 646 = .ok (.iload_n 3, 1) := by decide +kernel
theorem dL_law_647 : decode cL_law 647 = .ok (.iconst 2, 1) := by decide +kernel
theorem dL_law_648 : decode cL_law 648 = .ok (.iadd, 1) := by decide +kernel
theorem dL_law_649 : decode cL_law 649 = .ok (.iaload, 1) := by decide +kernel
theorem dL_law_650 : decode cL_law 650 = .ok (.invokevirtual 93, 3) := by decide +kernel
theorem dL_law_653 : decode cL_law 653 = .ok (.aload_n 2, 1) := by decide +kernel
theorem dL_law_654 : decode cL_law 654 = .ok (.aload_n 0, 1) := by decide +kernel
theorem dL_law_655 : decode cL_law 655 = .ok (.iload_n 3, 1) := by decide +kernel
theorem dL_law_656 : decode cL_law 656 = .ok (.iconst 1, 1) := by decide +kernel
theorem dL_law_657 : decode cL_law 657 = .ok (.iadd, 1) := by decide +kernel
theorem dL_law_658 : decode cL_law 658 = .ok (.iaload, 1) := by decide +kernel
theorem dL_law_659 : decode cL_law 659 = .ok (.aload_n 0, 1) := by decide +kernel
theorem dL_law_660 : decode cL_law 660 = .ok (.iload_n 3, 1) := by decide +kernel
theorem dL_law_661 : decode cL_law 661 = .ok (.iconst 2, 1) := by decide +kernel
theorem dL_law_662 : decode cL_law 662 = .ok (.iadd, 1) := by decide +kernel
theorem dL_law_663 : decode cL_law 663 = .ok (.iaload, 1) := by decide +kernel
theorem dL_law_664 : decode cL_law 664 = .ok (.invokevirtual 96, 3) := by decide +kernel
theorem dL_law_667 : decode cL_law 667 = .ok (.if_icmp .eq 203, 3) := by decide +kernel
theorem dL_law_670 : decode cL_law 670 = .ok (.iconst 0, 1) := by decide +kernel
theorem dL_law_671 : decode cL_law 671 = .ok (.ireturn, 1) := by decide +kernel
theorem dL_law_672 : decode cL_law 672 = .ok (.aload_n 1, 1) := by decide +kernel
theorem dL_law_673 : decode cL_law 673 = .ok (.aload_n 0, 1) := by decide +kernel
theorem dL_law_674 : decode cL_law 674 = .ok (.iload_n 3, 1) := by decide +kernel
theorem dL_law_675 : decode cL_law 675 = .ok (.iconst 1, 1) := by decide +kernel
theorem dL_law_676 : decode cL_law 676 = .ok (.iadd, 1) := by decide +kernel
theorem dL_law_677 : decode cL_law 677 = .ok (.iaload, 1) := by decide +kernel
theorem dL_law_678 : decode cL_law 678 = .ok (.aload_n 0, 1) := by decide +kernel
theorem dL_law_679 : decode cL_law 679 = .ok (.iload_n 3, 1) := by decide +kernel
theorem dL_law_680 : decode cL_law 680 = .ok (.iconst 2, 1) := by decide +kernel
theorem dL_law_681 : decode cL_law 681 = .ok (.iadd, 1) := by decide +kernel
theorem dL_law_682 : decode cL_law 682 = .ok (.iaload, 1) := by decide +kernel
theorem dL_law_683 : decode cL_law 683 = .ok (.aload_n 0, 1) := by decide +kernel
theorem dL_law_684 : decode cL_law 684 = .ok (.iload_n 3, 1) := by decide +kernel
theorem dL_law_685 : decode cL_law 685 = .ok (.iconst 3, 1) := by decide +kernel
theorem dL_law_686 : decode cL_law 686 = .ok (.iadd, 1) := by decide +kernel
theorem dL_law_687 : decode cL_law 687 = .ok (.iaload, 1) := by decide +kernel
theorem dL_law_688 : decode cL_law 688 = .ok (.invokevirtual 97, 3) := by decide +kernel
theorem dL_law_691 : decode cL_law 691 = .ok (.aload_n 2, 1) := by decide +kernel
theorem dL_law_692 : decode cL_law 692 = .ok (.aload_n 0, 1) := by decide +kernel
theorem dL_law_693 : decode cL_law 693 = .ok (.iload_n 3, 1) := by decide +kernel
theorem dL_law_694 : decode cL_law 694 = .ok (.iconst 1, 1) := by decide +kernel
theorem dL_law_695 : decode cL_law 695 = .ok (.iadd, 1) := by decide +kernel
theorem dL_law_696 : decode cL_law 696 = .ok (.iaload, 1) := by decide +kernel
theorem dL_law_697 : decode cL_law 697 = .ok (.aload_n 0, 1) := by decide +kernel
theorem dL_law_698 : decode cL_law 698 = .ok (.iload_n 3, 1) := by decide +kernel
theorem dL_law_699 : decode cL_law 699 = .ok (.iconst 2, 1) := by decide +kernel
theorem dL_law_700 : decode cL_law 700 = .ok (.iadd, 1) := by decide +kernel
theorem dL_law_701 : decode cL_law 701 = .ok (.iaload, 1) := by decide +kernel
theorem dL_law_702 : decode cL_law 702 = .ok (.aload_n 0, 1) := by decide +kernel
theorem dL_law_703 : decode cL_law 703 = .ok (.iload_n 3, 1) := by decide +kernel
theorem dL_law_704 : decode cL_law 704 = .ok (.iconst 3, 1) := by decide +kernel
theorem dL_law_705 : decode cL_law 705 = .ok (.iadd, 1) := by decide +kernel
theorem dL_law_706 : decode cL_law 706 = .ok (.iaload, 1) := by decide +kernel
theorem dL_law_707 : decode cL_law 707 = .ok (.invokevirtual 100, 3) := by decide +kernel
theorem dL_law_710 : decode cL_law 710 = .ok (.if_icmp .eq 160, 3) := by decide +kernel
theorem dL_law_713 : decode cL_law 713 = .ok (.iconst 0, 1) := by decide +kernel
theorem dL_law_714 : decode cL_law 714 = .ok (.ireturn, 1) := by decide +kernel
theorem dL_law_715 : decode cL_law 715 = .ok (.aload_n 1, 1) := by decide +kernel
theorem dL_law_716 : decode cL_law 716 = .ok (.aload_n 0, 1) := by decide +kernel
theorem dL_law_717 : decode cL_law 717 = .ok (.iload_n 3, 1) := by decide +kernel
theorem dL_law_718 : decode cL_law 718 = .ok (.iconst 1, 1) := by decide +kernel
theorem dL_law_719 : decode cL_law 719 = .ok (.iadd, 1) := by decide +kernel
theorem dL_law_720 : decode cL_law 720 = .ok (.iaload, 1) := by decide +kernel
theorem dL_law_721 : decode cL_law 721 = .ok (.aload_n 0, 1) := by decide +kernel
theorem dL_law_722 : decode cL_law 722 = .ok (.iload_n 3, 1) := by decide +kernel
theorem dL_law_723 : decode cL_law 723 = .ok (.iconst 2, 1) := by decide +kernel
theorem dL_law_724 : decode cL_law 724 = .ok (.iadd, 1) := by decide +kernel
theorem dL_law_725 : decode cL_law 725 = .ok (.iaload, 1) := by decide +kernel
theorem dL_law_726 : decode cL_law 726 = .ok (.aload_n 0, 1) := by decide +kernel
theorem dL_law_727 : decode cL_law 727 = .ok (.iload_n 3, 1) := by decide +kernel
theorem dL_law_728 : decode cL_law 728 = .ok (.iconst 3, 1) := by decide +kernel
theorem dL_law_729 : decode cL_law 729 = .ok (.iadd, 1) := by decide +kernel
theorem dL_law_730 : decode cL_law 730 = .ok (.iaload, 1) := by decide +kernel
theorem dL_law_731 : decode cL_law 731 = .ok (.aload_n 0, 1) := by decide +kernel
theorem dL_law_732 : decode cL_law 732 = .ok (.iload_n 3, 1) := by decide +kernel
theorem dL_law_733 : decode cL_law 733 = .ok (.iconst 4, 1) := by decide +kernel
theorem dL_law_734 : decode cL_law 734 = .ok (.iadd, 1) := by decide +kernel
theorem dL_law_735 : decode cL_law 735 = .ok (.iaload, 1) := by decide +kernel
theorem dL_law_736 : decode cL_law 736 = .ok (.aload_n 0, 1) := by decide +kernel
theorem dL_law_737 : decode cL_law 737 = .ok (.iload_n 3, 1) := by decide +kernel
theorem dL_law_738 : decode cL_law 738 = .ok (.iconst 5, 1) := by decide +kernel
theorem dL_law_739 : decode cL_law 739 = .ok (.iadd, 1) := by decide +kernel
theorem dL_law_740 : decode cL_law 740 = .ok (.iaload, 1) := by decide +kernel
theorem dL_law_741 : decode cL_law 741 = .ok (.invokevirtual 101, 3) := by decide +kernel
theorem dL_law_744 : decode cL_law 744 = .ok (.aload_n 2, 1) := by decide +kernel
theorem dL_law_745 : decode cL_law 745 = .ok (.aload_n 0, 1) := by decide +kernel
theorem dL_law_746 : decode cL_law 746 = .ok (.iload_n 3, 1) := by decide +kernel
theorem dL_law_747 : decode cL_law 747 = .ok (.iconst 1, 1) := by decide +kernel
theorem dL_law_748 : decode cL_law 748 = .ok (.iadd, 1) := by decide +kernel
theorem dL_law_749 : decode cL_law 749 = .ok (.iaload, 1) := by decide +kernel
theorem dL_law_750 : decode cL_law 750 = .ok (.aload_n 0, 1) := by decide +kernel
theorem dL_law_751 : decode cL_law 751 = .ok (.iload_n 3, 1) := by decide +kernel
theorem dL_law_752 : decode cL_law 752 = .ok (.iconst 2, 1) := by decide +kernel
theorem dL_law_753 : decode cL_law 753 = .ok (.iadd, 1) := by decide +kernel
theorem dL_law_754 : decode cL_law 754 = .ok (.iaload, 1) := by decide +kernel
theorem dL_law_755 : decode cL_law 755 = .ok (.aload_n 0, 1) := by decide +kernel
theorem dL_law_756 : decode cL_law 756 = .ok (.iload_n 3, 1) := by decide +kernel
theorem dL_law_757 : decode cL_law 757 = .ok (.iconst 3, 1) := by decide +kernel
theorem dL_law_758 : decode cL_law 758 = .ok (.iadd, 1) := by decide +kernel
theorem dL_law_759 : decode cL_law 759 = .ok (.iaload, 1) := by decide +kernel
theorem dL_law_760 : decode cL_law 760 = .ok (.aload_n 0, 1) := by decide +kernel
theorem dL_law_761 : decode cL_law 761 = .ok (.iload_n 3, 1) := by decide +kernel
theorem dL_law_762 : decode cL_law 762 = .ok (.iconst 4, 1) := by decide +kernel
theorem dL_law_763 : decode cL_law 763 = .ok (.iadd, 1) := by decide +kernel
theorem dL_law_764 : decode cL_law 764 = .ok (.iaload, 1) := by decide +kernel
theorem dL_law_765 : decode cL_law 765 = .ok (.aload_n 0, 1) := by decide +kernel
theorem dL_law_766 : decode cL_law 766 = .ok (.iload_n 3, 1) := by decide +kernel
theorem dL_law_767 : decode cL_law 767 = .ok (.iconst 5, 1) := by decide +kernel
theorem dL_law_768 : decode cL_law 768 = .ok (.iadd, 1) := by decide +kernel
theorem dL_law_769 : decode cL_law 769 = .ok (.iaload, 1) := by decide +kernel
theorem dL_law_770 : decode cL_law 770 = .ok (.invokevirtual 105, 3) := by decide +kernel
theorem dL_law_773 : decode cL_law 773 = .ok (.if_icmp .eq 97, 3) := by decide +kernel
theorem dL_law_776 : decode cL_law 776 = .ok (.iconst 0, 1) := by decide +kernel
theorem dL_law_777 : decode cL_law 777 = .ok (.ireturn, 1) := by decide +kernel
theorem dL_law_778 : decode cL_law 778 = .ok (.aload_n 1, 1) := by decide +kernel
theorem dL_law_779 : decode cL_law 779 = .ok (.aload_n 0, 1) := by decide +kernel
theorem dL_law_780 : decode cL_law 780 = .ok (.iload_n 3, 1) := by decide +kernel
theorem dL_law_781 : decode cL_law 781 = .ok (.iconst 1, 1) := by decide +kernel
theorem dL_law_782 : decode cL_law 782 = .ok (.iadd, 1) := by decide +kernel
theorem dL_law_783 : decode cL_law 783 = .ok (.iaload, 1) := by decide +kernel
theorem dL_law_784 : decode cL_law 784 = .ok (.aload_n 0, 1) := by decide +kernel
theorem dL_law_785 : decode cL_law 785 = .ok (.iload_n 3, 1) := by decide +kernel
theorem dL_law_786 : decode cL_law 786 = .ok (.iconst 2, 1) := by decide +kernel
theorem dL_law_787 : decode cL_law 787 = .ok (.iadd, 1) := by decide +kernel
theorem dL_law_788 : decode cL_law 788 = .ok (.iaload, 1) := by decide +kernel
theorem dL_law_789 : decode cL_law 789 = .ok (.aload_n 0, 1) := by decide +kernel
theorem dL_law_790 : decode cL_law 790 = .ok (.iload_n 3, 1) := by decide +kernel
theorem dL_law_791 : decode cL_law 791 = .ok (.iconst 3, 1) := by decide +kernel
theorem dL_law_792 : decode cL_law 792 = .ok (.iadd, 1) := by decide +kernel
theorem dL_law_793 : decode cL_law 793 = .ok (.iaload, 1) := by decide +kernel
theorem dL_law_794 : decode cL_law 794 = .ok (.invokevirtual 106, 3) := by decide +kernel
theorem dL_law_797 : decode cL_law 797 = .ok (.aload_n 2, 1) := by decide +kernel
theorem dL_law_798 : decode cL_law 798 = .ok (.aload_n 0, 1) := by decide +kernel
theorem dL_law_799 : decode cL_law 799 = .ok (.iload_n 3, 1) := by decide +kernel
theorem dL_law_800 : decode cL_law 800 = .ok (.iconst 1, 1) := by decide +kernel
theorem dL_law_801 : decode cL_law 801 = .ok (.iadd, 1) := by decide +kernel
theorem dL_law_802 : decode cL_law 802 = .ok (.iaload, 1) := by decide +kernel
theorem dL_law_803 : decode cL_law 803 = .ok (.aload_n 0, 1) := by decide +kernel
theorem dL_law_804 : decode cL_law 804 = .ok (.iload_n 3, 1) := by decide +kernel
theorem dL_law_805 : decode cL_law 805 = .ok (.iconst 2, 1) := by decide +kernel
theorem dL_law_806 : decode cL_law 806 = .ok (.iadd, 1) := by decide +kernel
theorem dL_law_807 : decode cL_law 807 = .ok (.iaload, 1) := by decide +kernel
theorem dL_law_808 : decode cL_law 808 = .ok (.aload_n 0, 1) := by decide +kernel
theorem dL_law_809 : decode cL_law 809 = .ok (.iload_n 3, 1) := by decide +kernel
theorem dL_law_810 : decode cL_law 810 = .ok (.iconst 3, 1) := by decide +kernel
theorem dL_law_811 : decode cL_law 811 = .ok (.iadd, 1) := by decide +kernel
theorem dL_law_812 : decode cL_law 812 = .ok (.iaload, 1) := by decide +kernel
theorem dL_law_813 : decode cL_law 813 = .ok (.invokevirtual 109, 3) := by decide +kernel
theorem dL_law_816 : decode cL_law 816 = .ok (.if_icmp .eq 54, 3) := by decide +kernel
theorem dL_law_819 : decode cL_law 819 = .ok (.iconst 0, 1) := by decide +kernel
theorem dL_law_820 : decode cL_law 820 = .ok (.ireturn, 1) := by decide +kernel
theorem dL_law_821 : decode cL_law 821 = .ok (.aload_n 1, 1) := by decide +kernel
theorem dL_law_822 : decode cL_law 822 = .ok (.invokevirtual 110, 3) := by decide +kernel
theorem dL_law_825 : decode cL_law 825 = .ok (.aload_n 2, 1) := by decide +kernel
theorem dL_law_826 : decode cL_law 826 = .ok (.invokevirtual 113, 3) := by decide +kernel
theorem dL_law_829 : decode cL_law 829 = .ok (.if_icmp .eq 41, 3) := by decide +kernel
theorem dL_law_832 : decode cL_law 832 = .ok (.iconst 0, 1) := by decide +kernel
theorem dL_law_833 : decode cL_law 833 = .ok (.ireturn, 1) := by decide +kernel
theorem dL_law_834 : decode cL_law 834 = .ok (.aload_n 1, 1) := by decide +kernel
theorem dL_law_835 : decode cL_law 835 = .ok (.invokevirtual 114, 3) := by decide +kernel
theorem dL_law_838 : decode cL_law 838 = .ok (.aload_n 2, 1) := by decide +kernel
theorem dL_law_839 : decode cL_law 839 = .ok (.invokevirtual 117, 3) := by decide +kernel
theorem dL_law_842 : decode cL_law 842 = .ok (.if_icmp .eq 28, 3) := by decide +kernel
theorem dL_law_845 : decode cL_law 845 = .ok (.iconst 0, 1) := by decide +kernel
theorem dL_law_846 : decode cL_law 846 = .ok (.ireturn, 1) := by decide +kernel
theorem dL_law_847 : decode cL_law 847 = .ok (.aload_n 1, 1) := by decide +kernel
theorem dL_law_848 : decode cL_law 848 = .ok (.aload_n 0, 1) := by decide +kernel
theorem dL_law_849 : decode cL_law 849 = .ok (.iload_n 3, 1) := by decide +kernel
theorem dL_law_850 : decode cL_law 850 = .ok (.iconst 1, 1) := by decide +kernel
theorem dL_law_851 : decode cL_law 851 = .ok (.iadd, 1) := by decide +kernel
theorem dL_law_852 : decode cL_law 852 = .ok (.iaload, 1) := by decide +kernel
theorem dL_law_853 : decode cL_law 853 = .ok (.invokevirtual 118, 3) := by decide +kernel
theorem dL_law_856 : decode cL_law 856 = .ok (.aload_n 2, 1) := by decide +kernel
theorem dL_law_857 : decode cL_law 857 = .ok (.aload_n 0, 1) := by decide +kernel
theorem dL_law_858 : decode cL_law 858 = .ok (.iload_n 3, 1) := by decide +kernel
theorem dL_law_859 : decode cL_law 859 = .ok (.iconst 1, 1) := by decide +kernel
theorem dL_law_860 : decode cL_law 860 = .ok (.iadd, 1) := by decide +kernel
theorem dL_law_861 : decode cL_law 861 = .ok (.iaload, 1) := by decide +kernel
theorem dL_law_862 : decode cL_law 862 = .ok (.invokevirtual 121, 3) := by decide +kernel
theorem dL_law_865 : decode cL_law 865 = .ok (.if_icmp .eq 5, 3) := by decide +kernel
theorem dL_law_868 : decode cL_law 868 = .ok (.iconst 0, 1) := by decide +kernel
theorem dL_law_869 : decode cL_law 869 = .ok (.ireturn, 1) := by decide +kernel
theorem dL_law_870 : decode cL_law 870 = .ok (.iinc 3 6, 3) := by decide +kernel
theorem dL_law_873 : decode cL_law 873 = .ok (.goto (-855), 3) := by decide +kernel
theorem dL_law_876 : decode cL_law 876 = .ok (.iconst 1, 1) := by decide +kernel
theorem dL_law_877 : decode cL_law 877 = .ok (.ireturn, 1) := by decide +kernel
