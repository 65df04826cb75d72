theorem dX11_init_1 : decode cX11_init 1 = .ok (.invokespecial 3, 3) := by decide +kernel
theorem dX11_init_4 : decode cX11_init 4 = .ok (.aload_n 0, 1) := by decide +kernel
theorem dX11_init_5 : decode cX11_init 5 = .ok (.new 9, 3) := by decide +kernel
theorem dX11_init_8 : decode cX11_init 8 = .ok (.dup, 1) := by decide +kernel
theorem dX11_init_9 : decode cX11_init 9 = .ok (.invokespecial 11, 3) := by decide +kernel
theorem dX11_init_12 : decode cX11_init 12 = .ok (.putfield 12, 3) := by decide +kernel
theorem dX11_init_15 : decode cX11_init 15 = .ok (.aload_n 0, 1) := by decide +kernel
theorem dX11_init_16 : decode cX11_init 16 = .ok (.new 16, 3) := by decide +kernel
theorem dX11_init_19 : decode cX11_init 19 = .ok (.dup, 1) := by decide +kernel
theorem dX11_init_20 : decode cX11_init 20 = .ok (.invokespecial 18, 3) := by decide +kernel
theorem dX11_init_23 : decode cX11_init 23 = .ok (.putfield 19, 3) := by decide +kernel
theorem dX11_init_26 : decode cX11_init 26 = .ok (.aload_n 0, 1) := by decide +kernel
theorem dX11_init_27 : decode cX11_init 27 = .ok (.new 23, 3) := by decide +kernel
theorem dX11_init_30 : decode cX11_init 30 = .ok (.dup, 1) := by decide +kernel
theorem dX11_init_31 : decode cX11_init 31 = .ok (.invokespecial 25, 3) := by decide +kernel
theorem dX11_init_34 : decode cX11_init 34 = .ok (.putfield 26, 3) := by decide +kernel
theorem dX11_init_37 : decode cX11_init 37 = .ok (.aload_n 0, 1) := by decide +kernel
theorem dX11_init_38 : decode cX11_init 38 = .ok (.new 30, 3) := by decide +kernel
theorem dX11_init_41 : decode cX11_init 41 = .ok (.dup, 1) := by decide +kernel
theorem dX11_init_42 : decode cX11_init 42 = .ok (.invokespecial 32, 3) := by decide +kernel
theorem dX11_init_45 : decode cX11_init 45 = .ok (.putfield 33, 3) := by decide +kernel
theorem dX11_init_48 : decode cX11_init 48 = .ok (.aload_n 0, 1) := by decide +kernel
theorem dX11_init_49 : decode cX11_init 49 = .ok (.new 30, 3) := by decide +kernel
theorem dX11_init_52 : decode cX11_init 52 = .ok (.dup, 1) := by decide +kernel
theorem dX11_init_53 : decode cX11_init 53 = .ok (.invokespecial 32, 3) := by decide +kernel
theorem dX11_init_56 : decode cX11_init 56 = .ok (.putfield 37, 3) := by decide +kernel
theorem dX11_init_59 : decode cX11_init 59 = .ok (.aload_n 0, 1) := by decide +kernel
theorem dX11_init_60 : decode cX11_init 60 = .ok (.new 40, 3) := by decide +kernel
theorem dX11_init_63 : decode cX11_init 63 = .ok (.dup, 1) := by decide +kernel
theorem dX11_init_64 : decode cX11_init 64 = .ok (.new 42, 3) := by decide +kernel
theorem dX11_init_67 : decode cX11_init 67 = .ok (.dup, 1) := by decide +kernel
theorem dX11_init_68 : decode cX11_init 68 = .ok (.aload_n 0, 1) := by decide +kernel
theorem dX11_init_69 : decode cX11_init 69 = .ok (.getfield 26, 3) := by decide +kernel
theorem dX11_init_72 : decode cX11_init 72 = .ok (.invokespecial 44, 3) := by decide +kernel
theorem dX11_init_75 : decode cX11_init 75 = .ok (.aload_n 0, 1) := by decide +kernel
theorem dX11_init_76 : decode cX11_init 76 = .ok (.getfield 33, 3) := by decide +kernel
theorem dX11_init_79 : decode cX11_init 79 = .ok (.invokespecial 47, 3) := by decide +kernel
theorem dX11_init_82 : decode cX11_init 82 = .ok (.putfield 50, 3) := by decide +kernel
theorem dX11_init_85 : decode cX11_init 85 = .ok (.aload_n 0, 1) := by decide +kernel
theorem dX11_init_86 : decode cX11_init 86 = .ok (.new 54, 3) := by decide +kernel
theorem dX11_init_89 : decode cX11_init 89 = .ok (.dup, 1) := by decide +kernel
theorem dX11_init_90 : decode cX11_init 90 = .ok (.aload_n 0, 1) := by decide +kernel
theorem dX11_init_91 : decode cX11_init 91 = .ok (.getfield 12, 3) := by decide +kernel
theorem dX11_init_94 : decode cX11_init 94 = .ok (.aload_n 0, 1) := by decide +kernel
theorem dX11_init_95 : decode cX11_init 95 = .ok (.getfield 19, 3) := by decide +kernel
theorem dX11_init_98 : decode cX11_init 98 = .ok (.aload_n 0, 1) := by decide +kernel
theorem dX11_init_99 : decode cX11_init 99 = .ok (.getfield 37, 3) := by decide +kernel
theorem dX11_init_102 : decode cX11_init 102 = .ok (.invokespecial 56, 3) := by decide +kernel
theorem dX11_init_105 : decode cX11_init 105 = .ok (.putfield 59, 3) := by decide +kernel
theorem dX11_init_108 : decode cX11_init 108 = .ok (.aload_n 0, 1) := by decide +kernel
theorem dX11_init_109 : decode cX11_init 109 = .ok (.new 63, 3) := by decide +kernel
theorem dX11_init_112 : decode cX11_init 112 = .ok (.dup, 1) := by decide +kernel
theorem dX11_init_113 : decode cX11_init 113 = .ok (.aload_n 0, 1) := by decide +kernel
theorem dX11_init_114 : decode cX11_init 114 = .ok (.getfield 12, 3) := by decide +kernel
theorem dX11_init_117 : decode cX11_init 117 = .ok (.aload_n 0, 1) := by decide +kernel
theorem dX11_init_118 : decode cX11_init 118 = .ok (.getfield 19, 3) := by decide +kernel
theorem dX11_init_121 : decode cX11_init 121 = .ok (.aload_n 0, 1) := by decide +kernel
theorem dX11_init_122 : decode cX11_init 122 = .ok (.getfield 59, 3) := by decide +kernel
theorem dX11_init_125 : decode cX11_init 125 = .ok (.invokespecial 65, 3) := by decide +kernel
theorem dX11_init_128 : decode cX11_init 128 = .ok (.putfield 68, 3) := by decide +kernel
theorem dX11_init_131 : decode cX11_init 131 = .ok (.aload_n 0, 1) := by decide +kernel
theorem dX11_init_132 : decode cX11_init 132 = .ok (.iconst 4, 1) := by decide +kernel
theorem dX11_init_133 : decode cX11_init 133 = .ok (.anewarray 72, 3) := by decide +kernel
theorem dX11_init_136 : decode cX11_init 136 = .ok (.putfield 74, 3) := by decide +kernel
theorem dX11_init_139 : decode cX11_init 139 = .ok (.iconst 0, 1) := by decide +kernel
theorem dX11_init_140 : decode cX11_init 140 = .ok (.istore_n 1, 1) := by decide +kernel
theorem dX11_init_141 : decode cX11_init 141 = .ok (.iload_n 1, 1) := by decide +kernel
theorem dX11_init_142 : decode cX11_init 142 = .ok (.iconst 4, 1) := by decide +kernel
theorem dX11_init_143 : decode cX11_init 143 = .ok (.if_icmp .ge 22, 3) := by decide +kernel
theorem dX11_init_146 : decode cX11_init 146 = .ok (.aload_n 0, 1) := by decide +kernel
theorem dX11_init_147 : decode cX11_init 147 = .ok (.getfield 74, 3) := by decide +kernel
theorem dX11_init_150 : decode cX11_init 150 = .ok (.iload_n 1, 1) := by decide +kernel
theorem dX11_init_151 : decode cX11_init 151 = .ok (.new 72, 3) := by decide +kernel
theorem dX11_init_154 : decode cX11_init 154 = .ok (.dup, 1) := by decide +kernel
theorem dX11_init_155 : decode cX11_init 155 = .ok (.invokespecial 78, 3) := by decide +kernel
theorem dX11_init_158 : decode cX11_init 158 = .ok (.aastore, 1) := by decide +kernel
theorem dX11_init_159 : decode cX11_init 159 = .ok (.iinc 1 1, 3) := by decide +kernel
theorem dX11_init_162 : decode cX11_init 162 = .ok (.goto (-21), 3) := by decide +kernel
theorem dX11_init_165 : decode cX11_init 165 = .ok (.aload_n 0, 1) := by decide +kernel
theorem dX11_init_166 : decode cX11_init 166 = .ok (.bipush 8, 2) := by decide +kernel
theorem dX11_init_168 : decode cX11_init 168 = .ok (.newarray .int, 2) := by decide +kernel
theorem dX11_init_170 : decode cX11_init 170 = .ok (.putfield 79, 3) := by decide +kernel
theorem dX11_init_173 : decode cX11_init 173 = .ok (.aload_n 0, 1) := by decide +kernel
theorem dX11_init_174 : decode cX11_init 174 = .ok (.new 83, 3) := by decide +kernel
theorem dX11_init_177 : decode cX11_init 177 = .ok (.dup, 1) := by decide +kernel
theorem dX11_init_178 : decode cX11_init 178 = .ok (.invokespecial 85, 3) := by decide +kernel
theorem dX11_init_181 : decode cX11_init 181 = .ok (.putfield 86, 3) := by decide +kernel
theorem dX11_init_184 : decode cX11_init 184 = .ok (.aload_n 0, 1) := by decide +kernel
theorem dX11_init_185 : decode cX11_init 185 = .ok (.new 90, 3) := by decide +kernel
theorem dX11_init_188 : decode cX11_init 188 = .ok (.dup, 1) := by decide +kernel
theorem dX11_init_189 : decode cX11_init 189 = .ok (.invokespecial 92, 3) := by decide +kernel
theorem dX11_init_192 : decode cX11_init 192 = .ok (.putfield 93, 3) := by decide +kernel
theorem dX11_init_195 : decode cX11_init 195 = .ok (.aload_n 0, 1) := by decide +kernel
theorem dX11_init_196 : decode cX11_init 196 = .ok (.iconst 0, 1) := by decide +kernel
theorem dX11_init_197 : decode cX11_init 197 = .ok (.putfield 97, 3) := by decide +kernel
theorem dX11_init_200 : decode cX11_init 200 = .ok (.return_, 1) := by decide +kernel
theorem dX11_horse_0 : decode cX11_horse 0 = .ok (.iload_n 1, 1) := by decide +kernel
theorem dX11_horse_1 : decode cX11_horse 1 = .ok (.iconst 3, 1) := by decide +kernel
theorem dX11_horse_2 : decode cX11_horse 2 = .ok (.invokestatic 101, 3) := by decide +kernel
theorem dX11_horse_5 : decode cX11_horse 5 = .ok (.ifCond .eq 12, 3) := by decide +kernel
theorem dX11_horse_8 : decode cX11_horse 8 = .ok (.iload_n 2, 1) := by decide +kernel
theorem dX11_horse_9 : decode cX11_horse 9 = .ok (.bipush 40, 2) := by decide +kernel
theorem dX11_horse_11 : decode cX11_horse 11 = .ok (.invokestatic 101, 3) := by decide +kernel
theorem dX11_horse_14 : decode cX11_horse 14 = .ok (.ifCond .ne 5, 3) := by decide +kernel
theorem dX11_horse_17 : decode cX11_horse 17 = .ok (.iconst (-1), 1) := by decide +kernel
theorem dX11_horse_18 : decode cX11_horse 18 = .ok (.ireturn, 1) := by decide +kernel
theorem dX11_horse_19 : decode cX11_horse 19 = .ok (.aload_n 0, 1) := by decide +kernel
theorem dX11_horse_20 : decode cX11_horse 20 = .ok (.getfield 12, 3) := by decide +kernel
theorem dX11_horse_23 : decode cX11_horse 23 = .ok (.iload_n 1, 1) := by decide +kernel
theorem dX11_horse_24 : decode cX11_horse 24 = .ok (.iload_n 2, 1) := by decide +kernel
theorem dX11_horse_25 : decode cX11_horse 25 = .ok (.aload_n 0, 1) := by decide +kernel
theorem dX11_horse_26 : decode cX11_horse 26 = .ok (.getfield 97, 3) := by decide +kernel
theorem dX11_horse_29 : decode cX11_horse 29 = .ok (.invokevirtual 105, 3) := by decide +kernel
theorem dX11_horse_32 : decode cX11_horse 32 = .ok (.istore_n 3, 1) := by decide +kernel
theorem dX11_horse_33 : decode cX11_horse 33 = .ok (.iload_n 3, 1) := by decide +kernel
theorem dX11_horse_34 : decode cX11_horse 34 = .ok (.iconst (-1), 1) := by decide +kernel
theorem dX11_horse_35 : decode cX11_horse 35 = .ok (.if_icmp .ne 5, 3) := by decide +kernel
theorem dX11_horse_38 : decode cX11_horse 38 = .ok (.iconst (-1), 1) := by decide +kernel
theorem dX11_horse_39 : decode cX11_horse 39 = .ok (.ireturn, 1) := by decide +kernel
theorem dX11_horse_40 : decode cX11_horse 40 = .ok (.aload_n 0, 1) := by decide +kernel
theorem dX11_horse_41 : decode cX11_horse 41 = .ok (.getfield 68, 3) := by decide +kernel
theorem dX11_horse_44 : decode cX11_horse 44 = .ok (.invokevirtual 109, 3) := by decide +kernel
theorem dX11_horse_47 : decode cX11_horse 47 = .ok (.aload_n 0, 1) := by decide +kernel
theorem dX11_horse_48 : decode cX11_horse 48 = .ok (.getfield 93, 3) := by decide +kernel
theorem dX11_horse_51 : decode cX11_horse 51 = .ok (.iload_n 3, 1) := by decide +kernel
theorem dX11_horse_52 : decode cX11_horse 52 = .ok (.aload_n 0, 1) := by decide +kernel
theorem dX11_horse_53 : decode cX11_horse 53 = .ok (.getfield 97, 3) := by decide +kernel
theorem dX11_horse_56 : decode cX11_horse 56 = .ok (.invokevirtual 112, 3) := by decide +kernel
theorem dX11_horse_59 : decode cX11_horse 59 = .ok (.iload_n 3, 1) := by decide +kernel
theorem dX11_horse_60 : decode cX11_horse 60 = .ok (.ireturn, 1) := by decide +kernel
theorem dX11_lame_0 : decode cX11_lame 0 = .ok (.aload_n 0, 1) := by decide +kernel
theorem dX11_lame_1 : decode cX11_lame 1 = .ok (.getfield 12, 3) := by decide +kernel
theorem dX11_lame_4 : decode cX11_lame 4 = .ok (.iload_n 1, 1) := by decide +kernel
theorem dX11_lame_5 : decode cX11_lame 5 = .ok (.invokevirtual 116, 3) := by decide +kernel
theorem dX11_lame_8 : decode cX11_lame 8 = .ok (.ifCond .ne 5, 3) := by decide +kernel
theorem dX11_lame_11 : decode cX11_lame 11 = .ok (.iconst 0, 1) := by decide +kernel
theorem dX11_lame_12 : decode cX11_lame 12 = .ok (.ireturn, 1) := by decide +kernel
theorem dX11_lame_13 : decode cX11_lame 13 = .ok (.aload_n 0, 1) := by decide +kernel
theorem dX11_lame_14 : decode cX11_lame 14 = .ok (.getfield 68, 3) := by decide +kernel
theorem dX11_lame_17 : decode cX11_lame 17 = .ok (.invokevirtual 109, 3) := by decide +kernel
theorem dX11_lame_20 : decode cX11_lame 20 = .ok (.aload_n 0, 1) := by decide +kernel
theorem dX11_lame_21 : decode cX11_lame 21 = .ok (.getfield 12, 3) := by decide +kernel
theorem dX11_lame_24 : decode cX11_lame 24 = .ok (.iload_n 1, 1) := by decide +kernel
theorem dX11_lame_25 : decode cX11_lame 25 = .ok (.iload_n 2, 1) := by decide +kernel
theorem dX11_lame_26 : decode cX11_lame 26 = .ok (.invokevirtual 120, 3) := by decide +kernel
theorem dX11_lame_29 : decode cX11_lame 29 = .ok (.iconst 1, 1) := by decide +kernel
theorem dX11_lame_30 : decode cX11_lame 30 = .ok (.ireturn, 1) := by decide +kernel
theorem dX11_field_0 : decode cX11_field 0 = .ok (.iload_n 1, 1) := by decide +kernel
theorem dX11_field_1 : decode cX11_field 1 = .ok (.invokestatic 124, 3) := by decide +kernel
theorem dX11_field_4 : decode cX11_field 4 = .ok (.ifCond .eq 21, 3) := by decide +kernel
theorem dX11_field_7 : decode cX11_field 7 = .ok (.iload_n 2, 1) := by decide +kernel
theorem dX11_field_8 : decode cX11_field 8 = .ok (.bipush 6, 2) := by decide +kernel
theorem dX11_field_10 : decode cX11_field 10 = .ok (.invokestatic 101, 3) := by decide +kernel
theorem dX11_field_13 : decode cX11_field 13 = .ok (.ifCond .eq 12, 3) := by decide +kernel
theorem dX11_field_16 : decode cX11_field 16 = .ok (.iload_n 3, 1) := by decide +kernel
theorem dX11_field_17 : decode cX11_field 17 = .ok (.bipush 9, 2) := by decide +kernel
theorem dX11_field_19 : decode cX11_field 19 = .ok (.invokestatic 101, 3) := by decide +kernel
theorem dX11_field_22 : decode cX11_field 22 = .ok (.ifCond .ne 5, 3) := by decide +kernel
theorem dX11_field_25 : decode cX11_field 25 = .ok (.iconst 0, 1) := by decide +kernel
theorem dX11_field_26 : decode cX11_field 26 = .ok (.ireturn, 1) := by decide +kernel
theorem dX11_field_27 : decode cX11_field 27 = .ok (.aload_n 0, 1) := by decide +kernel
theorem dX11_field_28 : decode cX11_field 28 = .ok (.getfield 68, 3) := by decide +kernel
theorem dX11_field_31 : decode cX11_field 31 = .ok (.invokevirtual 109, 3) := by decide +kernel
theorem dX11_field_34 : decode cX11_field 34 = .ok (.aload_n 0, 1) := by decide +kernel
theorem dX11_field_35 : decode cX11_field 35 = .ok (.getfield 19, 3) := by decide +kernel
theorem dX11_field_38 : decode cX11_field 38 = .ok (.iload_n 1, 1) := by decide +kernel
theorem dX11_field_39 : decode cX11_field 39 = .ok (.iload_n 2, 1) := by decide +kernel
theorem dX11_field_40 : decode cX11_field 40 = .ok (.iload_n 3, 1) := by decide +kernel
theorem dX11_field_41 : decode cX11_field 41 = .ok (.invokevirtual 127, 3) := by decide +kernel
theorem dX11_field_44 : decode cX11_field 44 = .ok (.iconst 1, 1) := by decide +kernel
theorem dX11_field_45 : decode cX11_field 45 = .ok (.ireturn, 1) := by decide +kernel
theorem dX11_shut_0 : decode cX11_shut 0 = .ok (.iload_n 1, 1) := by decide +kernel
theorem dX11_shut_1 : decode cX11_shut 1 = .ok (.invokestatic 124, 3) := by decide +kernel
theorem dX11_shut_4 : decode cX11_shut 4 = .ok (.ifCond .eq 12, 3) := by decide +kernel
theorem dX11_shut_7 : decode cX11_shut 7 = .ok (.iload_n 2, 1) := by decide +kernel
theorem dX11_shut_8 : decode cX11_shut 8 = .ok (.ldc 131, 2) := by decide +kernel
theorem dX11_shut_10 : decode cX11_shut 10 = .ok (.invokestatic 101, 3) := by decide +kernel
theorem dX11_shut_13 : decode cX11_shut 13 = .ok (.ifCond .ne 5, 3) := by decide +kernel
theorem dX11_shut_16 : decode cX11_shut 16 = .ok (.iconst 0, 1) := by decide +kernel
theorem dX11_shut_17 : decode cX11_shut 17 = .ok (.ireturn, 1) := by decide +kernel
theorem dX11_shut_18 : decode cX11_shut 18 = .ok (.aload_n 0, 1) := by decide +kernel
theorem dX11_shut_19 : decode cX11_shut 19 = .ok (.getfield 68, 3) := by decide +kernel
theorem dX11_shut_22 : decode cX11_shut 22 = .ok (.invokevirtual 109, 3) := by decide +kernel
theorem dX11_shut_25 : decode cX11_shut 25 = .ok (.aload_n 0, 1) := by decide +kernel
theorem dX11_shut_26 : decode cX11_shut 26 = .ok (.getfield 19, 3) := by decide +kernel
theorem dX11_shut_29 : decode cX11_shut 29 = .ok (.iload_n 1, 1) := by decide +kernel
theorem dX11_shut_30 : decode cX11_shut 30 = .ok (.iload_n 2, 1) := by decide +kernel
theorem dX11_shut_31 : decode cX11_shut 31 = .ok (.invokevirtual 132, 3) := by decide +kernel
theorem dX11_shut_34 : decode cX11_shut 34 = .ok (.iconst 1, 1) := by decide +kernel
theorem dX11_shut_35 : decode cX11_shut 35 = .ok (.ireturn, 1) := by decide +kernel
theorem dX11_gate_0 : decode cX11_gate 0 = .ok (.iload_n 1, 1) := by decide +kernel
theorem dX11_gate_1 : decode cX11_gate 1 = .ok (.invokestatic 124, 3) := by decide +kernel
theorem dX11_gate_4 : decode cX11_gate 4 = .ok (.ifCond .eq 15, 3) := by decide +kernel
theorem dX11_gate_7 : decode cX11_gate 7 = .ok (.iload_n 2, 1) := by decide +kernel
theorem dX11_gate_8 : decode cX11_gate 8 = .ok (.invokestatic 124, 3) := by decide +kernel
theorem dX11_gate_11 : decode cX11_gate 11 = .ok (.ifCond .eq 8, 3) := by decide +kernel
theorem dX11_gate_14 : decode cX11_gate 14 = .ok (.iload_n 1, 1) := by decide +kernel
theorem dX11_gate_15 : decode cX11_gate 15 = .ok (.iload_n 2, 1) := by decide +kernel
theorem dX11_gate_16 : decode cX11_gate 16 = .ok (.if_icmp .ne 5, 3) := by decide +kernel
theorem dX11_gate_19 : decode cX11_gate 19 = .ok (.iconst 0, 1) := by decide +kernel
theorem dX11_gate_20 : decode cX11_gate 20 = .ok (.ireturn, 1) := by decide +kernel
theorem dX11_gate_21 : decode cX11_gate 21 = .ok (.aload_n 0, 1) := by decide +kernel
theorem dX11_gate_22 : decode cX11_gate 22 = .ok (.getfield 68, 3) := by decide +kernel
theorem dX11_gate_25 : decode cX11_gate 25 = .ok (.invokevirtual 109, 3) := by decide +kernel
theorem dX11_gate_28 : decode cX11_gate 28 = .ok (.aload_n 0, 1) := by decide +kernel
theorem dX11_gate_29 : decode cX11_gate 29 = .ok (.getfield 19, 3) := by decide +kernel
theorem dX11_gate_32 : decode cX11_gate 32 = .ok (.iload_n 1, 1) := by decide +kernel
theorem dX11_gate_33 : decode cX11_gate 33 = .ok (.iload_n 2, 1) := by decide +kernel
theorem dX11_gate_34 : decode cX11_gate 34 = .ok (.iload_n 3, 1) := by decide +kernel
theorem dX11_gate_35 : decode cX11_gate 35 = .ok (.invokevirtual 135, 3) := by decide +kernel
theorem dX11_gate_38 : decode cX11_gate 38 = .ok (.iconst 1, 1) := by decide +kernel
theorem dX11_gate_39 : decode cX11_gate 39 = .ok (.ireturn, 1) := by decide +kernel
theorem dX11_feed_0 : decode cX11_feed 0 = .ok (.aload_n 0, 1) := by decide +kernel
theorem dX11_feed_1 : decode cX11_feed 1 = .ok (.getfield 26, 3) := by decide +kernel
theorem dX11_feed_4 : decode cX11_feed 4 = .ok (.invokevirtual 139, 3) := by decide +kernel
theorem dX11_feed_7 : decode cX11_feed 7 = .ok (.bipush 20, 2) := by decide +kernel
theorem dX11_feed_9 : decode cX11_feed 9 = .ok (.iadd, 1) := by decide +kernel
theorem dX11_feed_10 : decode cX11_feed 10 = .ok (.sipush 1000, 3) := by decide +kernel
theorem dX11_feed_13 : decode cX11_feed 13 = .ok (.if_icmp .le 5, 3) := by decide +kernel
theorem dX11_feed_16 : decode cX11_feed 16 = .ok (.iconst (-1), 1) := by decide +kernel
theorem dX11_feed_17 : decode cX11_feed 17 = .ok (.ireturn, 1) := by decide +kernel
theorem dX11_feed_18 : decode cX11_feed 18 = .ok (.aload_n 0, 1) := by decide +kernel
theorem dX11_feed_19 : decode cX11_feed 19 = .ok (.getfield 26, 3) := by decide +kernel
theorem dX11_feed_22 : decode cX11_feed 22 = .ok (.iload_n 1, 1) := by decide +kernel
theorem dX11_feed_23 : decode cX11_feed 23 = .ok (.invokevirtual 143, 3) := by decide +kernel
theorem dX11_feed_26 : decode cX11_feed 26 = .ok (.aload_n 0, 1) := by decide +kernel
theorem dX11_feed_27 : decode cX11_feed 27 = .ok (.getfield 26, 3) := by decide +kernel
theorem dX11_feed_30 : decode cX11_feed 30 = .ok (.iload_n 2, 1) := by decide +kernel
theorem dX11_feed_31 : decode cX11_feed 31 = .ok (.invokevirtual 143, 3) := by decide +kernel
theorem dX11_feed_34 : decode cX11_feed 34 = .ok (.aload_n 0, 1) := by decide +kernel
theorem dX11_feed_35 : decode cX11_feed 35 = .ok (.getfield 26, 3) := by decide +kernel
theorem dX11_feed_38 : decode cX11_feed 38 = .ok (.iload_n 3, 1) := by decide +kernel
theorem dX11_feed_39 : decode cX11_feed 39 = .ok (.invokevirtual 143, 3) := by decide +kernel
theorem dX11_feed_42 : decode cX11_feed 42 = .ok (.aload_n 0, 1) := by decide +kernel
theorem dX11_feed_43 : decode cX11_feed 43 = .ok (.getfield 26, 3) := by decide +kernel
theorem dX11_feed_46 : decode cX11_feed 46 = .ok (.iload 4, 2) := by decide +kernel
theorem dX11_feed_48 : decode cX11_feed 48 = .ok (.invokevirtual 143, 3) := by decide +kernel
theorem dX11_feed_51 : decode cX11_feed 51 = .ok (.aload_n 0, 1) := by decide +kernel
theorem dX11_feed_52 : decode cX11_feed 52 = .ok (.getfield 26, 3) := by decide +kernel
theorem dX11_feed_55 : decode cX11_feed 55 = .ok (.iload 5, 2) := by decide +kernel
theorem dX11_feed_57 : decode cX11_feed 57 = .ok (.invokevirtual 143, 3) := by decide +kernel
theorem dX11_feed_60 : decode cX11_feed 60 = .ok (.aload_n 0, 1) := by decide +kernel
theorem dX11_feed_61 : decode cX11_feed 61 = .ok (.getfield 26, 3) := by decide +kernel
theorem dX11_feed_64 : decode cX11_feed 64 = .ok (.invokevirtual 139, 3) := by decide +kernel
theorem dX11_feed_67 : decode cX11_feed 67 = .ok (.ireturn, 1) := by decide +kernel
theorem dX11_end_0 : decode cX11_end 0 = .ok (.iload_n 1, 1) := by decide +kernel
theorem dX11_end_1 : decode cX11_end 1 = .ok (.aload_n 0, 1) := by decide +kernel
theorem dX11_end_2 : decode cX11_end 2 = .ok (.getfield 26, 3) := by decide +kernel
theorem dX11_end_5 : decode cX11_end 5 = .ok (.invokevirtual 139, 3) := by decide +kernel
theorem dX11_end_8 : decode cX11_end 8 = .ok (.invokestatic 101, 3) := by decide +kernel
theorem dX11_end_11 : decode cX11_end 11 = .ok (.ifCond .ne 5, 3) := by decide +kernel
theorem dX11_end_14 : decode cX11_end 14 = .ok (.iconst (-1), 1) := by decide +kernel
theorem dX11_end_15 : decode cX11_end 15 = .ok (.ireturn, 1) := by decide +kernel
theorem dX11_end_16 : decode cX11_end 16 = .ok (.aload_n 0, 1) := by decide +kernel
theorem dX11_end_17 : decode cX11_end 17 = .ok (.getfield 26, 3) := by decide +kernel
theorem dX11_end_20 : decode cX11_end 20 = .ok (.iload_n 1, 1) := by decide +kernel
theorem dX11_end_21 : decode cX11_end 21 = .ok (.invokevirtual 147, 3) := by decide +kernel
theorem dX11_end_24 : decode cX11_end 24 = .ok (.iload_n 1, 1) := by decide +kernel
theorem dX11_end_25 : decode cX11_end 25 = .ok (.ireturn, 1) := by decide +kernel
theorem dX11_rules_0 : decode cX11_rules 0 = .ok (.aload_n 0, 1) := by decide +kernel
theorem dX11_rules_1 : decode cX11_rules 1 = .ok (.getfield 50, 3) := by decide +kernel
theorem dX11_rules_4 : decode cX11_rules 4 = .ok (.invokevirtual 150, 3) := by decide +kernel
theorem dX11_rules_7 : decode cX11_rules 7 = .ok (.istore_n 1, 1) := by decide +kernel
theorem dX11_rules_8 : decode cX11_rules 8 = .ok (.aload_n 0, 1) := by decide +kernel
theorem dX11_rules_9 : decode cX11_rules 9 = .ok (.getfield 26, 3) := by decide +kernel
theorem dX11_rules_12 : decode cX11_rules 12 = .ok (.iconst 0, 1) := by decide +kernel
theorem dX11_rules_13 : decode cX11_rules 13 = .ok (.invokevirtual 147, 3) := by decide +kernel
theorem dX11_rules_16 : decode cX11_rules 16 = .ok (.iload_n 1, 1) := by decide +kernel
theorem dX11_rules_17 : decode cX11_rules 17 = .ok (.ifCond .ne 5, 3) := by decide +kernel
theorem dX11_rules_20 : decode cX11_rules 20 = .ok (.iconst (-1), 1) := by decide +kernel
theorem dX11_rules_21 : decode cX11_rules 21 = .ok (.ireturn, 1) := by decide +kernel
theorem dX11_rules_22 : decode cX11_rules 22 = .ok (.aload_n 0, 1) := by decide +kernel
theorem dX11_rules_23 : decode cX11_rules 23 = .ok (.getfield 68, 3) := by decide +kernel
theorem dX11_rules_26 : decode cX11_rules 26 = .ok (.invokevirtual 109, 3) := by decide +kernel
theorem dX11_rules_29 : decode cX11_rules 29 = .ok (.aload_n 0, 1) := by decide +kernel
theorem dX11_rules_30 : decode cX11_rules 30 = .ok (.getfield 37, 3) := by decide +kernel
theorem dX11_rules_33 : decode cX11_rules 33 = .ok (.aload_n 0, 1) := by decide +kernel
theorem dX11_rules_34 : decode cX11_rules 34 = .ok (.getfield 33, 3) := by decide +kernel
theorem dX11_rules_37 : decode cX11_rules 37 = .ok (.invokevirtual 154, 3) := by decide +kernel
theorem dX11_rules_40 : decode cX11_rules 40 = .ok (.aload_n 0, 1) := by decide +kernel
theorem dX11_rules_41 : decode cX11_rules 41 = .ok (.getfield 37, 3) := by decide +kernel
theorem dX11_rules_44 : decode cX11_rules 44 = .ok (.invokevirtual 158, 3) := by decide +kernel
theorem dX11_rules_47 : decode cX11_rules 47 = .ok (.ireturn, 1) := by decide +kernel
theorem dX11_fault_0 : decode cX11_fault 0 = .ok (.iload_n 1, 1) := by decide +kernel
theorem dX11_fault_1 : decode cX11_fault 1 = .ok (.lookupswitch 43 #[(0, 27), (1, 35)], 27) := by decide +kernel
theorem dX11_fault_28 : decode cX11_fault 28 = .ok (.aload_n 0, 1) := by decide +kernel
theorem dX11_fault_29 : decode cX11_fault 29 = .ok (.getfield 50, 3) := by decide +kernel
theorem dX11_fault_32 : decode cX11_fault 32 = .ok (.invokevirtual 161, 3) := by decide +kernel
theorem dX11_fault_35 : decode cX11_fault 35 = .ok (.ireturn, 1) := by decide +kernel
theorem dX11_fault_36 : decode cX11_fault 36 = .ok (.aload_n 0, 1) := by decide +kernel
theorem dX11_fault_37 : decode cX11_fault 37 = .ok (.getfield 50, 3) := by decide +kernel
theorem dX11_fault_40 : decode cX11_fault 40 = .ok (.invokevirtual 164, 3) := by decide +kernel
theorem dX11_fault_43 : decode cX11_fault 43 = .ok (.ireturn, 1) := by decide +kernel
theorem dX11_fault_44 : decode cX11_fault 44 = .ok (.iconst (-1), 1) := by decide +kernel
theorem dX11_fault_45 : decode cX11_fault 45 = .ok (.ireturn, 1) := by decide +kernel
theorem dX11_may_0 : decode cX11_may 0 = .ok (.aload_n 0, 1) := by decide +kernel
theorem dX11_may_1 : decode cX11_may 1 = .ok (.getfield 12, 3) := by decide +kernel
theorem dX11_may_4 : decode cX11_may 4 = .ok (.iload_n 1, 1) := by decide +kernel
theorem dX11_may_5 : decode cX11_may 5 = .ok (.invokevirtual 116, 3) := by decide +kernel
theorem dX11_may_8 : decode cX11_may 8 = .ok (.ifCond .eq 38, 3) := by decide +kernel
theorem dX11_may_11 : decode cX11_may 11 = .ok (.iload_n 2, 1) := by decide +kernel
theorem dX11_may_12 : decode cX11_may 12 = .ok (.invokestatic 124, 3) := by decide +kernel
theorem dX11_may_15 : decode cX11_may 15 = .ok (.ifCond .eq 31, 3) := by decide +kernel
theorem dX11_may_18 : decode cX11_may 18 = .ok (.iload_n 3, 1) := by decide +kernel
theorem dX11_may_19 : decode cX11_may 19 = .ok (.invokestatic 167, 3) := by decide +kernel
theorem dX11_may_22 : decode cX11_may 22 = .ok (.ifCond .eq 24, 3) := by decide +kernel
theorem dX11_may_25 : decode cX11_may 25 = .ok (.aload_n 0, 1) := by decide +kernel
theorem dX11_may_26 : decode cX11_may 26 = .ok (.getfield 59, 3) := by decide +kernel
theorem dX11_may_29 : decode cX11_may 29 = .ok (.iload_n 1, 1) := by decide +kernel
theorem dX11_may_30 : decode cX11_may 30 = .ok (.iload_n 2, 1) := by decide +kernel
theorem dX11_may_31 : decode cX11_may 31 = .ok (.iload_n 3, 1) := by decide +kernel
theorem dX11_may_32 : decode cX11_may 32 = .ok (.aload_n 0, 1) := by decide +kernel
theorem dX11_may_33 : decode cX11_may 33 = .ok (.getfield 97, 3) := by decide +kernel
theorem dX11_may_36 : decode cX11_may 36 = .ok (.invokevirtual 170, 3) := by decide +kernel
theorem dX11_may_39 : decode cX11_may 39 = .ok (.ifCond .eq 7, 3) := by decide +kernel
theorem dX11_may_42 : decode cX11_may 42 = .ok (.iconst 1, 1) := by decide +kernel
theorem dX11_may_43 : decode cX11_may 43 = .ok (.goto 4, 3) := by decide +kernel
theorem dX11_may_46 : decode cX11_may 46 = .ok (.iconst 0, 1) := by decide +kernel
theorem dX11_may_47 : decode cX11_may 47 = .ok (.ireturn, 1) := by decide +kernel
theorem dX11_meet_0 : decode cX11_meet 0 = .ok (.aload_n 0, 1) := by decide +kernel
theorem dX11_meet_1 : decode cX11_meet 1 = .ok (.getfield 12, 3) := by decide +kernel
theorem dX11_meet_4 : decode cX11_meet 4 = .ok (.iload_n 1, 1) := by decide +kernel
theorem dX11_meet_5 : decode cX11_meet 5 = .ok (.invokevirtual 116, 3) := by decide +kernel
theorem dX11_meet_8 : decode cX11_meet 8 = .ok (.ifCond .eq 19, 3) := by decide +kernel
theorem dX11_meet_11 : decode cX11_meet 11 = .ok (.aload_n 0, 1) := by decide +kernel
theorem dX11_meet_12 : decode cX11_meet 12 = .ok (.getfield 12, 3) := by decide +kernel
theorem dX11_meet_15 : decode cX11_meet 15 = .ok (.iload_n 3, 1) := by decide +kernel
theorem dX11_meet_16 : decode cX11_meet 16 = .ok (.invokevirtual 116, 3) := by decide +kernel
theorem dX11_meet_19 : decode cX11_meet 19 = .ok (.ifCond .eq 8, 3) := by decide +kernel
theorem dX11_meet_22 : decode cX11_meet 22 = .ok (.iload_n 1, 1) := by decide +kernel
theorem dX11_meet_23 : decode cX11_meet 23 = .ok (.iload_n 3, 1) := by decide +kernel
theorem dX11_meet_24 : decode cX11_meet 24 = .ok (.if_icmp .ne 5, 3) := by decide +kernel
theorem dX11_meet_27 : decode cX11_meet 27 = .ok (.iconst 0, 1) := by decide +kernel
theorem dX11_meet_28 : decode cX11_meet 28 = .ok (.ireturn, 1) := by decide +kernel
theorem dX11_meet_29 : decode cX11_meet 29 = .ok (.iload_n 2, 1) := by decide +kernel
theorem dX11_meet_30 : decode cX11_meet 30 = .ok (.invokestatic 124, 3) := by decide +kernel
theorem dX11_meet_33 : decode cX11_meet 33 = .ok (.ifCond .eq 19, 3) := by decide +kernel
theorem dX11_meet_36 : decode cX11_meet 36 = .ok (.iload 4, 2) := by decide +kernel
theorem dX11_meet_38 : decode cX11_meet 38 = .ok (.invokestatic 124, 3) := by decide +kernel
theorem dX11_meet_41 : decode cX11_meet 41 = .ok (.ifCond .eq 11, 3) := by decide +kernel
theorem dX11_meet_44 : decode cX11_meet 44 = .ok (.iload 5, 2) := by decide +kernel
theorem dX11_meet_46 : decode cX11_meet 46 = .ok (.invokestatic 167, 3) := by decide +kernel
theorem dX11_meet_49 : decode cX11_meet 49 = .ok (.ifCond .ne 5, 3) := by decide +kernel
theorem dX11_meet_52 : decode cX11_meet 52 = .ok (.iconst 0, 1) := by decide +kernel
theorem dX11_meet_53 : decode cX11_meet 53 = .ok (.ireturn, 1) := by decide +kernel
theorem dX11_meet_54 : decode cX11_meet 54 = .ok (.aload_n 0, 1) := by decide +kernel
theorem dX11_meet_55 : decode cX11_meet 55 = .ok (.getfield 59, 3) := by decide +kernel
theorem dX11_meet_58 : decode cX11_meet 58 = .ok (.iload_n 1, 1) := by decide +kernel
theorem dX11_meet_59 : decode cX11_meet 59 = .ok (.iload_n 2, 1) := by decide +kernel
theorem dX11_meet_60 : decode cX11_meet 60 = .ok (.iload_n 3, 1) := by decide +kernel
theorem dX11_meet_61 : decode cX11_meet 61 = .ok (.iload 4, 2) := by decide +kernel
theorem dX11_meet_63 : decode cX11_meet 63 = .ok (.iload 5, 2) := by decide +kernel
theorem dX11_meet_65 : decode cX11_meet 65 = .ok (.aload_n 0, 1) := by decide +kernel
theorem dX11_meet_66 : decode cX11_meet 66 = .ok (.getfield 97, 3) := by decide +kernel
theorem dX11_meet_69 : decode cX11_meet 69 = .ok (.invokevirtual 174, 3) := by decide +kernel
theorem dX11_meet_72 : decode cX11_meet 72 = .ok (.ireturn, 1) := by decide +kernel
theorem dX11_plan_0 : decode cX11_plan 0 = .ok (.aload_n 0, 1) := by decide +kernel
theorem dX11_plan_1 : decode cX11_plan 1 = .ok (.getfield 68, 3) := by decide +kernel
theorem dX11_plan_4 : decode cX11_plan 4 = .ok (.aload_n 0, 1) := by decide +kernel
theorem dX11_plan_5 : decode cX11_plan 5 = .ok (.getfield 97, 3) := by decide +kernel
theorem dX11_plan_8 : decode cX11_plan 8 = .ok (.invokevirtual 178, 3) := by decide +kernel
theorem dX11_plan_11 : decode cX11_plan 11 = .ok (.ireturn, 1) := by decide +kernel
theorem dX11_tries_0 : decode cX11_tries 0 = .ok (.aload_n 0, 1) := by decide +kernel
theorem dX11_tries_1 : decode cX11_tries 1 = .ok (.getfield 68, 3) := by decide +kernel
theorem dX11_tries_4 : decode cX11_tries 4 = .ok (.invokevirtual 182, 3) := by decide +kernel
theorem dX11_tries_7 : decode cX11_tries 7 = .ok (.ireturn, 1) := by decide +kernel
theorem dX11_out_0 : decode cX11_out 0 = .ok (.aload_n 0, 1) := by decide +kernel
theorem dX11_out_1 : decode cX11_out 1 = .ok (.getfield 12, 3) := by decide +kernel
theorem dX11_out_4 : decode cX11_out 4 = .ok (.iload_n 1, 1) := by decide +kernel
theorem dX11_out_5 : decode cX11_out 5 = .ok (.invokevirtual 116, 3) := by decide +kernel
theorem dX11_out_8 : decode cX11_out 8 = .ok (.ifCond .eq 14, 3) := by decide +kernel
theorem dX11_out_11 : decode cX11_out 11 = .ok (.aload_n 0, 1) := by decide +kernel
theorem dX11_out_12 : decode cX11_out 12 = .ok (.getfield 68, 3) := by decide +kernel
theorem dX11_out_15 : decode cX11_out 15 = .ok (.iload_n 1, 1) := by decide +kernel
theorem dX11_out_16 : decode cX11_out 16 = .ok (.invokevirtual 185, 3) := by decide +kernel
theorem dX11_out_19 : decode cX11_out 19 = .ok (.goto 4, 3) := by decide +kernel
theorem dX11_out_22 : decode cX11_out 22 = .ok (.iconst (-1), 1) := by decide +kernel
theorem dX11_out_23 : decode cX11_out 23 = .ok (.istore_n 2, 1) := by decide +kernel
theorem dX11_out_24 : decode cX11_out 24 = .ok (.iload_n 2, 1) := by decide +kernel
theorem dX11_out_25 : decode cX11_out 25 = .ok (.iconst (-1), 1) := by decide +kernel
theorem dX11_out_26 : decode cX11_out 26 = .ok (.if_icmp .ne 7, 3) := by decide +kernel
theorem dX11_out_29 : decode cX11_out 29 = .ok (.iconst (-1), 1) := by decide +kernel
theorem dX11_out_30 : decode cX11_out 30 = .ok (.goto 15, 3) := by decide +kernel
theorem dX11_out_33 : decode cX11_out 33 = .ok (.bipush 10, 2) := by decide +kernel
theorem dX11_out_35 : decode cX11_out 35 = .ok (.iload_n 2, 1) := by decide +kernel
theorem dX11_out_36 : decode cX11_out 36 = .ok (.invokestatic 188, 3) := by decide +kernel
theorem dX11_out_39 : decode cX11_out 39 = .ok (.imul, 1) := by decide +kernel
theorem dX11_out_40 : decode cX11_out 40 = .ok (.iload_n 2, 1) := by decide +kernel
theorem dX11_out_41 : decode cX11_out 41 = .ok (.invokestatic 191, 3) := by decide +kernel
theorem dX11_out_44 : decode cX11_out 44 = .ok (.iadd, 1) := by decide +kernel
theorem dX11_out_45 : decode cX11_out 45 = .ok (.ireturn, 1) := by decide +kernel
theorem dX11_stuck_0 : decode cX11_stuck 0 = .ok (.iconst 0, 1) := by decide +kernel
theorem dX11_stuck_1 : decode cX11_stuck 1 = .ok (.istore_n 1, 1) := by decide +kernel
theorem dX11_stuck_2 : decode cX11_stuck 2 = .ok (.iload_n 1, 1) := by decide +kernel
theorem dX11_stuck_3 : decode cX11_stuck 3 = .ok (.aload_n 0, 1) := by decide +kernel
theorem dX11_stuck_4 : decode cX11_stuck 4 = .ok (.getfield 12, 3) := by decide +kernel
theorem dX11_stuck_7 : decode cX11_stuck 7 = .ok (.invokevirtual 194, 3) := by decide +kernel
theorem dX11_stuck_10 : decode cX11_stuck 10 = .ok (.if_icmp .ge 30, 3) := by decide +kernel
theorem dX11_stuck_13 : decode cX11_stuck 13 = .ok (.aload_n 0, 1) := by decide +kernel
theorem dX11_stuck_14 : decode cX11_stuck 14 = .ok (.getfield 12, 3) := by decide +kernel
theorem dX11_stuck_17 : decode cX11_stuck 17 = .ok (.iload_n 1, 1) := by decide +kernel
theorem dX11_stuck_18 : decode cX11_stuck 18 = .ok (.invokevirtual 195, 3) := by decide +kernel
theorem dX11_stuck_21 : decode cX11_stuck 21 = .ok (.ifCond .ne 13, 3) := by decide +kernel
theorem dX11_stuck_24 : decode cX11_stuck 24 = .ok (.aload_n 0, 1) := by decide +kernel
theorem dX11_stuck_25 : decode cX11_stuck 25 = .ok (.iload_n 1, 1) := by decide +kernel
theorem dX11_stuck_26 : decode cX11_stuck 26 = .ok (.invokevirtual 198, 3) := by decide +kernel
theorem dX11_stuck_29 : decode cX11_stuck 29 = .ok (.ifCond .ne 5, 3) := by decide +kernel
theorem dX11_stuck_32 : decode cX11_stuck 32 = .ok (.iload_n 1, 1) := by decide +kernel
theorem dX11_stuck_33 : decode cX11_stuck 33 = .ok (.ireturn, 1) := by decide +kernel
theorem dX11_stuck_34 : decode cX11_stuck 34 = .ok (.iinc 1 1, 3) := by decide +kernel
theorem dX11_stuck_37 : decode cX11_stuck 37 = .ok (.goto (-35), 3) := by decide +kernel
theorem dX11_stuck_40 : decode cX11_stuck 40 = .ok (.iconst (-1), 1) := by decide +kernel
theorem dX11_stuck_41 : decode cX11_stuck 41 = .ok (.ireturn, 1) := by decide +kernel
theorem dX11_lot_0 : decode cX11_lot 0 = .ok (.iload_n 1, 1) := by decide +kernel
theorem dX11_lot_1 : decode cX11_lot 1 = .ok (.invokestatic 201, 3) := by decide +kernel
theorem dX11_lot_4 : decode cX11_lot 4 = .ok (.ifCond .eq 29, 3) := by decide +kernel
theorem dX11_lot_7 : decode cX11_lot 7 = .ok (.iload_n 2, 1) := by decide +kernel
theorem dX11_lot_8 : decode cX11_lot 8 = .ok (.iconst 1, 1) := by decide +kernel
theorem dX11_lot_9 : decode cX11_lot 9 = .ok (.if_icmp .lt 24, 3) := by decide +kernel
theorem dX11_lot_12 : decode cX11_lot 12 = .ok (.iload_n 2, 1) := by decide +kernel
theorem dX11_lot_13 : decode cX11_lot 13 = .ok (.sipush 10000, 3) := by decide +kernel
theorem dX11_lot_16 : decode cX11_lot 16 = .ok (.if_icmp .gt 17, 3) := by decide +kernel
theorem dX11_lot_19 : decode cX11_lot 19 = .ok (.iload_n 3, 1) := by decide +kernel
theorem dX11_lot_20 : decode cX11_lot 20 = .ok (.aload_n 0, 1) := by decide +kernel
theorem dX11_lot_21 : decode cX11_lot 21 = .ok (.getfield 97, 3) := by decide +kernel
theorem dX11_lot_24 : decode cX11_lot 24 = .ok (.if_icmp .lt 9, 3) := by decide +kernel
theorem dX11_lot_27 : decode cX11_lot 27 = .ok (.iload_n 3, 1) := by decide +kernel
theorem dX11_lot_28 : decode cX11_lot 28 = .ok (.ldc 131, 2) := by decide +kernel
theorem dX11_lot_30 : decode cX11_lot 30 = .ok (.if_icmp .le 5, 3) := by decide +kernel
theorem dX11_lot_33 : decode cX11_lot 33 = .ok (.iconst (-1), 1) := by decide +kernel
theorem dX11_lot_34 : decode cX11_lot 34 = .ok (.ireturn, 1) := by decide +kernel
theorem dX11_lot_35 : decode cX11_lot 35 = .ok (.aload_n 0, 1) := by decide +kernel
theorem dX11_lot_36 : decode cX11_lot 36 = .ok (.getfield 74, 3) := by decide +kernel
theorem dX11_lot_39 : decode cX11_lot 39 = .ok (.iload_n 1, 1) := by decide +kernel
theorem dX11_lot_40 : decode cX11_lot 40 = .ok (.aaload, 1) := by decide +kernel
theorem dX11_lot_41 : decode cX11_lot 41 = .ok (.iload_n 2, 1) := by decide +kernel
theorem dX11_lot_42 : decode cX11_lot 42 = .ok (.iload_n 3, 1) := by decide +kernel
theorem dX11_lot_43 : decode cX11_lot 43 = .ok (.invokevirtual 204, 3) := by decide +kernel
theorem dX11_lot_46 : decode cX11_lot 46 = .ok (.ireturn, 1) := by decide +kernel
theorem dX11_takes_0 : decode cX11_takes 0 = .ok (.aload_n 0, 1) := by decide +kernel
theorem dX11_takes_1 : decode cX11_takes 1 = .ok (.getfield 12, 3) := by decide +kernel
theorem dX11_takes_4 : decode cX11_takes 4 = .ok (.iload_n 1, 1) := by decide +kernel
theorem dX11_takes_5 : decode cX11_takes 5 = .ok (.invokevirtual 116, 3) := by decide +kernel
theorem dX11_takes_8 : decode cX11_takes 8 = .ok (.ifCond .eq 19, 3) := by decide +kernel
theorem dX11_takes_11 : decode cX11_takes 11 = .ok (.iload_n 2, 1) := by decide +kernel
theorem dX11_takes_12 : decode cX11_takes 12 = .ok (.invokestatic 201, 3) := by decide +kernel
theorem dX11_takes_15 : decode cX11_takes 15 = .ok (.ifCond .eq 12, 3) := by decide +kernel
theorem dX11_takes_18 : decode cX11_takes 18 = .ok (.iload_n 3, 1) := by decide +kernel
theorem dX11_takes_19 : decode cX11_takes 19 = .ok (.bipush 50, 2) := by decide +kernel
theorem dX11_takes_21 : decode cX11_takes 21 = .ok (.invokestatic 101, 3) := by decide +kernel
theorem dX11_takes_24 : decode cX11_takes 24 = .ok (.ifCond .ne 5, 3) := by decide +kernel
theorem dX11_takes_27 : decode cX11_takes 27 = .ok (.iconst 0, 1) := by decide +kernel
theorem dX11_takes_28 : decode cX11_takes 28 = .ok (.ireturn, 1) := by decide +kernel
theorem dX11_takes_29 : decode cX11_takes 29 = .ok (.aload_n 0, 1) := by decide +kernel
theorem dX11_takes_30 : decode cX11_takes 30 = .ok (.getfield 12, 3) := by decide +kernel
theorem dX11_takes_33 : decode cX11_takes 33 = .ok (.iload_n 1, 1) := by decide +kernel
theorem dX11_takes_34 : decode cX11_takes 34 = .ok (.iload_n 2, 1) := by decide +kernel
theorem dX11_takes_35 : decode cX11_takes 35 = .ok (.iload_n 3, 1) := by decide +kernel
theorem dX11_takes_36 : decode cX11_takes 36 = .ok (.invokevirtual 207, 3) := by decide +kernel
theorem dX11_takes_39 : decode cX11_takes 39 = .ok (.iconst 1, 1) := by decide +kernel
theorem dX11_takes_40 : decode cX11_takes 40 = .ok (.ireturn, 1) := by decide +kernel
theorem dX11_price_0 : decode cX11_price 0 = .ok (.iload_n 1, 1) := by decide +kernel
theorem dX11_price_1 : decode cX11_price 1 = .ok (.bipush 7, 2) := by decide +kernel
theorem dX11_price_3 : decode cX11_price 3 = .ok (.invokestatic 101, 3) := by decide +kernel
theorem dX11_price_6 : decode cX11_price 6 = .ok (.ifCond .eq 13, 3) := by decide +kernel
theorem dX11_price_9 : decode cX11_price 9 = .ok (.iload_n 2, 1) := by decide +kernel
theorem dX11_price_10 : decode cX11_price 10 = .ok (.sipush 1000, 3) := by decide +kernel
theorem dX11_price_13 : decode cX11_price 13 = .ok (.invokestatic 101, 3) := by decide +kernel
theorem dX11_price_16 : decode cX11_price 16 = .ok (.ifCond .ne 5, 3) := by decide +kernel
theorem dX11_price_19 : decode cX11_price 19 = .ok (.iconst 0, 1) := by decide +kernel
theorem dX11_price_20 : decode cX11_price 20 = .ok (.ireturn, 1) := by decide +kernel
theorem dX11_price_21 : decode cX11_price 21 = .ok (.aload_n 0, 1) := by decide +kernel
theorem dX11_price_22 : decode cX11_price 22 = .ok (.getfield 79, 3) := by decide +kernel
theorem dX11_price_25 : decode cX11_price 25 = .ok (.iload_n 1, 1) := by decide +kernel
theorem dX11_price_26 : decode cX11_price 26 = .ok (.iload_n 2, 1) := by decide +kernel
theorem dX11_price_27 : decode cX11_price 27 = .ok (.iastore, 1) := by decide +kernel
theorem dX11_price_28 : decode cX11_price 28 = .ok (.iconst 1, 1) := by decide +kernel
theorem dX11_price_29 : decode cX11_price 29 = .ok (.ireturn, 1) := by decide +kernel
theorem dX11_falls_0 : decode cX11_falls 0 = .ok (.iload_n 1, 1) := by decide +kernel
theorem dX11_falls_1 : decode cX11_falls 1 = .ok (.invokestatic 210, 3) := by decide +kernel
theorem dX11_falls_4 : decode cX11_falls 4 = .ok (.ifCond .eq 13, 3) := by decide +kernel
theorem dX11_falls_7 : decode cX11_falls 7 = .ok (.iload_n 2, 1) := by decide +kernel
theorem dX11_falls_8 : decode cX11_falls 8 = .ok (.sipush 400, 3) := by decide +kernel
theorem dX11_falls_11 : decode cX11_falls 11 = .ok (.invokestatic 101, 3) := by decide +kernel
theorem dX11_falls_14 : decode cX11_falls 14 = .ok (.ifCond .ne 5, 3) := by decide +kernel
theorem dX11_falls_17 : decode cX11_falls 17 = .ok (.iconst 0, 1) := by decide +kernel
theorem dX11_falls_18 : decode cX11_falls 18 = .ok (.ireturn, 1) := by decide +kernel
theorem dX11_falls_19 : decode cX11_falls 19 = .ok (.aload_n 0, 1) := by decide +kernel
theorem dX11_falls_20 : decode cX11_falls 20 = .ok (.getfield 93, 3) := by decide +kernel
theorem dX11_falls_23 : decode cX11_falls 23 = .ok (.iload_n 1, 1) := by decide +kernel
theorem dX11_falls_24 : decode cX11_falls 24 = .ok (.iload_n 2, 1) := by decide +kernel
theorem dX11_falls_25 : decode cX11_falls 25 = .ok (.invokevirtual 213, 3) := by decide +kernel
theorem dX11_falls_28 : decode cX11_falls 28 = .ok (.iconst 1, 1) := by decide +kernel
theorem dX11_falls_29 : decode cX11_falls 29 = .ok (.ireturn, 1) := by decide +kernel
theorem dX11_night_0 : decode cX11_night 0 = .ok (.aload_n 0, 1) := by decide +kernel
theorem dX11_night_1 : decode cX11_night 1 = .ok (.getfield 86, 3) := by decide +kernel
theorem dX11_night_4 : decode cX11_night 4 = .ok (.aload_n 0, 1) := by decide +kernel
theorem dX11_night_5 : decode cX11_night 5 = .ok (.getfield 12, 3) := by decide +kernel
theorem dX11_night_8 : decode cX11_night 8 = .ok (.invokevirtual 194, 3) := by decide +kernel
theorem dX11_night_11 : decode cX11_night 11 = .ok (.invokevirtual 216, 3) := by decide +kernel
theorem dX11_night_14 : decode cX11_night 14 = .ok (.ifCond .ne 5, 3) := by decide +kernel
theorem dX11_night_17 : decode cX11_night 17 = .ok (.iconst (-1), 1) := by decide +kernel
theorem dX11_night_18 : decode cX11_night 18 = .ok (.ireturn, 1) := by decide +kernel
theorem dX11_night_19 : decode cX11_night 19 = .ok (.iconst 0, 1) := by decide +kernel
theorem dX11_night_20 : decode cX11_night 20 = .ok (.istore_n 1, 1) := by decide +kernel
theorem dX11_night_21 : decode cX11_night 21 = .ok (.iload_n 1, 1) := by decide +kernel
theorem dX11_night_22 : decode cX11_night 22 = .ok (.iconst 4, 1) := by decide +kernel
theorem dX11_night_23 : decode cX11_night 23 = .ok (.if_icmp .ge 22, 3) := by decide +kernel
theorem dX11_night_26 : decode cX11_night 26 = .ok (.aload_n 0, 1) := by decide +kernel
theorem dX11_night_27 : decode cX11_night 27 = .ok (.getfield 74, 3) := by decide +kernel
theorem dX11_night_30 : decode cX11_night 30 = .ok (.iload_n 1, 1) := by decide +kernel
theorem dX11_night_31 : decode cX11_night 31 = .ok (.aaload, 1) := by decide +kernel
theorem dX11_night_32 : decode cX11_night 32 = .ok (.aload_n 0, 1) := by decide +kernel
theorem dX11_night_33 : decode cX11_night 33 = .ok (.getfield 97, 3) := by decide +kernel
theorem dX11_night_36 : decode cX11_night 36 = .ok (.invokevirtual 219, 3) := by decide +kernel
theorem dX11_night_39 : decode cX11_night 39 = .ok (.iinc 1 1, 3) := by decide +kernel
theorem dX11_night_42 : decode cX11_night 42 = .ok (.goto (-21), 3) := by decide +kernel
theorem dX11_night_45 : decode cX11_night 45 = .ok (.iconst 0, 1) := by decide +kernel
theorem dX11_night_46 : decode cX11_night 46 = .ok (.istore_n 1, 1) := by decide +kernel
theorem dX11_night_47 : decode cX11_night 47 = .ok (.iconst 0, 1) := by decide +kernel
theorem dX11_night_48 : decode cX11_night 48 = .ok (.istore_n 2, 1) := by decide +kernel
theorem dX11_night_49 : decode cX11_night 49 = .ok (.iload_n 2, 1) := by decide +kernel
theorem dX11_night_50 : decode cX11_night 50 = .ok (.aload_n 0, 1) := by decide +kernel
theorem dX11_night_51 : decode cX11_night 51 = .ok (.getfield 12, 3) := by decide +kernel
theorem dX11_night_54 : decode cX11_night 54 = .ok (.invokevirtual 194, 3) := by decide +kernel
theorem dX11_night_57 : decode cX11_night 57 = .ok (.if_icmp .ge 17, 3) := by decide +kernel
theorem dX11_night_60 : decode cX11_night 60 = .ok (.iload_n 1, 1) := by decide +kernel
theorem dX11_night_61 : decode cX11_night 61 = .ok (.aload_n 0, 1) := by decide +kernel
theorem dX11_night_62 : decode cX11_night 62 = .ok (.iload_n 2, 1) := by decide +kernel
theorem dX11_night_63 : decode cX11_night 63 = .ok (.invokevirtual 222, 3) := by decide +kernel
theorem dX11_night_66 : decode cX11_night 66 = .ok (.iadd, 1) := by decide +kernel
theorem dX11_night_67 : decode cX11_night 67 = .ok (.istore_n 1, 1) := by decide +kernel
theorem dX11_night_68 : decode cX11_night 68 = .ok (.iinc 2 1, 3) := by decide +kernel
theorem dX11_night_71 : decode cX11_night 71 = .ok (.goto (-22), 3) := by decide +kernel
theorem dX11_night_74 : decode cX11_night 74 = .ok (.aload_n 0, 1) := by decide +kernel
theorem dX11_night_75 : decode cX11_night 75 = .ok (.dup, 1) := by decide +kernel
theorem dX11_night_76 : decode cX11_night 76 = .ok (.getfield 97, 3) := by decide +kernel
theorem dX11_night_79 : decode cX11_night 79 = .ok (.iconst 1, 1) := by decide +kernel
theorem dX11_night_80 : decode cX11_night 80 = .ok (.iadd, 1) := by decide +kernel
theorem dX11_night_81 : decode cX11_night 81 = .ok (.putfield 97, 3) := by decide +kernel
theorem dX11_night_84 : decode cX11_night 84 = .ok (.aload_n 0, 1) := by decide +kernel
theorem dX11_night_85 : decode cX11_night 85 = .ok (.getfield 68, 3) := by decide +kernel
theorem dX11_night_88 : decode cX11_night 88 = .ok (.invokevirtual 109, 3) := by decide +kernel
theorem dX11_night_91 : decode cX11_night 91 = .ok (.iload_n 1, 1) := by decide +kernel
theorem dX11_night_92 : decode cX11_night 92 = .ok (.ireturn, 1) := by decide +kernel
theorem dX11_bin_0 : decode cX11_bin 0 = .ok (.iload_n 1, 1) := by decide +kernel
theorem dX11_bin_1 : decode cX11_bin 1 = .ok (.invokestatic 201, 3) := by decide +kernel
theorem dX11_bin_4 : decode cX11_bin 4 = .ok (.ifCond .ne 5, 3) := by decide +kernel
theorem dX11_bin_7 : decode cX11_bin 7 = .ok (.iconst (-1), 1) := by decide +kernel
theorem dX11_bin_8 : decode cX11_bin 8 = .ok (.ireturn, 1) := by decide +kernel
theorem dX11_bin_9 : decode cX11_bin 9 = .ok (.iload_n 2, 1) := by decide +kernel
theorem dX11_bin_10 : decode cX11_bin 10 = .ok (.tableswitch 70 0 3 #[30, 40, 50, 60], 30) := by decide +kernel
theorem dX11_bin_40 : decode cX11_bin 40 = .ok (.aload_n 0, 1) := by decide +kernel
theorem dX11_bin_41 : decode cX11_bin 41 = .ok (.getfield 74, 3) := by decide +kernel
theorem dX11_bin_44 : decode cX11_bin 44 = .ok (.iload_n 1, 1) := by decide +kernel
theorem dX11_bin_45 : decode cX11_bin 45 = .ok (.aaload, 1) := by decide +kernel
theorem dX11_bin_46 : decode cX11_bin 46 = .ok (.invokevirtual 225, 3) := by decide +kernel
theorem dX11_bin_49 : decode cX11_bin 49 = .ok (.ireturn, 1) := by decide +kernel
theorem dX11_bin_50 : decode cX11_bin 50 = .ok (.aload_n 0, 1) := by decide +kernel
theorem dX11_bin_51 : decode cX11_bin 51 = .ok (.getfield 74, 3) := by decide +kernel
theorem dX11_bin_54 : decode cX11_bin 54 = .ok (.iload_n 1, 1) := by decide +kernel
theorem dX11_bin_55 : decode cX11_bin 55 = .ok (.aaload, 1) := by decide +kernel
theorem dX11_bin_56 : decode cX11_bin 56 = .ok (.invokevirtual 226, 3) := by decide +kernel
theorem dX11_bin_59 : decode cX11_bin 59 = .ok (.ireturn, 1) := by decide +kernel
theorem dX11_bin_60 : decode cX11_bin 60 = .ok (.aload_n 0, 1) := by decide +kernel
theorem dX11_bin_61 : decode cX11_bin 61 = .ok (.getfield 74, 3) := by decide +kernel
theorem dX11_bin_64 : decode cX11_bin 64 = .ok (.iload_n 1, 1) := by decide +kernel
theorem dX11_bin_65 : decode cX11_bin 65 = .ok (.aaload, 1) := by decide +kernel
theorem dX11_bin_66 : decode cX11_bin 66 = .ok (.invokevirtual 229, 3) := by decide +kernel
theorem dX11_bin_69 : decode cX11_bin 69 = .ok (.ireturn, 1) := by decide +kernel
theorem dX11_bin_70 : decode cX11_bin 70 = .ok (.aload_n 0, 1) := by decide +kernel
theorem dX11_bin_71 : decode cX11_bin 71 = .ok (.getfield 74, 3) := by decide +kernel
theorem dX11_bin_74 : decode cX11_bin 74 = .ok (.iload_n 1, 1) := by decide +kernel
theorem dX11_bin_75 : decode cX11_bin 75 = .ok (.aaload, 1) := by decide +kernel
theorem dX11_bin_76 : decode cX11_bin 76 = .ok (.invokevirtual 232, 3) := by decide +kernel
theorem dX11_bin_79 : decode cX11_bin 79 = .ok (.ireturn, 1) := by decide +kernel
theorem dX11_bin_80 : decode cX11_bin 80 = .ok (.iconst (-1), 1) := by decide +kernel
theorem dX11_bin_81 : decode cX11_bin 81 = .ok (.ireturn, 1) := by decide +kernel
theorem dX11_foretold_0 : decode cX11_foretold 0 = .ok (.iload_n 1, 1) := by decide +kernel
theorem dX11_foretold_1 : decode cX11_foretold 1 = .ok (.invokestatic 201, 3) := by decide +kernel
theorem dX11_foretold_4 : decode cX11_foretold 4 = .ok (.ifCond .ne 5, 3) := by decide +kernel
theorem dX11_foretold_7 : decode cX11_foretold 7 = .ok (.iconst (-1), 1) := by decide +kernel
theorem dX11_foretold_8 : decode cX11_foretold 8 = .ok (.ireturn, 1) := by decide +kernel
theorem dX11_foretold_9 : decode cX11_foretold 9 = .ok (.aload_n 0, 1) := by decide +kernel
theorem dX11_foretold_10 : decode cX11_foretold 10 = .ok (.getfield 74, 3) := by decide +kernel
theorem dX11_foretold_13 : decode cX11_foretold 13 = .ok (.iload_n 1, 1) := by decide +kernel
theorem dX11_foretold_14 : decode cX11_foretold 14 = .ok (.aaload, 1) := by decide +kernel
theorem dX11_foretold_15 : decode cX11_foretold 15 = .ok (.aload_n 0, 1) := by decide +kernel
theorem dX11_foretold_16 : decode cX11_foretold 16 = .ok (.getfield 12, 3) := by decide +kernel
theorem dX11_foretold_19 : decode cX11_foretold 19 = .ok (.iload_n 1, 1) := by decide +kernel
theorem dX11_foretold_20 : decode cX11_foretold 20 = .ok (.invokevirtual 235, 3) := by decide +kernel
theorem dX11_foretold_23 : decode cX11_foretold 23 = .ok (.aload_n 0, 1) := by decide +kernel
theorem dX11_foretold_24 : decode cX11_foretold 24 = .ok (.getfield 97, 3) := by decide +kernel
theorem dX11_foretold_27 : decode cX11_foretold 27 = .ok (.invokevirtual 238, 3) := by decide +kernel
theorem dX11_foretold_30 : decode cX11_foretold 30 = .ok (.ireturn, 1) := by decide +kernel
theorem dX11_work_0 : decode cX11_work 0 = .ok (.aload_n 0, 1) := by decide +kernel
theorem dX11_work_1 : decode cX11_work 1 = .ok (.getfield 12, 3) := by decide +kernel
theorem dX11_work_4 : decode cX11_work 4 = .ok (.iload_n 1, 1) := by decide +kernel
theorem dX11_work_5 : decode cX11_work 5 = .ok (.invokevirtual 116, 3) := by decide +kernel
theorem dX11_work_8 : decode cX11_work 8 = .ok (.ifCond .eq 30, 3) := by decide +kernel
theorem dX11_work_11 : decode cX11_work 11 = .ok (.iload_n 2, 1) := by decide +kernel
theorem dX11_work_12 : decode cX11_work 12 = .ok (.invokestatic 210, 3) := by decide +kernel
theorem dX11_work_15 : decode cX11_work 15 = .ok (.ifCond .eq 23, 3) := by decide +kernel
theorem dX11_work_18 : decode cX11_work 18 = .ok (.iload_n 3, 1) := by decide +kernel
theorem dX11_work_19 : decode cX11_work 19 = .ok (.aload_n 0, 1) := by decide +kernel
theorem dX11_work_20 : decode cX11_work 20 = .ok (.getfield 97, 3) := by decide +kernel
theorem dX11_work_23 : decode cX11_work 23 = .ok (.if_icmp .gt 15, 3) := by decide +kernel
theorem dX11_work_26 : decode cX11_work 26 = .ok (.iload_n 3, 1) := by decide +kernel
theorem dX11_work_27 : decode cX11_work 27 = .ok (.aload_n 0, 1) := by decide +kernel
theorem dX11_work_28 : decode cX11_work 28 = .ok (.getfield 12, 3) := by decide +kernel
theorem dX11_work_31 : decode cX11_work 31 = .ok (.iload_n 1, 1) := by decide +kernel
theorem dX11_work_32 : decode cX11_work 32 = .ok (.invokevirtual 241, 3) := by decide +kernel
theorem dX11_work_35 : decode cX11_work 35 = .ok (.if_icmp .ge 5, 3) := by decide +kernel
theorem dX11_work_38 : decode cX11_work 38 = .ok (.iconst (-1), 1) := by decide +kernel
theorem dX11_work_39 : decode cX11_work 39 = .ok (.ireturn, 1) := by decide +kernel
theorem dX11_work_40 : decode cX11_work 40 = .ok (.aload_n 0, 1) := by decide +kernel
theorem dX11_work_41 : decode cX11_work 41 = .ok (.getfield 93, 3) := by decide +kernel
theorem dX11_work_44 : decode cX11_work 44 = .ok (.iload_n 1, 1) := by decide +kernel
theorem dX11_work_45 : decode cX11_work 45 = .ok (.iload_n 2, 1) := by decide +kernel
theorem dX11_work_46 : decode cX11_work 46 = .ok (.iload_n 3, 1) := by decide +kernel
theorem dX11_work_47 : decode cX11_work 47 = .ok (.aload_n 0, 1) := by decide +kernel
theorem dX11_work_48 : decode cX11_work 48 = .ok (.getfield 97, 3) := by decide +kernel
theorem dX11_work_51 : decode cX11_work 51 = .ok (.aload_n 0, 1) := by decide +kernel
theorem dX11_work_52 : decode cX11_work 52 = .ok (.getfield 79, 3) := by decide +kernel
theorem dX11_work_55 : decode cX11_work 55 = .ok (.iconst 5, 1) := by decide +kernel
theorem dX11_work_56 : decode cX11_work 56 = .ok (.iload_n 2, 1) := by decide +kernel
theorem dX11_work_57 : decode cX11_work 57 = .ok (.iadd, 1) := by decide +kernel
theorem dX11_work_58 : decode cX11_work 58 = .ok (.iaload, 1) := by decide +kernel
theorem dX11_work_59 : decode cX11_work 59 = .ok (.invokevirtual 244, 3) := by decide +kernel
theorem dX11_work_62 : decode cX11_work 62 = .ok (.ireturn, 1) := by decide +kernel
theorem dX11_due_0 : decode cX11_due 0 = .ok (.aload_n 0, 1) := by decide +kernel
theorem dX11_due_1 : decode cX11_due 1 = .ok (.getfield 12, 3) := by decide +kernel
theorem dX11_due_4 : decode cX11_due 4 = .ok (.iload_n 1, 1) := by decide +kernel
theorem dX11_due_5 : decode cX11_due 5 = .ok (.invokevirtual 116, 3) := by decide +kernel
theorem dX11_due_8 : decode cX11_due 8 = .ok (.ifCond .eq 10, 3) := by decide +kernel
theorem dX11_due_11 : decode cX11_due 11 = .ok (.iload_n 2, 1) := by decide +kernel
theorem dX11_due_12 : decode cX11_due 12 = .ok (.invokestatic 210, 3) := by decide +kernel
theorem dX11_due_15 : decode cX11_due 15 = .ok (.ifCond .ne 5, 3) := by decide +kernel
theorem dX11_due_18 : decode cX11_due 18 = .ok (.iconst (-1), 1) := by decide +kernel
theorem dX11_due_19 : decode cX11_due 19 = .ok (.ireturn, 1) := by decide +kernel
theorem dX11_due_20 : decode cX11_due 20 = .ok (.aload_n 0, 1) := by decide +kernel
theorem dX11_due_21 : decode cX11_due 21 = .ok (.getfield 93, 3) := by decide +kernel
theorem dX11_due_24 : decode cX11_due 24 = .ok (.iload_n 1, 1) := by decide +kernel
theorem dX11_due_25 : decode cX11_due 25 = .ok (.iload_n 2, 1) := by decide +kernel
theorem dX11_due_26 : decode cX11_due 26 = .ok (.invokevirtual 247, 3) := by decide +kernel
theorem dX11_due_29 : decode cX11_due 29 = .ok (.ireturn, 1) := by decide +kernel
theorem dX11_bill_0 : decode cX11_bill 0 = .ok (.aload_n 0, 1) := by decide +kernel
theorem dX11_bill_1 : decode cX11_bill 1 = .ok (.getfield 12, 3) := by decide +kernel
theorem dX11_bill_4 : decode cX11_bill 4 = .ok (.iload_n 1, 1) := by decide +kernel
theorem dX11_bill_5 : decode cX11_bill 5 = .ok (.invokevirtual 116, 3) := by decide +kernel
theorem dX11_bill_8 : decode cX11_bill 8 = .ok (.ifCond .eq 8, 3) := by decide +kernel
theorem dX11_bill_11 : decode cX11_bill 11 = .ok (.iload_n 2, 1) := by decide +kernel
theorem dX11_bill_12 : decode cX11_bill 12 = .ok (.iload_n 3, 1) := by decide +kernel
theorem dX11_bill_13 : decode cX11_bill 13 = .ok (.if_icmp .le 5, 3) := by decide +kernel
theorem dX11_bill_16 : decode cX11_bill 16 = .ok (.iconst (-1), 1) := by decide +kernel
theorem dX11_bill_17 : decode cX11_bill 17 = .ok (.ireturn, 1) := by decide +kernel
theorem dX11_bill_18 : decode cX11_bill 18 = .ok (.aload_n 0, 1) := by decide +kernel
theorem dX11_bill_19 : decode cX11_bill 19 = .ok (.getfield 86, 3) := by decide +kernel
theorem dX11_bill_22 : decode cX11_bill 22 = .ok (.iload_n 1, 1) := by decide +kernel
theorem dX11_bill_23 : decode cX11_bill 23 = .ok (.iload_n 2, 1) := by decide +kernel
theorem dX11_bill_24 : decode cX11_bill 24 = .ok (.iload_n 3, 1) := by decide +kernel
theorem dX11_bill_25 : decode cX11_bill 25 = .ok (.iload 4, 2) := by decide +kernel
theorem dX11_bill_27 : decode cX11_bill 27 = .ok (.invokevirtual 250, 3) := by decide +kernel
theorem dX11_bill_30 : decode cX11_bill 30 = .ok (.aload_n 0, 1) := by decide +kernel
theorem dX11_bill_31 : decode cX11_bill 31 = .ok (.getfield 93, 3) := by decide +kernel
theorem dX11_bill_34 : decode cX11_bill 34 = .ok (.iload_n 1, 1) := by decide +kernel
theorem dX11_bill_35 : decode cX11_bill 35 = .ok (.iload_n 2, 1) := by decide +kernel
theorem dX11_bill_36 : decode cX11_bill 36 = .ok (.iload_n 3, 1) := by decide +kernel
theorem dX11_bill_37 : decode cX11_bill 37 = .ok (.iload 4, 2) := by decide +kernel
theorem dX11_bill_39 : decode cX11_bill 39 = .ok (.invokevirtual 254, 3) := by decide +kernel
theorem dX11_bill_42 : decode cX11_bill 42 = .ok (.iadd, 1) := by decide +kernel
theorem dX11_bill_43 : decode cX11_bill 43 = .ok (.ireturn, 1) := by decide +kernel
theorem dX11_lacked_0 : decode cX11_lacked 0 = .ok (.aload_n 0, 1) := by decide +kernel
theorem dX11_lacked_1 : decode cX11_lacked 1 = .ok (.getfield 12, 3) := by decide +kernel
theorem dX11_lacked_4 : decode cX11_lacked 4 = .ok (.iload_n 1, 1) := by decide +kernel
theorem dX11_lacked_5 : decode cX11_lacked 5 = .ok (.invokevirtual 116, 3) := by decide +kernel
theorem dX11_lacked_8 : decode cX11_lacked 8 = .ok (.ifCond .eq 14, 3) := by decide +kernel
theorem dX11_lacked_11 : decode cX11_lacked 11 = .ok (.aload_n 0, 1) := by decide +kernel
theorem dX11_lacked_12 : decode cX11_lacked 12 = .ok (.getfield 12, 3) := by decide +kernel
theorem dX11_lacked_15 : decode cX11_lacked 15 = .ok (.iload_n 1, 1) := by decide +kernel
theorem dX11_lacked_16 : decode cX11_lacked 16 = .ok (.invokevirtual 255, 3) := by decide +kernel
theorem dX11_lacked_19 : decode cX11_lacked 19 = .ok (.goto 4, 3) := by decide +kernel
theorem dX11_lacked_22 : decode cX11_lacked 22 = .ok (.iconst (-1), 1) := by decide +kernel
theorem dX11_lacked_23 : decode cX11_lacked 23 = .ok (.ireturn, 1) := by decide +kernel
theorem dX11_about_0 : decode cX11_about 0 = .ok (.iload_n 1, 1) := by decide +kernel
theorem dX11_about_1 : decode cX11_about 1 = .ok (.tableswitch 104 0 6 #[43, 48, 56, 64, 72, 88, 96], 43) := by decide +kernel
theorem dX11_about_44 : decode cX11_about 44 = .ok (.aload_n 0, 1) := by decide +kernel
theorem dX11_about_45 : decode cX11_about 45 = .ok (.getfield 97, 3) := by decide +kernel
theorem dX11_about_48 : decode cX11_about 48 = .ok (.ireturn, 1) := by decide +kernel
theorem dX11_about_49 : decode cX11_about 49 = .ok (.aload_n 0, 1) := by decide +kernel
theorem dX11_about_50 : decode cX11_about 50 = .ok (.getfield 12, 3) := by decide +kernel
theorem dX11_about_53 : decode cX11_about 53 = .ok (.invokevirtual 194, 3) := by decide +kernel
theorem dX11_about_56 : decode cX11_about 56 = .ok (.ireturn, 1) := by decide +kernel
theorem dX11_about_57 : decode cX11_about 57 = .ok (.aload_n 0, 1) := by decide +kernel
theorem dX11_about_58 : decode cX11_about 58 = .ok (.getfield 37, 3) := by decide +kernel
theorem dX11_about_61 : decode cX11_about 61 = .ok (.invokevirtual 158, 3) := by decide +kernel
theorem dX11_about_64 : decode cX11_about 64 = .ok (.ireturn, 1) := by decide +kernel
theorem dX11_about_65 : decode cX11_about 65 = .ok (.aload_n 0, 1) := by decide +kernel
theorem dX11_about_66 : decode cX11_about 66 = .ok (.getfield 93, 3) := by decide +kernel
theorem dX11_about_69 : decode cX11_about 69 = .ok (.invokevirtual 258, 3) := by decide +kernel
theorem dX11_about_72 : decode cX11_about 72 = .ok (.ireturn, 1) := by decide +kernel
theorem dX11_about_73 : decode cX11_about 73 = .ok (.aload_n 0, 1) := by decide +kernel
theorem dX11_about_74 : decode cX11_about 74 = .ok (.getfield 68, 3) := by decide +kernel
theorem dX11_about_77 : decode cX11_about 77 = .ok (.invokevirtual 259, 3) := by decide +kernel
theorem dX11_about_80 : decode cX11_about 80 = .ok (.ifCond .eq 7, 3) := by decide +kernel
theorem dX11_about_83 : decode cX11_about 83 = .ok (.iconst 1, 1) := by decide +kernel
theorem dX11_about_84 : decode cX11_about 84 = .ok (.goto 4, 3) := by decide +kernel
theorem dX11_about_87 : decode cX11_about 87 = .ok (.iconst 0, 1) := by decide +kernel
theorem dX11_about_88 : decode cX11_about 88 = .ok (.ireturn, 1) := by decide +kernel
theorem dX11_about_89 : decode cX11_about 89 = .ok (.aload_n 0, 1) := by decide +kernel
theorem dX11_about_90 : decode cX11_about 90 = .ok (.getfield 26, 3) := by decide +kernel
theorem dX11_about_93 : decode cX11_about 93 = .ok (.invokevirtual 139, 3) := by decide +kernel
theorem dX11_about_96 : decode cX11_about 96 = .ok (.ireturn, 1) := by decide +kernel
theorem dX11_about_97 : decode cX11_about 97 = .ok (.aload_n 0, 1) := by decide +kernel
theorem dX11_about_98 : decode cX11_about 98 = .ok (.getfield 86, 3) := by decide +kernel
theorem dX11_about_101 : decode cX11_about 101 = .ok (.invokevirtual 262, 3) := by decide +kernel
theorem dX11_about_104 : decode cX11_about 104 = .ok (.ireturn, 1) := by decide +kernel
theorem dX11_about_105 : decode cX11_about 105 = .ok (.iconst (-1), 1) := by decide +kernel
theorem dX11_about_106 : decode cX11_about 106 = .ok (.ireturn, 1) := by decide +kernel
theorem dX11_mayBeAnywhere_0 : decode cX11_mayBeAnywhere 0 = .ok (.iconst 0, 1) := by decide +kernel
theorem dX11_mayBeAnywhere_1 : decode cX11_mayBeAnywhere 1 = .ok (.istore_n 2, 1) := by decide +kernel
theorem dX11_mayBeAnywhere_2 : decode cX11_mayBeAnywhere 2 = .ok (.iload_n 2, 1) := by decide +kernel
theorem dX11_mayBeAnywhere_3 : decode cX11_mayBeAnywhere 3 = .ok (.bipush 24, 2) := by decide +kernel
theorem dX11_mayBeAnywhere_5 : decode cX11_mayBeAnywhere 5 = .ok (.if_icmp .ge 34, 3) := by decide +kernel
theorem dX11_mayBeAnywhere_8 : decode cX11_mayBeAnywhere 8 = .ok (.aload_n 0, 1) := by decide +kernel
theorem dX11_mayBeAnywhere_9 : decode cX11_mayBeAnywhere 9 = .ok (.getfield 59, 3) := by decide +kernel
theorem dX11_mayBeAnywhere_12 : decode cX11_mayBeAnywhere 12 = .ok (.iload_n 1, 1) := by decide +kernel
theorem dX11_mayBeAnywhere_13 : decode cX11_mayBeAnywhere 13 = .ok (.iload_n 2, 1) := by decide +kernel
theorem dX11_mayBeAnywhere_14 : decode cX11_mayBeAnywhere 14 = .ok (.invokestatic 191, 3) := by decide +kernel
theorem dX11_mayBeAnywhere_17 : decode cX11_mayBeAnywhere 17 = .ok (.iload_n 2, 1) := by decide +kernel
theorem dX11_mayBeAnywhere_18 : decode cX11_mayBeAnywhere 18 = .ok (.invokestatic 188, 3) := by decide +kernel
theorem dX11_mayBeAnywhere_21 : decode cX11_mayBeAnywhere 21 = .ok (.aload_n 0, 1) := by decide +kernel
theorem dX11_mayBeAnywhere_22 : decode cX11_mayBeAnywhere 22 = .ok (.getfield 97, 3) := by decide +kernel
theorem dX11_mayBeAnywhere_25 : decode cX11_mayBeAnywhere 25 = .ok (.invokevirtual 170, 3) := by decide +kernel
theorem dX11_mayBeAnywhere_28 : decode cX11_mayBeAnywhere 28 = .ok (.ifCond .eq 5, 3) := by decide +kernel
theorem dX11_mayBeAnywhere_31 : decode cX11_mayBeAnywhere 31 = .ok (.iconst 1, 1) := by decide +kernel
theorem dX11_mayBeAnywhere_32 : decode cX11_mayBeAnywhere 32 = .ok (.ireturn, 1) := by decide +kernel
theorem dX11_mayBeAnywhere_33 : decode cX11_mayBeAnywhere 33 = .ok (.iinc 2 1, 3) := by decide +kernel
theorem dX11_mayBeAnywhere_36 : decode cX11_mayBeAnywhere 36 = .ok (.goto (-34), 3) := by decide +kernel
theorem dX11_mayBeAnywhere_39 : decode cX11_mayBeAnywhere 39 = .ok (.iconst 0, 1) := by decide +kernel
theorem dX11_mayBeAnywhere_40 : decode cX11_mayBeAnywhere 40 = .ok (.ireturn, 1) := by decide +kernel
theorem dX11_passNightOf_0 : decode cX11_passNightOf 0 = .ok (.aload_n 0, 1) := by decide +kernel
theorem dX11_passNightOf_1 : decode cX11_passNightOf 1 = .ok (.getfield 79, 3) := by decide +kernel
theorem dX11_passNightOf_4 : decode cX11_passNightOf 4 = .ok (.iconst 0, 1) := by decide +kernel
theorem dX11_passNightOf_5 : decode cX11_passNightOf 5 = .ok (.iaload, 1) := by decide +kernel
theorem dX11_passNightOf_6 : decode cX11_passNightOf 6 = .ok (.istore_n 2, 1) := by decide +kernel
theorem dX11_passNightOf_7 : decode cX11_passNightOf 7 = .ok (.iconst 0, 1) := by decide +kernel
theorem dX11_passNightOf_8 : decode cX11_passNightOf 8 = .ok (.istore_n 3, 1) := by decide +kernel
theorem dX11_passNightOf_9 : decode cX11_passNightOf 9 = .ok (.iconst 0, 1) := by decide +kernel
theorem dX11_passNightOf_10 : decode cX11_passNightOf 10 = .ok (.istore 4, 2) := by decide +kernel
theorem dX11_passNightOf_12 : decode cX11_passNightOf 12 = .ok (.iload 4, 2) := by decide +kernel
theorem dX11_passNightOf_14 : decode cX11_passNightOf 14 = .ok (.iconst 4, 1) := by decide +kernel
theorem dX11_passNightOf_15 : decode cX11_passNightOf 15 = .ok (.if_icmp .ge 58, 3) := by decide +kernel
theorem dX11_passNightOf_18 : decode cX11_passNightOf 18 = .ok (.aload_n 0, 1) := by decide +kernel
theorem dX11_passNightOf_19 : decode cX11_passNightOf 19 = .ok (.getfield 12, 3) := by decide +kernel
theorem dX11_passNightOf_22 : decode cX11_passNightOf 22 = .ok (.iload_n 1, 1) := by decide +kernel
theorem dX11_passNightOf_23 : decode cX11_passNightOf 23 = .ok (.iload 4, 2) := by decide +kernel
theorem dX11_passNightOf_25 : decode cX11_passNightOf 25 = .ok (.invokevirtual 263, 3) := by decide +kernel
theorem dX11_passNightOf_28 : decode cX11_passNightOf 28 = .ok (.istore 5, 2) := by decide +kernel
theorem dX11_passNightOf_30 : decode cX11_passNightOf 30 = .ok (.aload_n 0, 1) := by decide +kernel
theorem dX11_passNightOf_31 : decode cX11_passNightOf 31 = .ok (.getfield 74, 3) := by decide +kernel
theorem dX11_passNightOf_34 : decode cX11_passNightOf 34 = .ok (.iload 4, 2) := by decide +kernel
theorem dX11_passNightOf_36 : decode cX11_passNightOf 36 = .ok (.aaload, 1) := by decide +kernel
theorem dX11_passNightOf_37 : decode cX11_passNightOf 37 = .ok (.iload 5, 2) := by decide +kernel
theorem dX11_passNightOf_39 : decode cX11_passNightOf 39 = .ok (.invokevirtual 266, 3) := by decide +kernel
theorem dX11_passNightOf_42 : decode cX11_passNightOf 42 = .ok (.istore 6, 2) := by decide +kernel
theorem dX11_passNightOf_44 : decode cX11_passNightOf 44 = .ok (.iload_n 2, 1) := by decide +kernel
theorem dX11_passNightOf_45 : decode cX11_passNightOf 45 = .ok (.iload 6, 2) := by decide +kernel
theorem dX11_passNightOf_47 : decode cX11_passNightOf 47 = .ok (.aload_n 0, 1) := by decide +kernel
theorem dX11_passNightOf_48 : decode cX11_passNightOf 48 = .ok (.getfield 79, 3) := by decide +kernel
theorem dX11_passNightOf_51 : decode cX11_passNightOf 51 = .ok (.iconst 1, 1) := by decide +kernel
theorem dX11_passNightOf_52 : decode cX11_passNightOf 52 = .ok (.iload 4, 2) := by decide +kernel
theorem dX11_passNightOf_54 : decode cX11_passNightOf 54 = .ok (.iadd, 1) := by decide +kernel
theorem dX11_passNightOf_55 : decode cX11_passNightOf 55 = .ok (.iaload, 1) := by decide +kernel
theorem dX11_passNightOf_56 : decode cX11_passNightOf 56 = .ok (.imul, 1) := by decide +kernel
theorem dX11_passNightOf_57 : decode cX11_passNightOf 57 = .ok (.iadd, 1) := by decide +kernel
theorem dX11_passNightOf_58 : decode cX11_passNightOf 58 = .ok (.istore_n 2, 1) := by decide +kernel
theorem dX11_passNightOf_59 : decode cX11_passNightOf 59 = .ok (.iload_n 3, 1) := by decide +kernel
theorem dX11_passNightOf_60 : decode cX11_passNightOf 60 = .ok (.iload 5, 2) := by decide +kernel
theorem dX11_passNightOf_62 : decode cX11_passNightOf 62 = .ok (.iload 6, 2) := by decide +kernel
theorem dX11_passNightOf_64 : decode cX11_passNightOf 64 = .ok (.isub, 1) := by decide +kernel
theorem dX11_passNightOf_65 : decode cX11_passNightOf 65 = .ok (.iadd, 1) := by decide +kernel
theorem dX11_passNightOf_66 : decode cX11_passNightOf 66 = .ok (.istore_n 3, 1) := by decide +kernel
theorem dX11_passNightOf_67 : decode cX11_passNightOf 67 = .ok (.iinc 4 1, 3) := by decide +kernel
theorem dX11_passNightOf_70 : decode cX11_passNightOf 70 = .ok (.goto (-58), 3) := by decide +kernel
theorem dX11_passNightOf_73 : decode cX11_passNightOf 73 = .ok (.aload_n 0, 1) := by decide +kernel
theorem dX11_passNightOf_74 : decode cX11_passNightOf 74 = .ok (.getfield 12, 3) := by decide +kernel
theorem dX11_passNightOf_77 : decode cX11_passNightOf 77 = .ok (.iload_n 1, 1) := by decide +kernel
theorem dX11_passNightOf_78 : decode cX11_passNightOf 78 = .ok (.iload_n 3, 1) := by decide +kernel
theorem dX11_passNightOf_79 : decode cX11_passNightOf 79 = .ok (.invokevirtual 269, 3) := by decide +kernel
theorem dX11_passNightOf_82 : decode cX11_passNightOf 82 = .ok (.aload_n 0, 1) := by decide +kernel
theorem dX11_passNightOf_83 : decode cX11_passNightOf 83 = .ok (.getfield 86, 3) := by decide +kernel
theorem dX11_passNightOf_86 : decode cX11_passNightOf 86 = .ok (.iload_n 1, 1) := by decide +kernel
theorem dX11_passNightOf_87 : decode cX11_passNightOf 87 = .ok (.aload_n 0, 1) := by decide +kernel
theorem dX11_passNightOf_88 : decode cX11_passNightOf 88 = .ok (.getfield 97, 3) := by decide +kernel
theorem dX11_passNightOf_91 : decode cX11_passNightOf 91 = .ok (.iload_n 2, 1) := by decide +kernel
theorem dX11_passNightOf_92 : decode cX11_passNightOf 92 = .ok (.invokevirtual 272, 3) := by decide +kernel
theorem dX11_passNightOf_95 : decode cX11_passNightOf 95 = .ok (.iload_n 3, 1) := by decide +kernel
theorem dX11_passNightOf_96 : decode cX11_passNightOf 96 = .ok (.ireturn, 1) := by decide +kernel
theorem dX11_isUpTo_0 : decode cX11_isUpTo 0 = .ok (.iload_n 0, 1) := by decide +kernel
theorem dX11_isUpTo_1 : decode cX11_isUpTo 1 = .ok (.ifCond .lt 12, 3) := by decide +kernel
theorem dX11_isUpTo_4 : decode cX11_isUpTo 4 = .ok (.iload_n 0, 1) := by decide +kernel
theorem dX11_isUpTo_5 : decode cX11_isUpTo 5 = .ok (.iload_n 1, 1) := by decide +kernel
theorem dX11_isUpTo_6 : decode cX11_isUpTo 6 = .ok (.if_icmp .gt 7, 3) := by decide +kernel
theorem dX11_isUpTo_9 : decode cX11_isUpTo 9 = .ok (.iconst 1, 1) := by decide +kernel
theorem dX11_isUpTo_10 : decode cX11_isUpTo 10 = .ok (.goto 4, 3) := by decide +kernel
theorem dX11_isUpTo_13 : decode cX11_isUpTo 13 = .ok (.iconst 0, 1) := by decide +kernel
theorem dX11_isUpTo_14 : decode cX11_isUpTo 14 = .ok (.ireturn, 1) := by decide +kernel
theorem dX11_isField_0 : decode cX11_isField 0 = .ok (.iload_n 0, 1) := by decide +kernel
theorem dX11_isField_1 : decode cX11_isField 1 = .ok (.iconst 5, 1) := by decide +kernel
theorem dX11_isField_2 : decode cX11_isField 2 = .ok (.invokestatic 101, 3) := by decide +kernel
theorem dX11_isField_5 : decode cX11_isField 5 = .ok (.ireturn, 1) := by decide +kernel
theorem dX11_isHour_0 : decode cX11_isHour 0 = .ok (.iload_n 0, 1) := by decide +kernel
theorem dX11_isHour_1 : decode cX11_isHour 1 = .ok (.iconst 3, 1) := by decide +kernel
theorem dX11_isHour_2 : decode cX11_isHour 2 = .ok (.invokestatic 101, 3) := by decide +kernel
theorem dX11_isHour_5 : decode cX11_isHour 5 = .ok (.ireturn, 1) := by decide +kernel
theorem dX11_isBin_0 : decode cX11_isBin 0 = .ok (.iload_n 0, 1) := by decide +kernel
theorem dX11_isBin_1 : decode cX11_isBin 1 = .ok (.iconst 3, 1) := by decide +kernel
theorem dX11_isBin_2 : decode cX11_isBin 2 = .ok (.invokestatic 101, 3) := by decide +kernel
theorem dX11_isBin_5 : decode cX11_isBin 5 = .ok (.ireturn, 1) := by decide +kernel
theorem dX11_isSort_0 : decode cX11_isSort 0 = .ok (.iload_n 0, 1) := by decide +kernel
theorem dX11_isSort_1 : decode cX11_isSort 1 = .ok (.iconst 2, 1) := by decide +kernel
theorem dX11_isSort_2 : decode cX11_isSort 2 = .ok (.invokestatic 101, 3) := by decide +kernel
theorem dX11_isSort_5 : decode cX11_isSort 5 = .ok (.ireturn, 1) := by decide +kernel
theorem dX11_hourOf_0 : decode cX11_hourOf 0 = .ok (.iload_n 0, 1) := by decide +kernel
theorem dX11_hourOf_1 : decode cX11_hourOf 1 = .ok (.bipush 6, 2) := by decide +kernel
theorem dX11_hourOf_3 : decode cX11_hourOf 3 = .ok (.idiv, 1) := by decide +kernel
theorem dX11_hourOf_4 : decode cX11_hourOf 4 = .ok (.ireturn, 1) := by decide +kernel
theorem dX11_fieldOf_0 : decode cX11_fieldOf 0 = .ok (.iload_n 0, 1) := by decide +kernel
theorem dX11_fieldOf_1 : decode cX11_fieldOf 1 = .ok (.bipush 6, 2) := by decide +kernel
theorem dX11_fieldOf_3 : decode cX11_fieldOf 3 = .ok (.irem, 1) := by decide +kernel
theorem dX11_fieldOf_4 : decode cX11_fieldOf 4 = .ok (.ireturn, 1) := by decide +kernel
theorem dX12_init_0 : decode cX12_init 0 = .ok (.aload_n 0, 1) := by decide +kernel
theorem dX12_init_1 : decode cX12_init 1 = .ok (.invokespecial 1, 3) := by decide +kernel
theorem dX12_init_4 : decode cX12_init 4 = .ok (.aload_n 0, 1) := by decide +kernel
theorem dX12_init_5 : decode cX12_init 5 = .ok (.bipush 12, 2) := by decide +kernel
theorem dX12_init_7 : decode cX12_init 7 = .ok (.newarray .int, 2) := by decide +kernel
theorem dX12_init_9 : decode cX12_init 9 = .ok (.putfield 7, 3) := by decide +kernel
theorem dX12_init_12 : decode cX12_init 12 = .ok (.aload_n 0, 1) := by decide +kernel
theorem dX12_init_13 : decode cX12_init 13 = .ok (.bipush 12, 2) := by decide +kernel
theorem dX12_init_15 : decode cX12_init 15 = .ok (.newarray .int, 2) := by decide +kernel
theorem dX12_init_17 : decode cX12_init 17 = .ok (.putfield 13, 3) := by decide +kernel
theorem dX12_init_20 : decode cX12_init 20 = .ok (.aload_n 0, 1) := by decide +kernel
theorem dX12_init_21 : decode cX12_init 21 = .ok (.bipush 12, 2) := by decide +kernel
theorem dX12_init_23 : decode cX12_init 23 = .ok (.newarray .int, 2) := by decide +kernel
theorem dX12_init_25 : decode cX12_init 25 = .ok (.putfield 16, 3) := by decide +kernel
theorem dX12_init_28 : decode cX12_init 28 = .ok (.aload_n 0, 1) := by decide +kernel
theorem dX12_init_29 : decode cX12_init 29 = .ok (.bipush 12, 2) := by decide +kernel
theorem dX12_init_31 : decode cX12_init 31 = .ok (.newarray .int, 2) := by decide +kernel
theorem dX12_init_33 : decode cX12_init 33 = .ok (.putfield 19, 3) := by decide +kernel
theorem dX12_init_36 : decode cX12_init 36 = .ok (.aload_n 0, 1) := by decide +kernel
theorem dX12_init_37 : decode cX12_init 37 = .ok (.bipush 12, 2) := by decide +kernel
theorem dX12_init_39 : decode cX12_init 39 = .ok (.newarray .int, 2) := by decide +kernel
theorem dX12_init_41 : decode cX12_init 41 = .ok (.putfield 22, 3) := by decide +kernel
theorem dX12_init_44 : decode cX12_init 44 = .ok (.aload_n 0, 1) := by decide +kernel
theorem dX12_init_45 : decode cX12_init 45 = .ok (.bipush 48, 2) := by decide +kernel
theorem dX12_init_47 : decode cX12_init 47 = .ok (.newarray .int, 2) := by decide +kernel
theorem dX12_init_49 : decode cX12_init 49 = .ok (.putfield 25, 3) := by decide +kernel
theorem dX12_init_52 : decode cX12_init 52 = .ok (.aload_n 0, 1) := by decide +kernel
theorem dX12_init_53 : decode cX12_init 53 = .ok (.bipush 6, 2) := by decide +kernel
theorem dX12_init_55 : decode cX12_init 55 = .ok (.newarray .int, 2) := by decide +kernel
theorem dX12_init_57 : decode cX12_init 57 = .ok (.putfield 28, 3) := by decide +kernel
theorem dX12_init_60 : decode cX12_init 60 = .ok (.aload_n 0, 1) := by decide +kernel
theorem dX12_init_61 : decode cX12_init 61 = .ok (.bipush 6, 2) := by decide +kernel
theorem dX12_init_63 : decode cX12_init 63 = .ok (.newarray .int, 2) := by decide +kernel
theorem dX12_init_65 : decode cX12_init 65 = .ok (.putfield 31, 3) := by decide +kernel
theorem dX12_init_68 : decode cX12_init 68 = .ok (.aload_n 0, 1) := by decide +kernel
theorem dX12_init_69 : decode cX12_init 69 = .ok (.bipush 6, 2) := by decide +kernel
theorem dX12_init_71 : decode cX12_init 71 = .ok (.newarray .int, 2) := by decide +kernel
theorem dX12_init_73 : decode cX12_init 73 = .ok (.putfield 34, 3) := by decide +kernel
theorem dX12_init_76 : decode cX12_init 76 = .ok (.aload_n 0, 1) := by decide +kernel
theorem dX12_init_77 : decode cX12_init 77 = .ok (.bipush 36, 2) := by decide +kernel
theorem dX12_init_79 : decode cX12_init 79 = .ok (.newarray .boolean, 2) := by decide +kernel
theorem dX12_init_81 : decode cX12_init 81 = .ok (.putfield 37, 3) := by decide +kernel
theorem dX12_init_84 : decode cX12_init 84 = .ok (.aload_n 0, 1) := by decide +kernel
theorem dX12_init_85 : decode cX12_init 85 = .ok (.sipush 600, 3) := by decide +kernel
theorem dX12_init_88 : decode cX12_init 88 = .ok (.newarray .int, 2) := by decide +kernel
theorem dX12_init_90 : decode cX12_init 90 = .ok (.putfield 41, 3) := by decide +kernel
theorem dX12_init_93 : decode cX12_init 93 = .ok (.aload_n 0, 1) := by decide +kernel
theorem dX12_init_94 : decode cX12_init 94 = .ok (.sipush 600, 3) := by decide +kernel
theorem dX12_init_97 : decode cX12_init 97 = .ok (.newarray .int, 2) := by decide +kernel
theorem dX12_init_99 : decode cX12_init 99 = .ok (.putfield 44, 3) := by decide +kernel
theorem dX12_init_102 : decode cX12_init 102 = .ok (.aload_n 0, 1) := by decide +kernel
theorem dX12_init_103 : decode cX12_init 103 = .ok (.bipush 13, 2) := by decide +kernel
theorem dX12_init_105 : decode cX12_init 105 = .ok (.newarray .int, 2) := by decide +kernel
theorem dX12_init_107 : decode cX12_init 107 = .ok (.putfield 47, 3) := by decide +kernel
theorem dX12_init_110 : decode cX12_init 110 = .ok (.aload_n 0, 1) := by decide +kernel
theorem dX12_init_111 : decode cX12_init 111 = .ok (.bipush 12, 2) := by decide +kernel
theorem dX12_init_113 : decode cX12_init 113 = .ok (.newarray .boolean, 2) := by decide +kernel
theorem dX12_init_115 : decode cX12_init 115 = .ok (.putfield 50, 3) := by decide +kernel
theorem dX12_init_118 : decode cX12_init 118 = .ok (.aload_n 0, 1) := by decide +kernel
theorem dX12_init_119 : decode cX12_init 119 = .ok (.sipush 600, 3) := by decide +kernel
theorem dX12_init_122 : decode cX12_init 122 = .ok (.newarray .int, 2) := by decide +kernel
theorem dX12_init_124 : decode cX12_init 124 = .ok (.putfield 53, 3) := by decide +kernel
theorem dX12_init_127 : decode cX12_init 127 = .ok (.aload_n 0, 1) := by decide +kernel
theorem dX12_init_128 : decode cX12_init 128 = .ok (.sipush 600, 3) := by decide +kernel
theorem dX12_init_131 : decode cX12_init 131 = .ok (.newarray .int, 2) := by decide +kernel
theorem dX12_init_133 : decode cX12_init 133 = .ok (.putfield 56, 3) := by decide +kernel
theorem dX12_init_136 : decode cX12_init 136 = .ok (.aload_n 0, 1) := by decide +kernel
theorem dX12_init_137 : decode cX12_init 137 = .ok (.bipush 13, 2) := by decide +kernel
theorem dX12_init_139 : decode cX12_init 139 = .ok (.newarray .int, 2) := by decide +kernel
theorem dX12_init_141 : decode cX12_init 141 = .ok (.putfield 59, 3) := by decide +kernel
theorem dX12_init_144 : decode cX12_init 144 = .ok (.aload_n 0, 1) := by decide +kernel
theorem dX12_init_145 : decode cX12_init 145 = .ok (.bipush 12, 2) := by decide +kernel
theorem dX12_init_147 : decode cX12_init 147 = .ok (.newarray .boolean, 2) := by decide +kernel
theorem dX12_init_149 : decode cX12_init 149 = .ok (.putfield 62, 3) := by decide +kernel
theorem dX12_init_152 : decode cX12_init 152 = .ok (.aload_n 0, 1) := by decide +kernel
theorem dX12_init_153 : decode cX12_init 153 = .ok (.sipush 1000, 3) := by decide +kernel
theorem dX12_init_156 : decode cX12_init 156 = .ok (.newarray .int, 2) := by decide +kernel
theorem dX12_init_158 : decode cX12_init 158 = .ok (.putfield 65, 3) := by decide +kernel
theorem dX12_init_161 : decode cX12_init 161 = .ok (.aload_n 0, 1) := by decide +kernel
theorem dX12_init_162 : decode cX12_init 162 = .ok (.iconst (-1), 1) := by decide +kernel
theorem dX12_init_163 : decode cX12_init 163 = .ok (.putfield 68, 3) := by decide +kernel
theorem dX12_init_166 : decode cX12_init 166 = .ok (.aload_n 0, 1) := by decide +kernel
theorem dX12_init_167 : decode cX12_init 167 = .ok (.sipush 400, 3) := by decide +kernel
theorem dX12_init_170 : decode cX12_init 170 = .ok (.newarray .int, 2) := by decide +kernel
theorem dX12_init_172 : decode cX12_init 172 = .ok (.putfield 72, 3) := by decide +kernel
theorem dX12_init_175 : decode cX12_init 175 = .ok (.aload_n 0, 1) := by decide +kernel
theorem dX12_init_176 : decode cX12_init 176 = .ok (.sipush 400, 3) := by decide +kernel
theorem dX12_init_179 : decode cX12_init 179 = .ok (.newarray .int, 2) := by decide +kernel
theorem dX12_init_181 : decode cX12_init 181 = .ok (.putfield 75, 3) := by decide +kernel
theorem dX12_init_184 : decode cX12_init 184 = .ok (.aload_n 0, 1) := by decide +kernel
theorem dX12_init_185 : decode cX12_init 185 = .ok (.bipush 14, 2) := by decide +kernel
theorem dX12_init_187 : decode cX12_init 187 = .ok (.newarray .int, 2) := by decide +kernel
theorem dX12_init_189 : decode cX12_init 189 = .ok (.putfield 78, 3) := by decide +kernel
theorem dX12_init_192 : decode cX12_init 192 = .ok (.aload_n 0, 1) := by decide +kernel
theorem dX12_init_193 : decode cX12_init 193 = .ok (.bipush 12, 2) := by decide +kernel
theorem dX12_init_195 : decode cX12_init 195 = .ok (.newarray .int, 2) := by decide +kernel
theorem dX12_init_197 : decode cX12_init 197 = .ok (.putfield 81, 3) := by decide +kernel
theorem dX12_init_200 : decode cX12_init 200 = .ok (.aload_n 0, 1) := by decide +kernel
theorem dX12_init_201 : decode cX12_init 201 = .ok (.bipush 12, 2) := by decide +kernel
theorem dX12_init_203 : decode cX12_init 203 = .ok (.newarray .int, 2) := by decide +kernel
theorem dX12_init_205 : decode cX12_init 205 = .ok (.putfield 84, 3) := by decide +kernel
theorem dX12_init_208 : decode cX12_init 208 = .ok (.aload_n 0, 1) := by decide +kernel
theorem dX12_init_209 : decode cX12_init 209 = .ok (.iconst 4, 1) := by decide +kernel
theorem dX12_init_210 : decode cX12_init 210 = .ok (.newarray .int, 2) := by decide +kernel
theorem dX12_init_212 : decode cX12_init 212 = .ok (.putfield 87, 3) := by decide +kernel
theorem dX12_init_215 : decode cX12_init 215 = .ok (.aload_n 0, 1) := by decide +kernel
theorem dX12_init_216 : decode cX12_init 216 = .ok (.bipush 80, 2) := by decide +kernel
theorem dX12_init_218 : decode cX12_init 218 = .ok (.newarray .int, 2) := by decide +kernel
theorem dX12_init_220 : decode cX12_init 220 = .ok (.putfield 90, 3) := by decide +kernel
theorem dX12_init_223 : decode cX12_init 223 = .ok (.aload_n 0, 1) := by decide +kernel
theorem dX12_init_224 : decode cX12_init 224 = .ok (.bipush 80, 2) := by decide +kernel
theorem dX12_init_226 : decode cX12_init 226 = .ok (.newarray .int, 2) := by decide +kernel
theorem dX12_init_228 : decode cX12_init 228 = .ok (.putfield 93, 3) := by decide +kernel
theorem dX12_init_231 : decode cX12_init 231 = .ok (.aload_n 0, 1) := by decide +kernel
theorem dX12_init_232 : decode cX12_init 232 = .ok (.iconst 4, 1) := by decide +kernel
theorem dX12_init_233 : decode cX12_init 233 = .ok (.newarray .int, 2) := by decide +kernel
theorem dX12_init_235 : decode cX12_init 235 = .ok (.putfield 96, 3) := by decide +kernel
theorem dX12_init_238 : decode cX12_init 238 = .ok (.aload_n 0, 1) := by decide +kernel
theorem dX12_init_239 : decode cX12_init 239 = .ok (.bipush 8, 2) := by decide +kernel
theorem dX12_init_241 : decode cX12_init 241 = .ok (.newarray .int, 2) := by decide +kernel
theorem dX12_init_243 : decode cX12_init 243 = .ok (.putfield 99, 3) := by decide +kernel
theorem dX12_init_246 : decode cX12_init 246 = .ok (.aload_n 0, 1) := by decide +kernel
theorem dX12_init_247 : decode cX12_init 247 = .ok (.iconst 3, 1) := by decide +kernel
theorem dX12_init_248 : decode cX12_init 248 = .ok (.newarray .int, 2) := by decide +kernel
theorem dX12_init_250 : decode cX12_init 250 = .ok (.putfield 102, 3) := by decide +kernel
theorem dX12_init_253 : decode cX12_init 253 = .ok (.aload_n 0, 1) := by decide +kernel
theorem dX12_init_254 : decode cX12_init 254 = .ok (.sipush 2000, 3) := by decide +kernel
theorem dX12_init_257 : decode cX12_init 257 = .ok (.newarray .int, 2) := by decide +kernel
theorem dX12_init_259 : decode cX12_init 259 = .ok (.putfield 105, 3) := by decide +kernel
theorem dX12_init_262 : decode cX12_init 262 = .ok (.aload_n 0, 1) := by decide +kernel
theorem dX12_init_263 : decode cX12_init 263 = .ok (.sipush 2000, 3) := by decide +kernel
theorem dX12_init_266 : decode cX12_init 266 = .ok (.newarray .int, 2) := by decide +kernel
theorem dX12_init_268 : decode cX12_init 268 = .ok (.putfield 108, 3) := by decide +kernel
theorem dX12_init_271 : decode cX12_init 271 = .ok (.aload_n 0, 1) := by decide +kernel
theorem dX12_init_272 : decode cX12_init 272 = .ok (.sipush 2000, 3) := by decide +kernel
theorem dX12_init_275 : decode cX12_init 275 = .ok (.newarray .int, 2) := by decide +kernel
theorem dX12_init_277 : decode cX12_init 277 = .ok (.putfield 111, 3) := by decide +kernel
theorem dX12_init_280 : decode cX12_init 280 = .ok (.aload_n 0, 1) := by decide +kernel
theorem dX12_init_281 : decode cX12_init 281 = .ok (.sipush 200, 3) := by decide +kernel
theorem dX12_init_284 : decode cX12_init 284 = .ok (.newarray .int, 2) := by decide +kernel
theorem dX12_init_286 : decode cX12_init 286 = .ok (.putfield 114, 3) := by decide +kernel
theorem dX12_init_289 : decode cX12_init 289 = .ok (.aload_n 0, 1) := by decide +kernel
theorem dX12_init_290 : decode cX12_init 290 = .ok (.sipush 200, 3) := by decide +kernel
theorem dX12_init_293 : decode cX12_init 293 = .ok (.newarray .int, 2) := by decide +kernel
theorem dX12_init_295 : decode cX12_init 295 = .ok (.putfield 117, 3) := by decide +kernel
theorem dX12_init_298 : decode cX12_init 298 = .ok (.aload_n 0, 1) := by decide +kernel
theorem dX12_init_299 : decode cX12_init 299 = .ok (.sipush 200, 3) := by decide +kernel
theorem dX12_init_302 : decode cX12_init 302 = .ok (.newarray .int, 2) := by decide +kernel
theorem dX12_init_304 : decode cX12_init 304 = .ok (.putfield 120, 3) := by decide +kernel
theorem dX12_init_307 : decode cX12_init 307 = .ok (.aload_n 0, 1) := by decide +kernel
theorem dX12_init_308 : decode cX12_init 308 = .ok (.sipush 200, 3) := by decide +kernel
theorem dX12_init_311 : decode cX12_init 311 = .ok (.newarray .int, 2) := by decide +kernel
theorem dX12_init_313 : decode cX12_init 313 = .ok (.putfield 123, 3) := by decide +kernel
theorem dX12_init_316 : decode cX12_init 316 = .ok (.aload_n 0, 1) := by decide +kernel
theorem dX12_init_317 : decode cX12_init 317 = .ok (.sipush 200, 3) := by decide +kernel
theorem dX12_init_320 : decode cX12_init 320 = .ok (.newarray .int, 2) := by decide +kernel
theorem dX12_init_322 : decode cX12_init 322 = .ok (.putfield 126, 3) := by decide +kernel
theorem dX12_init_325 : decode cX12_init 325 = .ok (.aload_n 0, 1) := by decide +kernel
theorem dX12_init_326 : decode cX12_init 326 = .ok (.bipush 20, 2) := by decide +kernel
theorem dX12_init_328 : decode cX12_init 328 = .ok (.newarray .int, 2) := by decide +kernel
theorem dX12_init_330 : decode cX12_init 330 = .ok (.putfield 129, 3) := by decide +kernel
theorem dX12_init_333 : decode cX12_init 333 = .ok (.return_, 1) := by decide +kernel
theorem dX12_isHorse_0 : decode cX12_isHorse 0 = .ok (.iload_n 1, 1) := by decide +kernel
theorem dX12_isHorse_1 : decode cX12_isHorse 1 = .ok (.ifCond .lt 15, 3) := by decide +kernel
theorem dX12_isHorse_4 : decode cX12_isHorse 4 = .ok (.iload_n 1, 1) := by decide +kernel
theorem dX12_isHorse_5 : decode cX12_isHorse 5 = .ok (.aload_n 0, 1) := by decide +kernel
theorem dX12_isHorse_6 : decode cX12_isHorse 6 = .ok (.getfield 132, 3) := by decide +kernel
theorem dX12_isHorse_9 : decode cX12_isHorse 9 = .ok (.if_icmp .ge 7, 3) := by decide +kernel
theorem dX12_isHorse_12 : decode cX12_isHorse 12 = .ok (.iconst 1, 1) := by decide +kernel
theorem dX12_isHorse_13 : decode cX12_isHorse 13 = .ok (.goto 4, 3) := by decide +kernel
theorem dX12_isHorse_16 : decode cX12_isHorse 16 = .ok (.iconst 0, 1) := by decide +kernel
theorem dX12_isHorse_17 : decode cX12_isHorse 17 = .ok (.ireturn, 1) := by decide +kernel
theorem dX12_isField_0 : decode cX12_isField 0 = .ok (.iload_n 0, 1) := by decide +kernel
theorem dX12_isField_1 : decode cX12_isField 1 = .ok (.ifCond .lt 13, 3) := by decide +kernel
theorem dX12_isField_4 : decode cX12_isField 4 = .ok (.iload_n 0, 1) := by decide +kernel
theorem dX12_isField_5 : decode cX12_isField 5 = .ok (.bipush 6, 2) := by decide +kernel
theorem dX12_isField_7 : decode cX12_isField 7 = .ok (.if_icmp .ge 7, 3) := by decide +kernel
theorem dX12_isField_10 : decode cX12_isField 10 = .ok (.iconst 1, 1) := by decide +kernel
theorem dX12_isField_11 : decode cX12_isField 11 = .ok (.goto 4, 3) := by decide +kernel
theorem dX12_isField_14 : decode cX12_isField 14 = .ok (.iconst 0, 1) := by decide +kernel
theorem dX12_isField_15 : decode cX12_isField 15 = .ok (.ireturn, 1) := by decide +kernel
theorem dX12_isBin_0 : decode cX12_isBin 0 = .ok (.iload_n 0, 1) := by decide +kernel
theorem dX12_isBin_1 : decode cX12_isBin 1 = .ok (.ifCond .lt 12, 3) := by decide +kernel
theorem dX12_isBin_4 : decode cX12_isBin 4 = .ok (.iload_n 0, 1) := by decide +kernel
theorem dX12_isBin_5 : decode cX12_isBin 5 = .ok (.iconst 4, 1) := by decide +kernel
theorem dX12_isBin_6 : decode cX12_isBin 6 = .ok (.if_icmp .ge 7, 3) := by decide +kernel
theorem dX12_isBin_9 : decode cX12_isBin 9 = .ok (.iconst 1, 1) := by decide +kernel
theorem dX12_isBin_10 : decode cX12_isBin 10 = .ok (.goto 4, 3) := by decide +kernel
theorem dX12_isBin_13 : decode cX12_isBin 13 = .ok (.iconst 0, 1) := by decide +kernel
theorem dX12_isBin_14 : decode cX12_isBin 14 = .ok (.ireturn, 1) := by decide +kernel
theorem dX12_horse_0 : decode cX12_horse 0 = .ok (.aload_n 0, 1) := by decide +kernel
theorem dX12_horse_1 : decode cX12_horse 1 = .ok (.getfield 132, 3) := by decide +kernel
theorem dX12_horse_4 : decode cX12_horse 4 = .ok (.bipush 12, 2) := by decide +kernel
theorem dX12_horse_6 : decode cX12_horse 6 = .ok (.if_icmp .eq 22, 3) := by decide +kernel
theorem dX12_horse_9 : decode cX12_horse 9 = .ok (.iload_n 1, 1) := by decide +kernel
theorem dX12_horse_10 : decode cX12_horse 10 = .ok (.ifCond .lt 18, 3) := by decide +kernel
theorem dX12_horse_13 : decode cX12_horse 13 = .ok (.iload_n 1, 1) := by decide +kernel
theorem dX12_horse_14 : decode cX12_horse 14 = .ok (.iconst 3, 1) := by decide +kernel
theorem dX12_horse_15 : decode cX12_horse 15 = .ok (.if_icmp .gt 13, 3) := by decide +kernel
theorem dX12_horse_18 : decode cX12_horse 18 = .ok (.iload_n 2, 1) := by decide +kernel
theorem dX12_horse_19 : decode cX12_horse 19 = .ok (.ifCond .lt 9, 3) := by decide +kernel
theorem dX12_horse_22 : decode cX12_horse 22 = .ok (.iload_n 2, 1) := by decide +kernel
theorem dX12_horse_23 : decode cX12_horse 23 = .ok (.bipush 40, 2) := by decide +kernel
theorem dX12_horse_25 : decode cX12_horse 25 = .ok (.if_icmp .le 5, 3) := by decide +kernel
theorem dX12_horse_28 : decode cX12_horse 28 = .ok (.iconst (-1), 1) := by decide +kernel
theorem dX12_horse_29 : decode cX12_horse 29 = .ok (.ireturn, 1) := by decide +kernel
theorem dX12_horse_30 : decode cX12_horse 30 = .ok (.aload_n 0, 1) := by decide +kernel
theorem dX12_horse_31 : decode cX12_horse 31 = .ok (.getfield 7, 3) := by decide +kernel
theorem dX12_horse_34 : decode cX12_horse 34 = .ok (.aload_n 0, 1) := by decide +kernel
theorem dX12_horse_35 : decode cX12_horse 35 = .ok (.getfield 132, 3) := by decide +kernel
theorem dX12_horse_38 : decode cX12_horse 38 = .ok (.iload_n 1, 1) := by decide +kernel
theorem dX12_horse_39 : decode cX12_horse 39 = .ok (.iastore, 1) := by decide +kernel
theorem dX12_horse_40 : decode cX12_horse 40 = .ok (.aload_n 0, 1) := by decide +kernel
theorem dX12_horse_41 : decode cX12_horse 41 = .ok (.getfield 13, 3) := by decide +kernel
theorem dX12_horse_44 : decode cX12_horse 44 = .ok (.aload_n 0, 1) := by decide +kernel
theorem dX12_horse_45 : decode cX12_horse 45 = .ok (.getfield 132, 3) := by decide +kernel
theorem dX12_horse_48 : decode cX12_horse 48 = .ok (.iload_n 2, 1) := by decide +kernel
theorem dX12_horse_49 : decode cX12_horse 49 = .ok (.iastore, 1) := by decide +kernel
theorem dX12_horse_50 : decode cX12_horse 50 = .ok (.aload_n 0, 1) := by decide +kernel
theorem dX12_horse_51 : decode cX12_horse 51 = .ok (.getfield 16, 3) := by decide +kernel
theorem dX12_horse_54 : decode cX12_horse 54 = .ok (.aload_n 0, 1) := by decide +kernel
theorem dX12_horse_55 : decode cX12_horse 55 = .ok (.getfield 132, 3) := by decide +kernel
theorem dX12_horse_58 : decode cX12_horse 58 = .ok (.aload_n 0, 1) := by decide +kernel
theorem dX12_horse_59 : decode cX12_horse 59 = .ok (.getfield 135, 3) := by decide +kernel
theorem dX12_horse_62 : decode cX12_horse 62 = .ok (.iastore, 1) := by decide +kernel
theorem dX12_horse_63 : decode cX12_horse 63 = .ok (.aload_n 0, 1) := by decide +kernel
theorem dX12_horse_64 : decode cX12_horse 64 = .ok (.dup, 1) := by decide +kernel
theorem dX12_horse_65 : decode cX12_horse 65 = .ok (.getfield 132, 3) := by decide +kernel
theorem dX12_horse_68 : decode cX12_horse 68 = .ok (.iconst 1, 1) := by decide +kernel
theorem dX12_horse_69 : decode cX12_horse 69 = .ok (.iadd, 1) := by decide +kernel
theorem dX12_horse_70 : decode cX12_horse 70 = .ok (.putfield 132, 3) := by decide +kernel
theorem dX12_horse_73 : decode cX12_horse 73 = .ok (.aload_n 0, 1) := by decide +kernel
theorem dX12_horse_74 : decode cX12_horse 74 = .ok (.iconst 0, 1) := by decide +kernel
theorem dX12_horse_75 : decode cX12_horse 75 = .ok (.putfield 138, 3) := by decide +kernel
theorem dX12_horse_78 : decode cX12_horse 78 = .ok (.aload_n 0, 1) := by decide +kernel
theorem dX12_horse_79 : decode cX12_horse 79 = .ok (.getfield 132, 3) := by decide +kernel
theorem dX12_horse_82 : decode cX12_horse 82 = .ok (.iconst 1, 1) := by decide +kernel
theorem dX12_horse_83 : decode cX12_horse 83 = .ok (.isub, 1) := by decide +kernel
theorem dX12_horse_84 : decode cX12_horse 84 = .ok (.ireturn, 1) := by decide +kernel
theorem dX12_lame_0 : decode cX12_lame 0 = .ok (.aload_n 0, 1) := by decide +kernel
theorem dX12_lame_1 : decode cX12_lame 1 = .ok (.iload_n 1, 1) := by decide +kernel
theorem dX12_lame_2 : decode cX12_lame 2 = .ok (.invokevirtual 142, 3) := by decide +kernel
theorem dX12_lame_5 : decode cX12_lame 5 = .ok (.ifCond .ne 5, 3) := by decide +kernel
theorem dX12_lame_8 : decode cX12_lame 8 = .ok (.iconst 0, 1) := by decide +kernel
theorem dX12_lame_9 : decode cX12_lame 9 = .ok (.ireturn, 1) := by decide +kernel
theorem dX12_lame_10 : decode cX12_lame 10 = .ok (.aload_n 0, 1) := by decide +kernel
theorem dX12_lame_11 : decode cX12_lame 11 = .ok (.getfield 19, 3) := by decide +kernel
theorem dX12_lame_14 : decode cX12_lame 14 = .ok (.iload_n 1, 1) := by decide +kernel
theorem dX12_lame_15 : decode cX12_lame 15 = .ok (.iload_n 2, 1) := by decide +kernel
theorem dX12_lame_16 : decode cX12_lame 16 = .ok (.ifCond .eq 7, 3) := by decide +kernel
theorem dX12_lame_19 : decode cX12_lame 19 = .ok (.iconst 1, 1) := by decide +kernel
theorem dX12_lame_20 : decode cX12_lame 20 = .ok (.goto 4, 3) := by decide +kernel
theorem dX12_lame_23 : decode cX12_lame 23 = .ok (.iconst 0, 1) := by decide +kernel
theorem dX12_lame_24 : decode cX12_lame 24 = .ok (.iastore, 1) := by decide +kernel
theorem dX12_lame_25 : decode cX12_lame 25 = .ok (.aload_n 0, 1) := by decide +kernel
theorem dX12_lame_26 : decode cX12_lame 26 = .ok (.iconst 0, 1) := by decide +kernel
theorem dX12_lame_27 : decode cX12_lame 27 = .ok (.putfield 138, 3) := by decide +kernel
theorem dX12_lame_30 : decode cX12_lame 30 = .ok (.iconst 1, 1) := by decide +kernel
theorem dX12_lame_31 : decode cX12_lame 31 = .ok (.ireturn, 1) := by decide +kernel
theorem dX12_field_0 : decode cX12_field 0 = .ok (.iload_n 1, 1) := by decide +kernel
theorem dX12_field_1 : decode cX12_field 1 = .ok (.invokestatic 146, 3) := by decide +kernel
theorem dX12_field_4 : decode cX12_field 4 = .ok (.ifCond .eq 23, 3) := by decide +kernel
theorem dX12_field_7 : decode cX12_field 7 = .ok (.iload_n 2, 1) := by decide +kernel
theorem dX12_field_8 : decode cX12_field 8 = .ok (.ifCond .lt 19, 3) := by decide +kernel
theorem dX12_field_11 : decode cX12_field 11 = .ok (.iload_n 2, 1) := by decide +kernel
theorem dX12_field_12 : decode cX12_field 12 = .ok (.bipush 6, 2) := by decide +kernel
theorem dX12_field_14 : decode cX12_field 14 = .ok (.if_icmp .gt 13, 3) := by decide +kernel
theorem dX12_field_17 : decode cX12_field 17 = .ok (.iload_n 3, 1) := by decide +kernel
theorem dX12_field_18 : decode cX12_field 18 = .ok (.ifCond .lt 9, 3) := by decide +kernel
theorem dX12_field_21 : decode cX12_field 21 = .ok (.iload_n 3, 1) := by decide +kernel
theorem dX12_field_22 : decode cX12_field 22 = .ok (.bipush 9, 2) := by decide +kernel
theorem dX12_field_24 : decode cX12_field 24 = .ok (.if_icmp .le 5, 3) := by decide +kernel
theorem dX12_field_27 : decode cX12_field 27 = .ok (.iconst 0, 1) := by decide +kernel
theorem dX12_field_28 : decode cX12_field 28 = .ok (.ireturn, 1) := by decide +kernel
theorem dX12_field_29 : decode cX12_field 29 = .ok (.aload_n 0, 1) := by decide +kernel
theorem dX12_field_30 : decode cX12_field 30 = .ok (.getfield 28, 3) := by decide +kernel
theorem dX12_field_33 : decode cX12_field 33 = .ok (.iload_n 1, 1) := by decide +kernel
theorem dX12_field_34 : decode cX12_field 34 = .ok (.iload_n 2, 1) := by decide +kernel
theorem dX12_field_35 : decode cX12_field 35 = .ok (.iastore, 1) := by decide +kernel
theorem dX12_field_36 : decode cX12_field 36 = .ok (.aload_n 0, 1) := by decide +kernel
theorem dX12_field_37 : decode cX12_field 37 = .ok (.getfield 31, 3) := by decide +kernel
theorem dX12_field_40 : decode cX12_field 40 = .ok (.iload_n 1, 1) := by decide +kernel
theorem dX12_field_41 : decode cX12_field 41 = .ok (.iload_n 3, 1) := by decide +kernel
theorem dX12_field_42 : decode cX12_field 42 = .ok (.iastore, 1) := by decide +kernel
theorem dX12_field_43 : decode cX12_field 43 = .ok (.aload_n 0, 1) := by decide +kernel
theorem dX12_field_44 : decode cX12_field 44 = .ok (.iconst 0, 1) := by decide +kernel
theorem dX12_field_45 : decode cX12_field 45 = .ok (.putfield 138, 3) := by decide +kernel
theorem dX12_field_48 : decode cX12_field 48 = .ok (.iconst 1, 1) := by decide +kernel
theorem dX12_field_49 : decode cX12_field 49 = .ok (.ireturn, 1) := by decide +kernel
theorem dX12_shut_0 : decode cX12_shut 0 = .ok (.iload_n 1, 1) := by decide +kernel
theorem dX12_shut_1 : decode cX12_shut 1 = .ok (.invokestatic 146, 3) := by decide +kernel
theorem dX12_shut_4 : decode cX12_shut 4 = .ok (.ifCond .eq 13, 3) := by decide +kernel
theorem dX12_shut_7 : decode cX12_shut 7 = .ok (.iload_n 2, 1) := by decide +kernel
theorem dX12_shut_8 : decode cX12_shut 8 = .ok (.ifCond .lt 9, 3) := by decide +kernel
theorem dX12_shut_11 : decode cX12_shut 11 = .ok (.iload_n 2, 1) := by decide +kernel
theorem dX12_shut_12 : decode cX12_shut 12 = .ok (.ldc 149, 2) := by decide +kernel
theorem dX12_shut_14 : decode cX12_shut 14 = .ok (.if_icmp .le 5, 3) := by decide +kernel
theorem dX12_shut_17 : decode cX12_shut 17 = .ok (.iconst 0, 1) := by decide +kernel
theorem dX12_shut_18 : decode cX12_shut 18 = .ok (.ireturn, 1) := by decide +kernel
theorem dX12_shut_19 : decode cX12_shut 19 = .ok (.aload_n 0, 1) := by decide +kernel
theorem dX12_shut_20 : decode cX12_shut 20 = .ok (.getfield 34, 3) := by decide +kernel
theorem dX12_shut_23 : decode cX12_shut 23 = .ok (.iload_n 1, 1) := by decide +kernel
theorem dX12_shut_24 : decode cX12_shut 24 = .ok (.iload_n 2, 1) := by decide +kernel
theorem dX12_shut_25 : decode cX12_shut 25 = .ok (.iastore, 1) := by decide +kernel
theorem dX12_shut_26 : decode cX12_shut 26 = .ok (.aload_n 0, 1) := by decide +kernel
theorem dX12_shut_27 : decode cX12_shut 27 = .ok (.iconst 0, 1) := by decide +kernel
theorem dX12_shut_28 : decode cX12_shut 28 = .ok (.putfield 138, 3) := by decide +kernel
theorem dX12_shut_31 : decode cX12_shut 31 = .ok (.iconst 1, 1) := by decide +kernel
theorem dX12_shut_32 : decode cX12_shut 32 = .ok (.ireturn, 1) := by decide +kernel
theorem dX12_gate_0 : decode cX12_gate 0 = .ok (.iload_n 1, 1) := by decide +kernel
theorem dX12_gate_1 : decode cX12_gate 1 = .ok (.invokestatic 146, 3) := by decide +kernel
theorem dX12_gate_4 : decode cX12_gate 4 = .ok (.ifCond .eq 15, 3) := by decide +kernel
theorem dX12_gate_7 : decode cX12_gate 7 = .ok (.iload_n 2, 1) := by decide +kernel
theorem dX12_gate_8 : decode cX12_gate 8 = .ok (.invokestatic 146, 3) := by decide +kernel
theorem dX12_gate_11 : decode cX12_gate 11 = .ok (.ifCond .eq 8, 3) := by decide +kernel
theorem dX12_gate_14 : decode cX12_gate 14 = .ok (.iload_n 1, 1) := by decide +kernel
theorem dX12_gate_15 : decode cX12_gate 15 = .ok (.iload_n 2, 1) := by decide +kernel
theorem dX12_gate_16 : decode cX12_gate 16 = .ok (.if_icmp .ne 5, 3) := by decide +kernel
theorem dX12_gate_19 : decode cX12_gate 19 = .ok (.iconst 0, 1) := by decide +kernel
theorem dX12_gate_20 : decode cX12_gate 20 = .ok (.ireturn, 1) := by decide +kernel
theorem dX12_gate_21 : decode cX12_gate 21 = .ok (.aload_n 0, 1) := by decide +kernel
theorem dX12_gate_22 : decode cX12_gate 22 = .ok (.getfield 37, 3) := by decide +kernel
theorem dX12_gate_25 : decode cX12_gate 25 = .ok (.bipush 6, 2) := by decide +kernel
theorem dX12_gate_27 : decode cX12_gate 27 = .ok (.iload_n 1, 1) := by decide +kernel
theorem dX12_gate_28 : decode cX12_gate 28 = .ok (.imul, 1) := by decide +kernel
theorem dX12_gate_29 : decode cX12_gate 29 = .ok (.iload_n 2, 1) := by decide +kernel
theorem dX12_gate_30 : decode cX12_gate 30 = .ok (.iadd, 1) := by decide +kernel
theorem dX12_gate_31 : decode cX12_gate 31 = .ok (.iload_n 3, 1) := by decide +kernel
theorem dX12_gate_32 : decode cX12_gate 32 = .ok (.bastore, 1) := by decide +kernel
theorem dX12_gate_33 : decode cX12_gate 33 = .ok (.aload_n 0, 1) := by decide +kernel
theorem dX12_gate_34 : decode cX12_gate 34 = .ok (.getfield 37, 3) := by decide +kernel
theorem dX12_gate_37 : decode cX12_gate 37 = .ok (.bipush 6, 2) := by decide +kernel
theorem dX12_gate_39 : decode cX12_gate 39 = .ok (.iload_n 2, 1) := by decide +kernel
theorem dX12_gate_40 : decode cX12_gate 40 = .ok (.imul, 1) := by decide +kernel
theorem dX12_gate_41 : decode cX12_gate 41 = .ok (.iload_n 1, 1) := by decide +kernel
theorem dX12_gate_42 : decode cX12_gate 42 = .ok (.iadd, 1) := by decide +kernel
theorem dX12_gate_43 : decode cX12_gate 43 = .ok (.iload_n 3, 1) := by decide +kernel
theorem dX12_gate_44 : decode cX12_gate 44 = .ok (.bastore, 1) := by decide +kernel
theorem dX12_gate_45 : decode cX12_gate 45 = .ok (.aload_n 0, 1) := by decide +kernel
theorem dX12_gate_46 : decode cX12_gate 46 = .ok (.iconst 0, 1) := by decide +kernel
theorem dX12_gate_47 : decode cX12_gate 47 = .ok (.putfield 138, 3) := by decide +kernel
theorem dX12_gate_50 : decode cX12_gate 50 = .ok (.iconst 1, 1) := by decide +kernel
theorem dX12_gate_51 : decode cX12_gate 51 = .ok (.ireturn, 1) := by decide +kernel
theorem dX12_feed_0 : decode cX12_feed 0 = .ok (.aload_n 0, 1) := by decide +kernel
theorem dX12_feed_1 : decode cX12_feed 1 = .ok (.getfield 150, 3) := by decide +kernel
theorem dX12_feed_4 : decode cX12_feed 4 = .ok (.bipush 20, 2) := by decide +kernel
theorem dX12_feed_6 : decode cX12_feed 6 = .ok (.iadd, 1) := by decide +kernel
theorem dX12_feed_7 : decode cX12_feed 7 = .ok (.sipush 1000, 3) := by decide +kernel
theorem dX12_feed_10 : decode cX12_feed 10 = .ok (.if_icmp .le 5, 3) := by decide +kernel
theorem dX12_feed_13 : decode cX12_feed 13 = .ok (.iconst (-1), 1) := by decide +kernel
theorem dX12_feed_14 : decode cX12_feed 14 = .ok (.ireturn, 1) := by decide +kernel
theorem dX12_feed_15 : decode cX12_feed 15 = .ok (.aload_n 0, 1) := by decide +kernel
theorem dX12_feed_16 : decode cX12_feed 16 = .ok (.iload_n 1, 1) := by decide +kernel
theorem dX12_feed_17 : decode cX12_feed 17 = .ok (.invokevirtual 153, 3) := by decide +kernel
theorem dX12_feed_20 : decode cX12_feed 20 = .ok (.aload_n 0, 1) := by decide +kernel
theorem dX12_feed_21 : decode cX12_feed 21 = .ok (.iload_n 2, 1) := by decide +kernel
theorem dX12_feed_22 : decode cX12_feed 22 = .ok (.invokevirtual 153, 3) := by decide +kernel
theorem dX12_feed_25 : decode cX12_feed 25 = .ok (.aload_n 0, 1) := by decide +kernel
theorem dX12_feed_26 : decode cX12_feed 26 = .ok (.iload_n 3, 1) := by decide +kernel
theorem dX12_feed_27 : decode cX12_feed 27 = .ok (.invokevirtual 153, 3) := by decide +kernel
theorem dX12_feed_30 : decode cX12_feed 30 = .ok (.aload_n 0, 1) := by decide +kernel
theorem dX12_feed_31 : decode cX12_feed 31 = .ok (.iload 4, 2) := by decide +kernel
theorem dX12_feed_33 : decode cX12_feed 33 = .ok (.invokevirtual 153, 3) := by decide +kernel
theorem dX12_feed_36 : decode cX12_feed 36 = .ok (.aload_n 0, 1) := by decide +kernel
theorem dX12_feed_37 : decode cX12_feed 37 = .ok (.iload 5, 2) := by decide +kernel
theorem dX12_feed_39 : decode cX12_feed 39 = .ok (.invokevirtual 153, 3) := by decide +kernel
theorem dX12_feed_42 : decode cX12_feed 42 = .ok (.aload_n 0, 1) := by decide +kernel
theorem dX12_feed_43 : decode cX12_feed 43 = .ok (.getfield 150, 3) := by decide +kernel
theorem dX12_feed_46 : decode cX12_feed 46 = .ok (.ireturn, 1) := by decide +kernel
theorem dX12_four_0 : decode cX12_four 0 = .ok (.bipush 24, 2) := by decide +kernel
theorem dX12_four_2 : decode cX12_four 2 = .ok (.istore_n 2, 1) := by decide +kernel
theorem dX12_four_3 : decode cX12_four 3 = .ok (.iload_n 2, 1) := by decide +kernel
theorem dX12_four_4 : decode cX12_four 4 = .ok (.ifCond .lt 35, 3) := by decide +kernel
theorem dX12_four_7 : decode cX12_four 7 = .ok (.aload_n 0, 1) := by decide +kernel
theorem dX12_four_8 : decode cX12_four 8 = .ok (.getfield 65, 3) := by decide +kernel
theorem dX12_four_11 : decode cX12_four 11 = .ok (.aload_n 0, 1) := by decide +kernel
theorem dX12_four_12 : decode cX12_four 12 = .ok (.getfield 150, 3) := by decide +kernel
theorem dX12_four_15 : decode cX12_four 15 = .ok (.iload_n 1, 1) := by decide +kernel
theorem dX12_four_16 : decode cX12_four 16 = .ok (.iload_n 2, 1) := by decide +kernel
theorem dX12_four_17 : decode cX12_four 17 = .ok (.ishr, 1) := by decide +kernel
theorem dX12_four_18 : decode cX12_four 18 = .ok (.sipush 255, 3) := by decide +kernel
theorem dX12_four_21 : decode cX12_four 21 = .ok (.iand, 1) := by decide +kernel
theorem dX12_four_22 : decode cX12_four 22 = .ok (.iastore, 1) := by decide +kernel
theorem dX12_four_23 : decode cX12_four 23 = .ok (.aload_n 0, 1) := by decide +kernel
theorem dX12_four_24 : decode cX12_four 24 = .ok (.dup, 1) := by decide +kernel
theorem dX12_four_25 : decode cX12_four 25 = .ok (.getfield 150, 3) := by decide +kernel
theorem dX12_four_28 : decode cX12_four 28 = .ok (.iconst 1, 1) := by decide +kernel
theorem dX12_four_29 : decode cX12_four 29 = .ok (.iadd, 1) := by decide +kernel
theorem dX12_four_30 : decode cX12_four 30 = .ok (.putfield 150, 3) := by decide +kernel
theorem dX12_four_33 : decode cX12_four 33 = .ok (.iinc 2 (-8), 3) := by decide +kernel
theorem dX12_four_36 : decode cX12_four 36 = .ok (.goto (-33), 3) := by decide +kernel
theorem dX12_four_39 : decode cX12_four 39 = .ok (.return_, 1) := by decide +kernel
theorem dX12_end_0 : decode cX12_end 0 = .ok (.iload_n 1, 1) := by decide +kernel
theorem dX12_end_1 : decode cX12_end 1 = .ok (.ifCond .lt 11, 3) := by decide +kernel
theorem dX12_end_4 : decode cX12_end 4 = .ok (.iload_n 1, 1) := by decide +kernel
theorem dX12_end_5 : decode cX12_end 5 = .ok (.aload_n 0, 1) := by decide +kernel
theorem dX12_end_6 : decode cX12_end 6 = .ok (.getfield 150, 3) := by decide +kernel
theorem dX12_end_9 : decode cX12_end 9 = .ok (.if_icmp .le 5, 3) := by decide +kernel
theorem dX12_end_12 : decode cX12_end 12 = .ok (.iconst (-1), 1) := by decide +kernel
theorem dX12_end_13 : decode cX12_end 13 = .ok (.ireturn, 1) := by decide +kernel
theorem dX12_end_14 : decode cX12_end 14 = .ok (.aload_n 0, 1) := by decide +kernel
theorem dX12_end_15 : decode cX12_end 15 = .ok (.iload_n 1, 1) := by decide +kernel
theorem dX12_end_16 : decode cX12_end 16 = .ok (.putfield 150, 3) := by decide +kernel
theorem dX12_end_19 : decode cX12_end 19 = .ok (.iload_n 1, 1) := by decide +kernel
theorem dX12_end_20 : decode cX12_end 20 = .ok (.ireturn, 1) := by decide +kernel
theorem dX12_here_0 : decode cX12_here 0 = .ok (.aload_n 0, 1) := by decide +kernel
theorem dX12_here_1 : decode cX12_here 1 = .ok (.getfield 157, 3) := by decide +kernel
theorem dX12_here_4 : decode cX12_here 4 = .ok (.iload_n 1, 1) := by decide +kernel
theorem dX12_here_5 : decode cX12_here 5 = .ok (.iadd, 1) := by decide +kernel
theorem dX12_here_6 : decode cX12_here 6 = .ok (.aload_n 0, 1) := by decide +kernel
theorem dX12_here_7 : decode cX12_here 7 = .ok (.getfield 160, 3) := by decide +kernel
theorem dX12_here_10 : decode cX12_here 10 = .ok (.if_icmp .ge 17, 3) := by decide +kernel
theorem dX12_here_13 : decode cX12_here 13 = .ok (.aload_n 0, 1) := by decide +kernel
theorem dX12_here_14 : decode cX12_here 14 = .ok (.getfield 65, 3) := by decide +kernel
theorem dX12_here_17 : decode cX12_here 17 = .ok (.aload_n 0, 1) := by decide +kernel
theorem dX12_here_18 : decode cX12_here 18 = .ok (.getfield 157, 3) := by decide +kernel
theorem dX12_here_21 : decode cX12_here 21 = .ok (.iload_n 1, 1) := by decide +kernel
theorem dX12_here_22 : decode cX12_here 22 = .ok (.iadd, 1) := by decide +kernel
theorem dX12_here_23 : decode cX12_here 23 = .ok (.iaload, 1) := by decide +kernel
theorem dX12_here_24 : decode cX12_here 24 = .ok (.goto 4, 3) := by decide +kernel
theorem dX12_here_27 : decode cX12_here 27 = .ok (.iconst (-1), 1) := by decide +kernel
theorem dX12_here_28 : decode cX12_here 28 = .ok (.ireturn, 1) := by decide +kernel
theorem dX12_isLetter_0 : decode cX12_isLetter 0 = .ok (.iload_n 0, 1) := by decide +kernel
theorem dX12_isLetter_1 : decode cX12_isLetter 1 = .ok (.bipush 97, 2) := by decide +kernel
theorem dX12_isLetter_3 : decode cX12_isLetter 3 = .ok (.if_icmp .lt 13, 3) := by decide +kernel
theorem dX12_isLetter_6 : decode cX12_isLetter 6 = .ok (.iload_n 0, 1) := by decide +kernel
theorem dX12_isLetter_7 : decode cX12_isLetter 7 = .ok (.bipush 122, 2) := by decide +kernel
theorem dX12_isLetter_9 : decode cX12_isLetter 9 = .ok (.if_icmp .gt 7, 3) := by decide +kernel
theorem dX12_isLetter_12 : decode cX12_isLetter 12 = .ok (.iconst 1, 1) := by decide +kernel
theorem dX12_isLetter_13 : decode cX12_isLetter 13 = .ok (.goto 4, 3) := by decide +kernel
theorem dX12_isLetter_16 : decode cX12_isLetter 16 = .ok (.iconst 0, 1) := by decide +kernel
theorem dX12_isLetter_17 : decode cX12_isLetter 17 = .ok (.ireturn, 1) := by decide +kernel
theorem dX12_isDigit_0 : decode cX12_isDigit 0 = .ok (.iload_n 0, 1) := by decide +kernel
theorem dX12_isDigit_1 : decode cX12_isDigit 1 = .ok (.bipush 48, 2) := by decide +kernel
theorem dX12_isDigit_3 : decode cX12_isDigit 3 = .ok (.if_icmp .lt 13, 3) := by decide +kernel
theorem dX12_isDigit_6 : decode cX12_isDigit 6 = .ok (.iload_n 0, 1) := by decide +kernel
theorem dX12_isDigit_7 : decode cX12_isDigit 7 = .ok (.bipush 57, 2) := by decide +kernel
theorem dX12_isDigit_9 : decode cX12_isDigit 9 = .ok (.if_icmp .gt 7, 3) := by decide +kernel
theorem dX12_isDigit_12 : decode cX12_isDigit 12 = .ok (.iconst 1, 1) := by decide +kernel
theorem dX12_isDigit_13 : decode cX12_isDigit 13 = .ok (.goto 4, 3) := by decide +kernel
theorem dX12_isDigit_16 : decode cX12_isDigit 16 = .ok (.iconst 0, 1) := by decide +kernel
theorem dX12_isDigit_17 : decode cX12_isDigit 17 = .ok (.ireturn, 1) := by decide +kernel
theorem dX12_isSign_0 : decode cX12_isSign 0 = .ok (.iload_n 0, 1) := by decide +kernel
theorem dX12_isSign_1 : decode cX12_isSign 1 = .ok (.bipush 59, 2) := by decide +kernel
theorem dX12_isSign_3 : decode cX12_isSign 3 = .ok (.if_icmp .eq 45, 3) := by decide +kernel
theorem dX12_isSign_6 : decode cX12_isSign 6 = .ok (.iload_n 0, 1) := by decide +kernel
theorem dX12_isSign_7 : decode cX12_isSign 7 = .ok (.bipush 61, 2) := by decide +kernel
theorem dX12_isSign_9 : decode cX12_isSign 9 = .ok (.if_icmp .eq 39, 3) := by decide +kernel
theorem dX12_isSign_12 : decode cX12_isSign 12 = .ok (.iload_n 0, 1) := by decide +kernel
theorem dX12_isSign_13 : decode cX12_isSign 13 = .ok (.bipush 60, 2) := by decide +kernel
theorem dX12_isSign_15 : decode cX12_isSign 15 = .ok (.if_icmp .eq 33, 3) := by decide +kernel
theorem dX12_isSign_18 : decode cX12_isSign 18 = .ok (.iload_n 0, 1) := by decide +kernel
theorem dX12_isSign_19 : decode cX12_isSign 19 = .ok (.bipush 62, 2) := by decide +kernel
theorem dX12_isSign_21 : decode cX12_isSign 21 = .ok (.if_icmp .eq 27, 3) := by decide +kernel
theorem dX12_isSign_24 : decode cX12_isSign 24 = .ok (.iload_n 0, 1) := by decide +kernel
theorem dX12_isSign_25 : decode cX12_isSign 25 = .ok (.bipush 43, 2) := by decide +kernel
theorem dX12_isSign_27 : decode cX12_isSign 27 = .ok (.if_icmp .eq 21, 3) := by decide +kernel
theorem dX12_isSign_30 : decode cX12_isSign 30 = .ok (.iload_n 0, 1) := by decide +kernel
theorem dX12_isSign_31 : decode cX12_isSign 31 = .ok (.bipush 45, 2) := by decide +kernel
theorem dX12_isSign_33 : decode cX12_isSign 33 = .ok (.if_icmp .eq 15, 3) := by decide +kernel
theorem dX12_isSign_36 : decode cX12_isSign 36 = .ok (.iload_n 0, 1) := by decide +kernel
theorem dX12_isSign_37 : decode cX12_isSign 37 = .ok (.bipush 40, 2) := by decide +kernel
theorem dX12_isSign_39 : decode cX12_isSign 39 = .ok (.if_icmp .eq 9, 3) := by decide +kernel
theorem dX12_isSign_42 : decode cX12_isSign 42 = .ok (.iload_n 0, 1) := by decide +kernel
theorem dX12_isSign_43 : decode cX12_isSign 43 = .ok (.bipush 41, 2) := by decide +kernel
theorem dX12_isSign_45 : decode cX12_isSign 45 = .ok (.if_icmp .ne 7, 3) := by decide +kernel
theorem dX12_isSign_48 : decode cX12_isSign 48 = .ok (.iconst 1, 1) := by decide +kernel
theorem dX12_isSign_49 : decode cX12_isSign 49 = .ok (.goto 4, 3) := by decide +kernel
theorem dX12_isSign_52 : decode cX12_isSign 52 = .ok (.iconst 0, 1) := by decide +kernel
theorem dX12_isSign_53 : decode cX12_isSign 53 = .ok (.ireturn, 1) := by decide +kernel
theorem dX12_next_0 : decode cX12_next 0 = .ok (.aload_n 0, 1) := by decide +kernel
theorem dX12_next_1 : decode cX12_next 1 = .ok (.iconst 0, 1) := by decide +kernel
theorem dX12_next_2 : decode cX12_next 2 = .ok (.invokevirtual 163, 3) := by decide +kernel
theorem dX12_next_5 : decode cX12_next 5 = .ok (.bipush 32, 2) := by decide +kernel
theorem dX12_next_7 : decode cX12_next 7 = .ok (.if_icmp .eq 13, 3) := by decide +kernel
theorem dX12_next_10 : decode cX12_next 10 = .ok (.aload_n 0, 1) := by decide +kernel
theorem dX12_next_11 : decode cX12_next 11 = .ok (.iconst 0, 1) := by decide +kernel
theorem dX12_next_12 : decode cX12_next 12 = .ok (.invokevirtual 163, 3) := by decide +kernel
theorem dX12_next_15 : decode cX12_next 15 = .ok (.bipush 10, 2) := by decide +kernel
theorem dX12_next_17 : decode cX12_next 17 = .ok (.if_icmp .ne 16, 3) := by decide +kernel
theorem dX12_next_20 : decode cX12_next 20 = .ok (.aload_n 0, 1) := by decide +kernel
theorem dX12_next_21 : decode cX12_next 21 = .ok (.dup, 1) := by decide +kernel
theorem dX12_next_22 : decode cX12_next 22 = .ok (.getfield 157, 3) := by decide +kernel
theorem dX12_next_25 : decode cX12_next 25 = .ok (.iconst 1, 1) := by decide +kernel
theorem dX12_next_26 : decode cX12_next 26 = .ok (.iadd, 1) := by decide +kernel
theorem dX12_next_27 : decode cX12_next 27 = .ok (.putfield 157, 3) := by decide +kernel
theorem dX12_next_30 : decode cX12_next 30 = .ok (.goto (-30), 3) := by decide +kernel
theorem dX12_next_33 : decode cX12_next 33 = .ok (.aload_n 0, 1) := by decide +kernel
theorem dX12_next_34 : decode cX12_next 34 = .ok (.aload_n 0, 1) := by decide +kernel
theorem dX12_next_35 : decode cX12_next 35 = .ok (.getfield 157, 3) := by decide +kernel
theorem dX12_next_38 : decode cX12_next 38 = .ok (.putfield 167, 3) := by decide +kernel
theorem dX12_next_41 : decode cX12_next 41 = .ok (.aload_n 0, 1) := by decide +kernel
theorem dX12_next_42 : decode cX12_next 42 = .ok (.iconst 0, 1) := by decide +kernel
theorem dX12_next_43 : decode cX12_next 43 = .ok (.invokevirtual 163, 3) := by decide +kernel
theorem dX12_next_46 : decode cX12_next 46 = .ok (.istore_n 1, 1) := by decide +kernel
theorem dX12_next_47 : decode cX12_next 47 = .ok (.iconst 0, 1) := by decide +kernel
theorem dX12_next_48 : decode cX12_next 48 = .ok (.istore_n 2, 1) := by decide +kernel
theorem dX12_next_49 : decode cX12_next 49 = .ok (.aload_n 0, 1) := by decide +kernel
theorem dX12_next_50 : decode cX12_next 50 = .ok (.lconst 0, 1) := by decide +kernel
theorem dX12_next_51 : decode cX12_next 51 = .ok (.putfield 170, 3) := by decide +kernel
theorem dX12_next_54 : decode cX12_next 54 = .ok (.aload_n 0, 1) := by decide +kernel
theorem dX12_next_55 : decode cX12_next 55 = .ok (.iconst 0, 1) := by decide +kernel
theorem dX12_next_56 : decode cX12_next 56 = .ok (.putfield 174, 3) := by decide +kernel
theorem dX12_next_59 : decode cX12_next 59 = .ok (.iload_n 1, 1) := by decide +kernel
theorem dX12_next_60 : decode cX12_next 60 = .ok (.ifCond .ge 11, 3) := by decide +kernel
theorem dX12_next_63 : decode cX12_next 63 = .ok (.aload_n 0, 1) := by decide +kernel
theorem dX12_next_64 : decode cX12_next 64 = .ok (.iconst 0, 1) := by decide +kernel
theorem dX12_next_65 : decode cX12_next 65 = .ok (.putfield 177, 3) := by decide +kernel
theorem dX12_next_68 : decode cX12_next 68 = .ok (.goto 177, 3) := by decide +kernel
theorem dX12_next_71 : decode cX12_next 71 = .ok (.iload_n 1, 1) := by decide +kernel
theorem dX12_next_72 : decode cX12_next 72 = .ok (.invokestatic 180, 3) := by decide +kernel
theorem dX12_next_75 : decode cX12_next 75 = .ok (.ifCond .eq 73, 3) := by decide +kernel
theorem dX12_next_78 : decode cX12_next 78 = .ok (.aload_n 0, 1) := by decide +kernel
theorem dX12_next_79 : decode cX12_next 79 = .ok (.iload_n 2, 1) := by decide +kernel
theorem dX12_next_80 : decode cX12_next 80 = .ok (.invokevirtual 163, 3) := by decide +kernel
theorem dX12_next_83 : decode cX12_next 83 = .ok (.invokestatic 180, 3) := by decide +kernel
theorem dX12_next_86 : decode cX12_next 86 = .ok (.ifCond .ne 14, 3) := by decide +kernel
theorem dX12_next_89 : decode cX12_next 89 = .ok (.aload_n 0, 1) := by decide +kernel
theorem dX12_next_90 : decode cX12_next 90 = .ok (.iload_n 2, 1) := by decide +kernel
theorem dX12_next_91 : decode cX12_next 91 = .ok (.invokevirtual 163, 3) := by decide +kernel
theorem dX12_next_94 : decode cX12_next 94 = .ok (.invokestatic 183, 3) := by decide +kernel
theorem dX12_next_97 : decode cX12_next 97 = .ok (.ifCond .eq 33, 3) := by decide +kernel
theorem dX12_next_100 : decode cX12_next 100 = .ok (.iload_n 2, 1) := by decide +kernel
theorem dX12_next_101 : decode cX12_next 101 = .ok (.bipush 8, 2) := by decide +kernel
theorem dX12_next_103 : decode cX12_next 103 = .ok (.if_icmp .ge 21, 3) := by decide +kernel
theorem dX12_next_106 : decode cX12_next 106 = .ok (.aload_n 0, 1) := by decide +kernel
theorem dX12_next_107 : decode cX12_next 107 = .ok (.aload_n 0, 1) := by decide +kernel
theorem dX12_next_108 : decode cX12_next 108 = .ok (.getfield 170, 3) := by decide +kernel
theorem dX12_next_111 : decode cX12_next 111 = .ok (.bipush 8, 2) := by decide +kernel
theorem dX12_next_113 : decode cX12_next 113 = .ok (.lshl, 1) := by decide +kernel
theorem dX12_next_114 : decode cX12_next 114 = .ok (.aload_n 0, 1) := by decide +kernel
theorem dX12_next_115 : decode cX12_next 115 = .ok (.iload_n 2, 1) := by decide +kernel
theorem dX12_next_116 : decode cX12_next 116 = .ok (.invokevirtual 163, 3) := by decide +kernel
theorem dX12_next_119 : decode cX12_next 119 = .ok (.i2l, 1) := by decide +kernel
theorem dX12_next_120 : decode cX12_next 120 = .ok (.lor, 1) := by decide +kernel
theorem dX12_next_121 : decode cX12_next 121 = .ok (.putfield 170, 3) := by decide +kernel
theorem dX12_next_124 : decode cX12_next 124 = .ok (.iinc 2 1, 3) := by decide +kernel
theorem dX12_next_127 : decode cX12_next 127 = .ok (.goto (-49), 3) := by decide +kernel
theorem dX12_next_130 : decode cX12_next 130 = .ok (.aload_n 0, 1) := by decide +kernel
theorem dX12_next_131 : decode cX12_next 131 = .ok (.iload_n 2, 1) := by decide +kernel
theorem dX12_next_132 : decode cX12_next 132 = .ok (.bipush 8, 2) := by decide +kernel
theorem dX12_next_134 : decode cX12_next 134 = .ok (.if_icmp .le 7, 3) := by decide +kernel
theorem dX12_next_137 : decode cX12_next 137 = .ok (.iconst 3, 1) := by decide +kernel
theorem dX12_next_138 : decode cX12_next 138 = .ok (.goto 4, 3) := by decide +kernel
theorem dX12_next_141 : decode cX12_next 141 = .ok (.iconst 1, 1) := by decide +kernel
theorem dX12_next_142 : decode cX12_next 142 = .ok (.putfield 177, 3) := by decide +kernel
theorem dX12_next_145 : decode cX12_next 145 = .ok (.goto 100, 3) := by decide +kernel
theorem dX12_next_148 : decode cX12_next 148 = .ok (.iload_n 1, 1) := by decide +kernel
theorem dX12_next_149 : decode cX12_next 149 = .ok (.invokestatic 183, 3) := by decide +kernel
theorem dX12_next_152 : decode cX12_next 152 = .ok (.ifCond .eq 75, 3) := by decide +kernel
theorem dX12_next_155 : decode cX12_next 155 = .ok (.aload_n 0, 1) := by decide +kernel
theorem dX12_next_156 : decode cX12_next 156 = .ok (.iload_n 2, 1) := by decide +kernel
theorem dX12_next_157 : decode cX12_next 157 = .ok (.invokevirtual 163, 3) := by decide +kernel
theorem dX12_next_160 : decode cX12_next 160 = .ok (.invokestatic 183, 3) := by decide +kernel
theorem dX12_next_163 : decode cX12_next 163 = .ok (.ifCond .eq 35, 3) := by decide +kernel
theorem dX12_next_166 : decode cX12_next 166 = .ok (.iload_n 2, 1) := by decide +kernel
theorem dX12_next_167 : decode cX12_next 167 = .ok (.bipush 6, 2) := by decide +kernel
theorem dX12_next_169 : decode cX12_next 169 = .ok (.if_icmp .ge 23, 3) := by decide +kernel
theorem dX12_next_172 : decode cX12_next 172 = .ok (.aload_n 0, 1) := by decide +kernel
theorem dX12_next_173 : decode cX12_next 173 = .ok (.bipush 10, 2) := by decide +kernel
theorem dX12_next_175 : decode cX12_next 175 = .ok (.aload_n 0, 1) := by decide +kernel
theorem dX12_next_176 : decode cX12_next 176 = .ok (.getfield 174, 3) := by decide +kernel
theorem dX12_next_179 : decode cX12_next 179 = .ok (.imul, 1) := by decide +kernel
theorem dX12_next_180 : decode cX12_next 180 = .ok (.aload_n 0, 1) := by decide +kernel
theorem dX12_next_181 : decode cX12_next 181 = .ok (.iload_n 2, 1) := by decide +kernel
theorem dX12_next_182 : decode cX12_next 182 = .ok (.invokevirtual 163, 3) := by decide +kernel
theorem dX12_next_185 : decode cX12_next 185 = .ok (.iadd, 1) := by decide +kernel
theorem dX12_next_186 : decode cX12_next 186 = .ok (.bipush 48, 2) := by decide +kernel
theorem dX12_next_188 : decode cX12_next 188 = .ok (.isub, 1) := by decide +kernel
theorem dX12_next_189 : decode cX12_next 189 = .ok (.putfield 174, 3) := by decide +kernel
theorem dX12_next_192 : decode cX12_next 192 = .ok (.iinc 2 1, 3) := by decide +kernel
theorem dX12_next_195 : decode cX12_next 195 = .ok (.goto (-40), 3) := by decide +kernel
theorem dX12_next_198 : decode cX12_next 198 = .ok (.aload_n 0, 1) := by decide +kernel
theorem dX12_next_199 : decode cX12_next 199 = .ok (.iload_n 2, 1) := by decide +kernel
theorem dX12_next_200 : decode cX12_next 200 = .ok (.bipush 6, 2) := by decide +kernel
theorem dX12_next_202 : decode cX12_next 202 = .ok (.if_icmp .gt 14, 3) := by decide +kernel
theorem dX12_next_205 : decode cX12_next 205 = .ok (.aload_n 0, 1) := by decide +kernel
theorem dX12_next_206 : decode cX12_next 206 = .ok (.iload_n 2, 1) := by decide +kernel
theorem dX12_next_207 : decode cX12_next 207 = .ok (.invokevirtual 163, 3) := by decide +kernel
theorem dX12_next_210 : decode cX12_next 210 = .ok (.invokestatic 180, 3) := by decide +kernel
theorem dX12_next_213 : decode cX12_next 213 = .ok (.ifCond .eq 7, 3) := by decide +kernel
theorem dX12_next_216 : decode cX12_next 216 = .ok (.iconst 3, 1) := by decide +kernel
theorem dX12_next_217 : decode cX12_next 217 = .ok (.goto 4, 3) := by decide +kernel
theorem dX12_next_220 : decode cX12_next 220 = .ok (.iconst 2, 1) := by decide +kernel
theorem dX12_next_221 : decode cX12_next 221 = .ok (.putfield 177, 3) := by decide +kernel
theorem dX12_next_224 : decode cX12_next 224 = .ok (.goto 21, 3) := by decide +kernel
theorem dX12_next_227 : decode cX12_next 227 = .ok (.iconst 1, 1) := by decide +kernel
theorem dX12_next_228 : decode cX12_next 228 = .ok (.istore_n 2, 1) := by decide +kernel
theorem dX12_next_229 : decode cX12_next 229 = .ok (.aload_n 0, 1) := by decide +kernel
theorem dX12_next_230 : decode cX12_next 230 = .ok (.iload_n 1, 1) := by decide +kernel
theorem dX12_next_231 : decode cX12_next 231 = .ok (.invokestatic 186, 3) := by decide +kernel
theorem dX12_next_234 : decode cX12_next 234 = .ok (.ifCond .eq 7, 3) := by decide +kernel
theorem dX12_next_237 : decode cX12_next 237 = .ok (.iload_n 1, 1) := by decide +kernel
theorem dX12_next_238 : decode cX12_next 238 = .ok (.goto 4, 3) := by decide +kernel
theorem dX12_next_241 : decode cX12_next 241 = .ok (.iconst 3, 1) := by decide +kernel
theorem dX12_next_242 : decode cX12_next 242 = .ok (.putfield 177, 3) := by decide +kernel
theorem dX12_next_245 : decode cX12_next 245 = .ok (.aload_n 0, 1) := by decide +kernel
theorem dX12_next_246 : decode cX12_next 246 = .ok (.getfield 177, 3) := by decide +kernel
theorem dX12_next_249 : decode cX12_next 249 = .ok (.iconst 3, 1) := by decide +kernel
theorem dX12_next_250 : decode cX12_next 250 = .ok (.if_icmp .eq 13, 3) := by decide +kernel
theorem dX12_next_253 : decode cX12_next 253 = .ok (.aload_n 0, 1) := by decide +kernel
theorem dX12_next_254 : decode cX12_next 254 = .ok (.dup, 1) := by decide +kernel
theorem dX12_next_255 : decode cX12_next 255 = .ok (.getfield 157, 3) := by decide +kernel
theorem dX12_next_258 : decode cX12_next 258 = .ok (.iload_n 2, 1) := by decide +kernel
theorem dX12_next_259 : decode cX12_next 259 = .ok (.iadd, 1) := by decide +kernel
theorem dX12_next_260 : decode cX12_next 260 = .ok (.putfield 157, 3) := by decide +kernel
theorem dX12_next_263 : decode cX12_next 263 = .ok (.return_, 1) := by decide +kernel
theorem dX12_wrong_0 : decode cX12_wrong 0 = .ok (.aload_n 0, 1) := by decide +kernel
theorem dX12_wrong_1 : decode cX12_wrong 1 = .ok (.getfield 189, 3) := by decide +kernel
theorem dX12_wrong_4 : decode cX12_wrong 4 = .ok (.ifCond .le 4, 3) := by decide +kernel
theorem dX12_wrong_7 : decode cX12_wrong 7 = .ok (.return_, 1) := by decide +kernel
theorem dX12_wrong_8 : decode cX12_wrong 8 = .ok (.aload_n 0, 1) := by decide +kernel
theorem dX12_wrong_9 : decode cX12_wrong 9 = .ok (.aload_n 0, 1) := by decide +kernel
theorem dX12_wrong_10 : decode cX12_wrong 10 = .ok (.getfield 177, 3) := by decide +kernel
theorem dX12_wrong_13 : decode cX12_wrong 13 = .ok (.iconst 3, 1) := by decide +kernel
theorem dX12_wrong_14 : decode cX12_wrong 14 = .ok (.if_icmp .ne 7, 3) := by decide +kernel
theorem dX12_wrong_17 : decode cX12_wrong 17 = .ok (.iconst 1, 1) := by decide +kernel
theorem dX12_wrong_18 : decode cX12_wrong 18 = .ok (.goto 4, 3) := by decide +kernel
theorem dX12_wrong_21 : decode cX12_wrong 21 = .ok (.iload_n 1, 1) := by decide +kernel
theorem dX12_wrong_22 : decode cX12_wrong 22 = .ok (.putfield 189, 3) := by decide +kernel
theorem dX12_wrong_25 : decode cX12_wrong 25 = .ok (.aload_n 0, 1) := by decide +kernel
theorem dX12_wrong_26 : decode cX12_wrong 26 = .ok (.aload_n 0, 1) := by decide +kernel
theorem dX12_wrong_27 : decode cX12_wrong 27 = .ok (.getfield 167, 3) := by decide +kernel
theorem dX12_wrong_30 : decode cX12_wrong 30 = .ok (.putfield 68, 3) := by decide +kernel
theorem dX12_wrong_33 : decode cX12_wrong 33 = .ok (.return_, 1) := by decide +kernel
theorem dX12_isWord_0 : decode cX12_isWord 0 = .ok (.aload_n 0, 1) := by decide +kernel
theorem dX12_isWord_1 : decode cX12_isWord 1 = .ok (.getfield 177, 3) := by decide +kernel
theorem dX12_isWord_4 : decode cX12_isWord 4 = .ok (.iconst 1, 1) := by decide +kernel
theorem dX12_isWord_5 : decode cX12_isWord 5 = .ok (.if_icmp .ne 16, 3) := by decide +kernel
theorem dX12_isWord_8 : decode cX12_isWord 8 = .ok (.aload_n 0, 1) := by decide +kernel
theorem dX12_isWord_9 : decode cX12_isWord 9 = .ok (.getfield 170, 3) := by decide +kernel
theorem dX12_isWord_12 : decode cX12_isWord 12 = .ok (.lload_n 1, 1) := by decide +kernel
theorem dX12_isWord_13 : decode cX12_isWord 13 = .ok (.lcmp, 1) := by decide +kernel
theorem dX12_isWord_14 : decode cX12_isWord 14 = .ok (.ifCond .ne 7, 3) := by decide +kernel
theorem dX12_isWord_17 : decode cX12_isWord 17 = .ok (.iconst 1, 1) := by decide +kernel
theorem dX12_isWord_18 : decode cX12_isWord 18 = .ok (.goto 4, 3) := by decide +kernel
theorem dX12_isWord_21 : decode cX12_isWord 21 = .ok (.iconst 0, 1) := by decide +kernel
theorem dX12_isWord_22 : decode cX12_isWord 22 = .ok (.ireturn, 1) := by decide +kernel
theorem dX12_named_0 : decode cX12_named 0 = .ok (.aload_n 0, 1) := by decide +kernel
theorem dX12_named_1 : decode cX12_named 1 = .ok (.getfield 170, 3) := by decide +kernel
theorem dX12_named_4 : decode cX12_named 4 = .ok (.ldc2_w 192, 3) := by decide +kernel
theorem dX12_named_7 : decode cX12_named 7 = .ok (.lcmp, 1) := by decide +kernel
theorem dX12_named_8 : decode cX12_named 8 = .ok (.ifCond .ne 5, 3) := by decide +kernel
theorem dX12_named_11 : decode cX12_named 11 = .ok (.iconst 0, 1) := by decide +kernel
theorem dX12_named_12 : decode cX12_named 12 = .ok (.ireturn, 1) := by decide +kernel
theorem dX12_named_13 : decode cX12_named 13 = .ok (.aload_n 0, 1) := by decide +kernel
theorem dX12_named_14 : decode cX12_named 14 = .ok (.getfield 170, 3) := by decide +kernel
theorem dX12_named_17 : decode cX12_named 17 = .ok (.ldc2_w 194, 3) := by decide +kernel
theorem dX12_named_20 : decode cX12_named 20 = .ok (.lcmp, 1) := by decide +kernel
theorem dX12_named_21 : decode cX12_named 21 = .ok (.ifCond .ne 5, 3) := by decide +kernel
theorem dX12_named_24 : decode cX12_named 24 = .ok (.iconst 1, 1) := by decide +kernel
theorem dX12_named_25 : decode cX12_named 25 = .ok (.ireturn, 1) := by decide +kernel
theorem dX12_named_26 : decode cX12_named 26 = .ok (.aload_n 0, 1) := by decide +kernel
theorem dX12_named_27 : decode cX12_named 27 = .ok (.getfield 170, 3) := by decide +kernel
theorem dX12_named_30 : decode cX12_named 30 = .ok (.ldc2_w 196, 3) := by decide +kernel
theorem dX12_named_33 : decode cX12_named 33 = .ok (.lcmp, 1) := by decide +kernel
theorem dX12_named_34 : decode cX12_named 34 = .ok (.ifCond .ne 5, 3) := by decide +kernel
theorem dX12_named_37 : decode cX12_named 37 = .ok (.iconst 2, 1) := by decide +kernel
theorem dX12_named_38 : decode cX12_named 38 = .ok (.ireturn, 1) := by decide +kernel
theorem dX12_named_39 : decode cX12_named 39 = .ok (.aload_n 0, 1) := by decide +kernel
theorem dX12_named_40 : decode cX12_named 40 = .ok (.getfield 170, 3) := by decide +kernel
theorem dX12_named_43 : decode cX12_named 43 = .ok (.ldc2_w 198, 3) := by decide +kernel
theorem dX12_named_46 : decode cX12_named 46 = .ok (.lcmp, 1) := by decide +kernel
theorem dX12_named_47 : decode cX12_named 47 = .ok (.ifCond .ne 5, 3) := by decide +kernel
theorem dX12_named_50 : decode cX12_named 50 = .ok (.iconst 3, 1) := by decide +kernel
theorem dX12_named_51 : decode cX12_named 51 = .ok (.ireturn, 1) := by decide +kernel
theorem dX12_named_52 : decode cX12_named 52 = .ok (.aload_n 0, 1) := by decide +kernel
theorem dX12_named_53 : decode cX12_named 53 = .ok (.getfield 170, 3) := by decide +kernel
theorem dX12_named_56 : decode cX12_named 56 = .ok (.ldc2_w 200, 3) := by decide +kernel
theorem dX12_named_59 : decode cX12_named 59 = .ok (.lcmp, 1) := by decide +kernel
theorem dX12_named_60 : decode cX12_named 60 = .ok (.ifCond .ne 5, 3) := by decide +kernel
theorem dX12_named_63 : decode cX12_named 63 = .ok (.iconst 4, 1) := by decide +kernel
theorem dX12_named_64 : decode cX12_named 64 = .ok (.ireturn, 1) := by decide +kernel
theorem dX12_named_65 : decode cX12_named 65 = .ok (.aload_n 0, 1) := by decide +kernel
theorem dX12_named_66 : decode cX12_named 66 = .ok (.getfield 170, 3) := by decide +kernel
theorem dX12_named_69 : decode cX12_named 69 = .ok (.ldc2_w 202, 3) := by decide +kernel
theorem dX12_named_72 : decode cX12_named 72 = .ok (.lcmp, 1) := by decide +kernel
theorem dX12_named_73 : decode cX12_named 73 = .ok (.ifCond .ne 5, 3) := by decide +kernel
theorem dX12_named_76 : decode cX12_named 76 = .ok (.iconst 5, 1) := by decide +kernel
theorem dX12_named_77 : decode cX12_named 77 = .ok (.ireturn, 1) := by decide +kernel
theorem dX12_named_78 : decode cX12_named 78 = .ok (.aload_n 0, 1) := by decide +kernel
theorem dX12_named_79 : decode cX12_named 79 = .ok (.getfield 170, 3) := by decide +kernel
theorem dX12_named_82 : decode cX12_named 82 = .ok (.ldc2_w 204, 3) := by decide +kernel
theorem dX12_named_85 : decode cX12_named 85 = .ok (.lcmp, 1) := by decide +kernel
theorem dX12_named_86 : decode cX12_named 86 = .ok (.ifCond .ne 6, 3) := by decide +kernel
theorem dX12_named_89 : decode cX12_named 89 = .ok (.bipush 6, 2) := by decide +kernel
theorem dX12_named_91 : decode cX12_named 91 = .ok (.ireturn, 1) := by decide +kernel
theorem dX12_named_92 : decode cX12_named 92 = .ok (.aload_n 0, 1) := by decide +kernel
theorem dX12_named_93 : decode cX12_named 93 = .ok (.getfield 170, 3) := by decide +kernel
theorem dX12_named_96 : decode cX12_named 96 = .ok (.ldc2_w 206, 3) := by decide +kernel
theorem dX12_named_99 : decode cX12_named 99 = .ok (.lcmp, 1) := by decide +kernel
theorem dX12_named_100 : decode cX12_named 100 = .ok (.ifCond .ne 6, 3) := by decide +kernel
theorem dX12_named_103 : decode cX12_named 103 = .ok (.bipush 7, 2) := by decide +kernel
theorem dX12_named_105 : decode cX12_named 105 = .ok (.ireturn, 1) := by decide +kernel
theorem dX12_named_106 : decode cX12_named 106 = .ok (.aload_n 0, 1) := by decide +kernel
theorem dX12_named_107 : decode cX12_named 107 = .ok (.getfield 170, 3) := by decide +kernel
theorem dX12_named_110 : decode cX12_named 110 = .ok (.ldc2_w 208, 3) := by decide +kernel
theorem dX12_named_113 : decode cX12_named 113 = .ok (.lcmp, 1) := by decide +kernel
theorem dX12_named_114 : decode cX12_named 114 = .ok (.ifCond .ne 6, 3) := by decide +kernel
theorem dX12_named_117 : decode cX12_named 117 = .ok (.bipush 8, 2) := by decide +kernel
theorem dX12_named_119 : decode cX12_named 119 = .ok (.ireturn, 1) := by decide +kernel
theorem dX12_named_120 : decode cX12_named 120 = .ok (.aload_n 0, 1) := by decide +kernel
theorem dX12_named_121 : decode cX12_named 121 = .ok (.getfield 170, 3) := by decide +kernel
theorem dX12_named_124 : decode cX12_named 124 = .ok (.ldc2_w 210, 3) := by decide +kernel
theorem dX12_named_127 : decode cX12_named 127 = .ok (.lcmp, 1) := by decide +kernel
theorem dX12_named_128 : decode cX12_named 128 = .ok (.ifCond .ne 6, 3) := by decide +kernel
theorem dX12_named_131 : decode cX12_named 131 = .ok (.bipush 9, 2) := by decide +kernel
theorem dX12_named_133 : decode cX12_named 133 = .ok (.ireturn, 1) := by decide +kernel
theorem dX12_named_134 : decode cX12_named 134 = .ok (.aload_n 0, 1) := by decide +kernel
theorem dX12_named_135 : decode cX12_named 135 = .ok (.getfield 170, 3) := by decide +kernel
theorem dX12_named_138 : decode cX12_named 138 = .ok (.ldc2_w 212, 3) := by decide +kernel
theorem dX12_named_141 : decode cX12_named 141 = .ok (.lcmp, 1) := by decide +kernel
theorem dX12_named_142 : decode cX12_named 142 = .ok (.ifCond .ne 6, 3) := by decide +kernel
theorem dX12_named_145 : decode cX12_named 145 = .ok (.bipush 10, 2) := by decide +kernel
theorem dX12_named_147 : decode cX12_named 147 = .ok (.ireturn, 1) := by decide +kernel
theorem dX12_named_148 : decode cX12_named 148 = .ok (.aload_n 0, 1) := by decide +kernel
theorem dX12_named_149 : decode cX12_named 149 = .ok (.getfield 170, 3) := by decide +kernel
theorem dX12_named_152 : decode cX12_named 152 = .ok (.ldc2_w 214, 3) := by decide +kernel
theorem dX12_named_155 : decode cX12_named 155 = .ok (.lcmp, 1) := by decide +kernel
theorem dX12_named_156 : decode cX12_named 156 = .ok (.ifCond .ne 6, 3) := by decide +kernel
theorem dX12_named_159 : decode cX12_named 159 = .ok (.bipush 11, 2) := by decide +kernel
theorem dX12_named_161 : decode cX12_named 161 = .ok (.ireturn, 1) := by decide +kernel
theorem dX12_named_162 : decode cX12_named 162 = .ok (.aload_n 0, 1) := by decide +kernel
theorem dX12_named_163 : decode cX12_named 163 = .ok (.getfield 170, 3) := by decide +kernel
theorem dX12_named_166 : decode cX12_named 166 = .ok (.ldc2_w 216, 3) := by decide +kernel
theorem dX12_named_169 : decode cX12_named 169 = .ok (.lcmp, 1) := by decide +kernel
theorem dX12_named_170 : decode cX12_named 170 = .ok (.ifCond .ne 6, 3) := by decide +kernel
theorem dX12_named_173 : decode cX12_named 173 = .ok (.bipush 12, 2) := by decide +kernel
theorem dX12_named_175 : decode cX12_named 175 = .ok (.ireturn, 1) := by decide +kernel
theorem dX12_named_176 : decode cX12_named 176 = .ok (.aload_n 0, 1) := by decide +kernel
theorem dX12_named_177 : decode cX12_named 177 = .ok (.getfield 170, 3) := by decide +kernel
theorem dX12_named_180 : decode cX12_named 180 = .ok (.ldc2_w 218, 3) := by decide +kernel
theorem dX12_named_183 : decode cX12_named 183 = .ok (.lcmp, 1) := by decide +kernel
theorem dX12_named_184 : decode cX12_named 184 = .ok (.ifCond .ne 8, 3) := by decide +kernel
theorem dX12_named_187 : decode cX12_named 187 = .ok (.bipush 13, 2) := by decide +kernel
theorem dX12_named_189 : decode cX12_named 189 = .ok (.goto 4, 3) := by decide +kernel
theorem dX12_named_192 : decode cX12_named 192 = .ok (.iconst (-1), 1) := by decide +kernel
theorem dX12_named_193 : decode cX12_named 193 = .ok (.ireturn, 1) := by decide +kernel
theorem dX12_step_0 : decode cX12_step 0 = .ok (.aload_n 0, 1) := by decide +kernel
theorem dX12_step_1 : decode cX12_step 1 = .ok (.getfield 53, 3) := by decide +kernel
theorem dX12_step_4 : decode cX12_step 4 = .ok (.aload_n 0, 1) := by decide +kernel
theorem dX12_step_5 : decode cX12_step 5 = .ok (.getfield 220, 3) := by decide +kernel
theorem dX12_step_8 : decode cX12_step 8 = .ok (.iload_n 1, 1) := by decide +kernel
theorem dX12_step_9 : decode cX12_step 9 = .ok (.iastore, 1) := by decide +kernel
theorem dX12_step_10 : decode cX12_step 10 = .ok (.aload_n 0, 1) := by decide +kernel
theorem dX12_step_11 : decode cX12_step 11 = .ok (.getfield 56, 3) := by decide +kernel
theorem dX12_step_14 : decode cX12_step 14 = .ok (.aload_n 0, 1) := by decide +kernel
theorem dX12_step_15 : decode cX12_step 15 = .ok (.getfield 220, 3) := by decide +kernel
theorem dX12_step_18 : decode cX12_step 18 = .ok (.iload_n 2, 1) := by decide +kernel
theorem dX12_step_19 : decode cX12_step 19 = .ok (.iastore, 1) := by decide +kernel
theorem dX12_step_20 : decode cX12_step 20 = .ok (.aload_n 0, 1) := by decide +kernel
theorem dX12_step_21 : decode cX12_step 21 = .ok (.dup, 1) := by decide +kernel
theorem dX12_step_22 : decode cX12_step 22 = .ok (.getfield 220, 3) := by decide +kernel
theorem dX12_step_25 : decode cX12_step 25 = .ok (.iconst 1, 1) := by decide +kernel
theorem dX12_step_26 : decode cX12_step 26 = .ok (.iadd, 1) := by decide +kernel
theorem dX12_step_27 : decode cX12_step 27 = .ok (.putfield 220, 3) := by decide +kernel
theorem dX12_step_30 : decode cX12_step 30 = .ok (.return_, 1) := by decide +kernel
theorem dX12_hold_0 : decode cX12_hold 0 = .ok (.aload_n 0, 1) := by decide +kernel
theorem dX12_hold_1 : decode cX12_hold 1 = .ok (.getfield 72, 3) := by decide +kernel
theorem dX12_hold_4 : decode cX12_hold 4 = .ok (.aload_n 0, 1) := by decide +kernel
theorem dX12_hold_5 : decode cX12_hold 5 = .ok (.getfield 223, 3) := by decide +kernel
theorem dX12_hold_8 : decode cX12_hold 8 = .ok (.iload_n 1, 1) := by decide +kernel
theorem dX12_hold_9 : decode cX12_hold 9 = .ok (.iastore, 1) := by decide +kernel
theorem dX12_hold_10 : decode cX12_hold 10 = .ok (.aload_n 0, 1) := by decide +kernel
theorem dX12_hold_11 : decode cX12_hold 11 = .ok (.dup, 1) := by decide +kernel
theorem dX12_hold_12 : decode cX12_hold 12 = .ok (.getfield 223, 3) := by decide +kernel
theorem dX12_hold_15 : decode cX12_hold 15 = .ok (.iconst 1, 1) := by decide +kernel
theorem dX12_hold_16 : decode cX12_hold 16 = .ok (.iadd, 1) := by decide +kernel
theorem dX12_hold_17 : decode cX12_hold 17 = .ok (.putfield 223, 3) := by decide +kernel
theorem dX12_hold_20 : decode cX12_hold 20 = .ok (.iload_n 1, 1) := by decide +kernel
theorem dX12_hold_21 : decode cX12_hold 21 = .ok (.bipush 48, 2) := by decide +kernel
theorem dX12_hold_23 : decode cX12_hold 23 = .ok (.if_icmp .eq 9, 3) := by decide +kernel
theorem dX12_hold_26 : decode cX12_hold 26 = .ok (.iload_n 1, 1) := by decide +kernel
theorem dX12_hold_27 : decode cX12_hold 27 = .ok (.bipush 40, 2) := by decide +kernel
theorem dX12_hold_29 : decode cX12_hold 29 = .ok (.if_icmp .ne 13, 3) := by decide +kernel
theorem dX12_hold_32 : decode cX12_hold 32 = .ok (.aload_n 0, 1) := by decide +kernel
theorem dX12_hold_33 : decode cX12_hold 33 = .ok (.dup, 1) := by decide +kernel
theorem dX12_hold_34 : decode cX12_hold 34 = .ok (.getfield 226, 3) := by decide +kernel
theorem dX12_hold_37 : decode cX12_hold 37 = .ok (.iconst 1, 1) := by decide +kernel
theorem dX12_hold_38 : decode cX12_hold 38 = .ok (.iadd, 1) := by decide +kernel
theorem dX12_hold_39 : decode cX12_hold 39 = .ok (.putfield 226, 3) := by decide +kernel
theorem dX12_hold_42 : decode cX12_hold 42 = .ok (.return_, 1) := by decide +kernel
theorem dX12_settle_0 : decode cX12_settle 0 = .ok (.aload_n 0, 1) := by decide +kernel
theorem dX12_settle_1 : decode cX12_settle 1 = .ok (.getfield 223, 3) := by decide +kernel
theorem dX12_settle_4 : decode cX12_settle 4 = .ok (.ifCond .le 85, 3) := by decide +kernel
theorem dX12_settle_7 : decode cX12_settle 7 = .ok (.aload_n 0, 1) := by decide +kernel
theorem dX12_settle_8 : decode cX12_settle 8 = .ok (.getfield 72, 3) := by decide +kernel
theorem dX12_settle_11 : decode cX12_settle 11 = .ok (.aload_n 0, 1) := by decide +kernel
theorem dX12_settle_12 : decode cX12_settle 12 = .ok (.getfield 223, 3) := by decide +kernel
theorem dX12_settle_15 : decode cX12_settle 15 = .ok (.iconst 1, 1) := by decide +kernel
theorem dX12_settle_16 : decode cX12_settle 16 = .ok (.isub, 1) := by decide +kernel
theorem dX12_settle_17 : decode cX12_settle 17 = .ok (.iaload, 1) := by decide +kernel
theorem dX12_settle_18 : decode cX12_settle 18 = .ok (.bipush 48, 2) := by decide +kernel
theorem dX12_settle_20 : decode cX12_settle 20 = .ok (.if_icmp .eq 69, 3) := by decide +kernel
theorem dX12_settle_23 : decode cX12_settle 23 = .ok (.aload_n 0, 1) := by decide +kernel
theorem dX12_settle_24 : decode cX12_settle 24 = .ok (.getfield 72, 3) := by decide +kernel
theorem dX12_settle_27 : decode cX12_settle 27 = .ok (.aload_n 0, 1) := by decide +kernel
theorem dX12_settle_28 : decode cX12_settle 28 = .ok (.getfield 223, 3) := by decide +kernel
theorem dX12_settle_31 : decode cX12_settle 31 = .ok (.iconst 1, 1) := by decide +kernel
theorem dX12_settle_32 : decode cX12_settle 32 = .ok (.isub, 1) := by decide +kernel
theorem dX12_settle_33 : decode cX12_settle 33 = .ok (.iaload, 1) := by decide +kernel
theorem dX12_settle_34 : decode cX12_settle 34 = .ok (.iload_n 1, 1) := by decide +kernel
theorem dX12_settle_35 : decode cX12_settle 35 = .ok (.if_icmp .lt 54, 3) := by decide +kernel
theorem dX12_settle_38 : decode cX12_settle 38 = .ok (.aload_n 0, 1) := by decide +kernel
theorem dX12_settle_39 : decode cX12_settle 39 = .ok (.dup, 1) := by decide +kernel
theorem dX12_settle_40 : decode cX12_settle 40 = .ok (.getfield 223, 3) := by decide +kernel
theorem dX12_settle_43 : decode cX12_settle 43 = .ok (.iconst 1, 1) := by decide +kernel
theorem dX12_settle_44 : decode cX12_settle 44 = .ok (.isub, 1) := by decide +kernel
theorem dX12_settle_45 : decode cX12_settle 45 = .ok (.putfield 223, 3) := by decide +kernel
theorem dX12_settle_48 : decode cX12_settle 48 = .ok (.aload_n 0, 1) := by decide +kernel
theorem dX12_settle_49 : decode cX12_settle 49 = .ok (.getfield 72, 3) := by decide +kernel
theorem dX12_settle_52 : decode cX12_settle 52 = .ok (.aload_n 0, 1) := by decide +kernel
theorem dX12_settle_53 : decode cX12_settle 53 = .ok (.getfield 223, 3) := by decide +kernel
theorem dX12_settle_56 : decode cX12_settle 56 = .ok (.iaload, 1) := by decide +kernel
theorem dX12_settle_57 : decode cX12_settle 57 = .ok (.bipush 40, 2) := by decide +kernel
theorem dX12_settle_59 : decode cX12_settle 59 = .ok (.if_icmp .ne 13, 3) := by decide +kernel
theorem dX12_settle_62 : decode cX12_settle 62 = .ok (.aload_n 0, 1) := by decide +kernel
theorem dX12_settle_63 : decode cX12_settle 63 = .ok (.dup, 1) := by decide +kernel
theorem dX12_settle_64 : decode cX12_settle 64 = .ok (.getfield 226, 3) := by decide +kernel
theorem dX12_settle_67 : decode cX12_settle 67 = .ok (.iconst 1, 1) := by decide +kernel
theorem dX12_settle_68 : decode cX12_settle 68 = .ok (.isub, 1) := by decide +kernel
theorem dX12_settle_69 : decode cX12_settle 69 = .ok (.putfield 226, 3) := by decide +kernel
theorem dX12_settle_72 : decode cX12_settle 72 = .ok (.aload_n 0, 1) := by decide +kernel
theorem dX12_settle_73 : decode cX12_settle 73 = .ok (.aload_n 0, 1) := by decide +kernel
theorem dX12_settle_74 : decode cX12_settle 74 = .ok (.getfield 72, 3) := by decide +kernel
theorem dX12_settle_77 : decode cX12_settle 77 = .ok (.aload_n 0, 1) := by decide +kernel
theorem dX12_settle_78 : decode cX12_settle 78 = .ok (.getfield 223, 3) := by decide +kernel
theorem dX12_settle_81 : decode cX12_settle 81 = .ok (.iaload, 1) := by decide +kernel
theorem dX12_settle_82 : decode cX12_settle 82 = .ok (.iconst 0, 1) := by decide +kernel
theorem dX12_settle_83 : decode cX12_settle 83 = .ok (.invokevirtual 229, 3) := by decide +kernel
theorem dX12_settle_86 : decode cX12_settle 86 = .ok (.goto (-86), 3) := by decide +kernel
theorem dX12_settle_89 : decode cX12_settle 89 = .ok (.return_, 1) := by decide +kernel
theorem dX12_isOpen_0 : decode cX12_isOpen 0 = .ok (.iconst 0, 1) := by decide +kernel
theorem dX12_isOpen_1 : decode cX12_isOpen 1 = .ok (.istore_n 1, 1) := by decide +kernel
theorem dX12_isOpen_2 : decode cX12_isOpen 2 = .ok (.iconst 0, 1) := by decide +kernel
theorem dX12_isOpen_3 : decode cX12_isOpen 3 = .ok (.istore_n 2, 1) := by decide +kernel
theorem dX12_isOpen_4 : decode cX12_isOpen 4 = .ok (.iload_n 2, 1) := by decide +kernel
theorem dX12_isOpen_5 : decode cX12_isOpen 5 = .ok (.aload_n 0, 1) := by decide +kernel
theorem dX12_isOpen_6 : decode cX12_isOpen 6 = .ok (.getfield 223, 3) := by decide +kernel
theorem dX12_isOpen_9 : decode cX12_isOpen 9 = .ok (.if_icmp .ge 30, 3) := by decide +kernel
theorem dX12_isOpen_12 : decode cX12_isOpen 12 = .ok (.iload_n 1, 1) := by decide +kernel
theorem dX12_isOpen_13 : decode cX12_isOpen 13 = .ok (.ifCond .ne 14, 3) := by decide +kernel
theorem dX12_isOpen_16 : decode cX12_isOpen 16 = .ok (.aload_n 0, 1) := by decide +kernel
theorem dX12_isOpen_17 : decode cX12_isOpen 17 = .ok (.getfield 72, 3) := by decide +kernel
theorem dX12_isOpen_20 : decode cX12_isOpen 20 = .ok (.iload_n 2, 1) := by decide +kernel
theorem dX12_isOpen_21 : decode cX12_isOpen 21 = .ok (.iaload, 1) := by decide +kernel
theorem dX12_isOpen_22 : decode cX12_isOpen 22 = .ok (.bipush 48, 2) := by decide +kernel
theorem dX12_isOpen_24 : decode cX12_isOpen 24 = .ok (.if_icmp .ne 7, 3) := by decide +kernel
theorem dX12_isOpen_27 : decode cX12_isOpen 27 = .ok (.iconst 1, 1) := by decide +kernel
theorem dX12_isOpen_28 : decode cX12_isOpen 28 = .ok (.goto 4, 3) := by decide +kernel
theorem dX12_isOpen_31 : decode cX12_isOpen 31 = .ok (.iconst 0, 1) := by decide +kernel
theorem dX12_isOpen_32 : decode cX12_isOpen 32 = .ok (.istore_n 1, 1) := by decide +kernel
theorem dX12_isOpen_33 : decode cX12_isOpen 33 = .ok (.iinc 2 1, 3) := by decide +kernel
theorem dX12_isOpen_36 : decode cX12_isOpen 36 = .ok (.goto (-32), 3) := by decide +kernel
theorem dX12_isOpen_39 : decode cX12_isOpen 39 = .ok (.iload_n 1, 1) := by decide +kernel
theorem dX12_isOpen_40 : decode cX12_isOpen 40 = .ok (.ireturn, 1) := by decide +kernel
theorem dX12_readE_0 : decode cX12_readE 0 = .ok (.aload_n 0, 1) := by decide +kernel
theorem dX12_readE_1 : decode cX12_readE 1 = .ok (.iconst 0, 1) := by decide +kernel
theorem dX12_readE_2 : decode cX12_readE 2 = .ok (.putfield 223, 3) := by decide +kernel
theorem dX12_readE_5 : decode cX12_readE 5 = .ok (.aload_n 0, 1) := by decide +kernel
theorem dX12_readE_6 : decode cX12_readE 6 = .ok (.iconst 0, 1) := by decide +kernel
theorem dX12_readE_7 : decode cX12_readE 7 = .ok (.putfield 226, 3) := by decide +kernel
theorem dX12_readE_10 : decode cX12_readE 10 = .ok (.iconst 0, 1) := by decide +kernel
theorem dX12_readE_11 : decode cX12_readE 11 = .ok (.istore_n 2, 1) := by decide +kernel
theorem dX12_readE_12 : decode cX12_readE 12 = .ok (.aload_n 0, 1) := by decide +kernel
theorem dX12_readE_13 : decode cX12_readE 13 = .ok (.getfield 189, 3) := by decide +kernel
theorem dX12_readE_16 : decode cX12_readE 16 = .ok (.ifCond .ne 47, 3) := by decide +kernel
theorem dX12_readE_19 : decode cX12_readE 19 = .ok (.iload_n 2, 1) := by decide +kernel
theorem dX12_readE_20 : decode cX12_readE 20 = .ok (.iconst 2, 1) := by decide +kernel
theorem dX12_readE_21 : decode cX12_readE 21 = .ok (.if_icmp .ne 19, 3) := by decide +kernel
theorem dX12_readE_24 : decode cX12_readE 24 = .ok (.aload_n 0, 1) := by decide +kernel
theorem dX12_readE_25 : decode cX12_readE 25 = .ok (.getfield 177, 3) := by decide +kernel
theorem dX12_readE_28 : decode cX12_readE 28 = .ok (.bipush 59, 2) := by decide +kernel
theorem dX12_readE_30 : decode cX12_readE 30 = .ok (.if_icmp .ne 10, 3) := by decide +kernel
theorem dX12_readE_33 : decode cX12_readE 33 = .ok (.aload_n 0, 1) := by decide +kernel
theorem dX12_readE_34 : decode cX12_readE 34 = .ok (.invokevirtual 233, 3) := by decide +kernel
theorem dX12_readE_37 : decode cX12_readE 37 = .ok (.ifCond .eq 26, 3) := by decide +kernel
theorem dX12_readE_40 : decode cX12_readE 40 = .ok (.iload_n 2, 1) := by decide +kernel
theorem dX12_readE_41 : decode cX12_readE 41 = .ok (.iconst 2, 1) := by decide +kernel
theorem dX12_readE_42 : decode cX12_readE 42 = .ok (.if_icmp .ne 11, 3) := by decide +kernel
theorem dX12_readE_45 : decode cX12_readE 45 = .ok (.aload_n 0, 1) := by decide +kernel
theorem dX12_readE_46 : decode cX12_readE 46 = .ok (.invokevirtual 237, 3) := by decide +kernel
theorem dX12_readE_49 : decode cX12_readE 49 = .ok (.istore_n 2, 1) := by decide +kernel
theorem dX12_readE_50 : decode cX12_readE 50 = .ok (.goto (-38), 3) := by decide +kernel
theorem dX12_readE_53 : decode cX12_readE 53 = .ok (.aload_n 0, 1) := by decide +kernel
theorem dX12_readE_54 : decode cX12_readE 54 = .ok (.iload_n 2, 1) := by decide +kernel
theorem dX12_readE_55 : decode cX12_readE 55 = .ok (.iload_n 1, 1) := by decide +kernel
theorem dX12_readE_56 : decode cX12_readE 56 = .ok (.invokevirtual 241, 3) := by decide +kernel
theorem dX12_readE_59 : decode cX12_readE 59 = .ok (.istore_n 2, 1) := by decide +kernel
theorem dX12_readE_60 : decode cX12_readE 60 = .ok (.goto (-48), 3) := by decide +kernel
theorem dX12_readE_63 : decode cX12_readE 63 = .ok (.aload_n 0, 1) := by decide +kernel
theorem dX12_readE_64 : decode cX12_readE 64 = .ok (.getfield 189, 3) := by decide +kernel
theorem dX12_readE_67 : decode cX12_readE 67 = .ok (.ifCond .ne 8, 3) := by decide +kernel
theorem dX12_readE_70 : decode cX12_readE 70 = .ok (.aload_n 0, 1) := by decide +kernel
theorem dX12_readE_71 : decode cX12_readE 71 = .ok (.iconst 0, 1) := by decide +kernel
theorem dX12_readE_72 : decode cX12_readE 72 = .ok (.invokevirtual 245, 3) := by decide +kernel
theorem dX12_readE_75 : decode cX12_readE 75 = .ok (.return_, 1) := by decide +kernel
theorem dX12_operand_0 : decode cX12_operand 0 = .ok (.aload_n 0, 1) := by decide +kernel
theorem dX12_operand_1 : decode cX12_operand 1 = .ok (.getfield 177, 3) := by decide +kernel
theorem dX12_operand_4 : decode cX12_operand 4 = .ok (.iconst 2, 1) := by decide +kernel
theorem dX12_operand_5 : decode cX12_operand 5 = .ok (.if_icmp .eq 66, 3) := by decide +kernel
theorem dX12_operand_8 : decode cX12_operand 8 = .ok (.aload_n 0, 1) := by decide +kernel
theorem dX12_operand_9 : decode cX12_operand 9 = .ok (.getfield 177, 3) := by decide +kernel
theorem dX12_operand_12 : decode cX12_operand 12 = .ok (.iconst 1, 1) := by decide +kernel
theorem dX12_operand_13 : decode cX12_operand 13 = .ok (.if_icmp .ne 62, 3) := by decide +kernel
theorem dX12_operand_16 : decode cX12_operand 16 = .ok (.aload_n 0, 1) := by decide +kernel
theorem dX12_operand_17 : decode cX12_operand 17 = .ok (.getfield 170, 3) := by decide +kernel
theorem dX12_operand_20 : decode cX12_operand 20 = .ok (.ldc2_w 248, 3) := by decide +kernel
theorem dX12_operand_23 : decode cX12_operand 23 = .ok (.lcmp, 1) := by decide +kernel
theorem dX12_operand_24 : decode cX12_operand 24 = .ok (.ifCond .eq 51, 3) := by decide +kernel
theorem dX12_operand_27 : decode cX12_operand 27 = .ok (.aload_n 0, 1) := by decide +kernel
theorem dX12_operand_28 : decode cX12_operand 28 = .ok (.getfield 170, 3) := by decide +kernel
theorem dX12_operand_31 : decode cX12_operand 31 = .ok (.ldc2_w 250, 3) := by decide +kernel
theorem dX12_operand_34 : decode cX12_operand 34 = .ok (.lcmp, 1) := by decide +kernel
theorem dX12_operand_35 : decode cX12_operand 35 = .ok (.ifCond .eq 40, 3) := by decide +kernel
theorem dX12_operand_38 : decode cX12_operand 38 = .ok (.aload_n 0, 1) := by decide +kernel
theorem dX12_operand_39 : decode cX12_operand 39 = .ok (.getfield 170, 3) := by decide +kernel
theorem dX12_operand_42 : decode cX12_operand 42 = .ok (.ldc2_w 252, 3) := by decide +kernel
theorem dX12_operand_45 : decode cX12_operand 45 = .ok (.lcmp, 1) := by decide +kernel
theorem dX12_operand_46 : decode cX12_operand 46 = .ok (.ifCond .eq 29, 3) := by decide +kernel
theorem dX12_operand_49 : decode cX12_operand 49 = .ok (.aload_n 0, 1) := by decide +kernel
theorem dX12_operand_50 : decode cX12_operand 50 = .ok (.getfield 170, 3) := by decide +kernel
theorem dX12_operand_53 : decode cX12_operand 53 = .ok (.ldc2_w 254, 3) := by decide +kernel
theorem dX12_operand_56 : decode cX12_operand 56 = .ok (.lcmp, 1) := by decide +kernel
theorem dX12_operand_57 : decode cX12_operand 57 = .ok (.ifCond .eq 18, 3) := by decide +kernel
theorem dX12_operand_60 : decode cX12_operand 60 = .ok (.aload_n 0, 1) := by decide +kernel
theorem dX12_operand_61 : decode cX12_operand 61 = .ok (.getfield 170, 3) := by decide +kernel
theorem dX12_operand_64 : decode cX12_operand 64 = .ok (.ldc2_w 256, 3) := by decide +kernel
theorem dX12_operand_67 : decode cX12_operand 67 = .ok (.lcmp, 1) := by decide +kernel
theorem dX12_operand_68 : decode cX12_operand 68 = .ok (.ifCond .eq 7, 3) := by decide +kernel
theorem dX12_operand_71 : decode cX12_operand 71 = .ok (.iconst 1, 1) := by decide +kernel
theorem dX12_operand_72 : decode cX12_operand 72 = .ok (.goto 4, 3) := by decide +kernel
theorem dX12_operand_75 : decode cX12_operand 75 = .ok (.iconst 0, 1) := by decide +kernel
theorem dX12_operand_76 : decode cX12_operand 76 = .ok (.istore_n 3, 1) := by decide +kernel
theorem dX12_operand_77 : decode cX12_operand 77 = .ok (.iload_n 1, 1) := by decide +kernel
theorem dX12_operand_78 : decode cX12_operand 78 = .ok (.ifCond .ne 20, 3) := by decide +kernel
theorem dX12_operand_81 : decode cX12_operand 81 = .ok (.aload_n 0, 1) := by decide +kernel
theorem dX12_operand_82 : decode cX12_operand 82 = .ok (.getfield 226, 3) := by decide +kernel
theorem dX12_operand_85 : decode cX12_operand 85 = .ok (.bipush 8, 2) := by decide +kernel
theorem dX12_operand_87 : decode cX12_operand 87 = .ok (.if_icmp .lt 11, 3) := by decide +kernel
theorem dX12_operand_90 : decode cX12_operand 90 = .ok (.aload_n 0, 1) := by decide +kernel
theorem dX12_operand_91 : decode cX12_operand 91 = .ok (.iconst 2, 1) := by decide +kernel
theorem dX12_operand_92 : decode cX12_operand 92 = .ok (.invokevirtual 258, 3) := by decide +kernel
theorem dX12_operand_95 : decode cX12_operand 95 = .ok (.goto 165, 3) := by decide +kernel
theorem dX12_operand_98 : decode cX12_operand 98 = .ok (.iload_n 3, 1) := by decide +kernel
theorem dX12_operand_99 : decode cX12_operand 99 = .ok (.ifCond .eq 109, 3) := by decide +kernel
theorem dX12_operand_102 : decode cX12_operand 102 = .ok (.aload_n 0, 1) := by decide +kernel
theorem dX12_operand_103 : decode cX12_operand 103 = .ok (.getfield 177, 3) := by decide +kernel
theorem dX12_operand_106 : decode cX12_operand 106 = .ok (.iconst 1, 1) := by decide +kernel
theorem dX12_operand_107 : decode cX12_operand 107 = .ok (.if_icmp .ne 10, 3) := by decide +kernel
theorem dX12_operand_110 : decode cX12_operand 110 = .ok (.aload_n 0, 1) := by decide +kernel
theorem dX12_operand_111 : decode cX12_operand 111 = .ok (.invokevirtual 261, 3) := by decide +kernel
theorem dX12_operand_114 : decode cX12_operand 114 = .ok (.goto 4, 3) := by decide +kernel
theorem dX12_operand_117 : decode cX12_operand 117 = .ok (.iconst 0, 1) := by decide +kernel
theorem dX12_operand_118 : decode cX12_operand 118 = .ok (.istore 4, 2) := by decide +kernel
theorem dX12_operand_120 : decode cX12_operand 120 = .ok (.aload_n 0, 1) := by decide +kernel
theorem dX12_operand_121 : decode cX12_operand 121 = .ok (.getfield 264, 3) := by decide +kernel
theorem dX12_operand_124 : decode cX12_operand 124 = .ok (.bipush 120, 2) := by decide +kernel
theorem dX12_operand_126 : decode cX12_operand 126 = .ok (.if_icmp .ne 11, 3) := by decide +kernel
theorem dX12_operand_129 : decode cX12_operand 129 = .ok (.aload_n 0, 1) := by decide +kernel
theorem dX12_operand_130 : decode cX12_operand 130 = .ok (.iconst 2, 1) := by decide +kernel
theorem dX12_operand_131 : decode cX12_operand 131 = .ok (.invokevirtual 258, 3) := by decide +kernel
theorem dX12_operand_134 : decode cX12_operand 134 = .ok (.goto 24, 3) := by decide +kernel
theorem dX12_operand_137 : decode cX12_operand 137 = .ok (.iload 4, 2) := by decide +kernel
theorem dX12_operand_139 : decode cX12_operand 139 = .ok (.ifCond .lt 14, 3) := by decide +kernel
theorem dX12_operand_142 : decode cX12_operand 142 = .ok (.iload 4, 2) := by decide +kernel
theorem dX12_operand_144 : decode cX12_operand 144 = .ok (.bipush 7, 2) := by decide +kernel
theorem dX12_operand_146 : decode cX12_operand 146 = .ok (.if_icmp .le 12, 3) := by decide +kernel
theorem dX12_operand_149 : decode cX12_operand 149 = .ok (.iload_n 2, 1) := by decide +kernel
theorem dX12_operand_150 : decode cX12_operand 150 = .ok (.ifCond .ne 8, 3) := by decide +kernel
theorem dX12_operand_153 : decode cX12_operand 153 = .ok (.aload_n 0, 1) := by decide +kernel
theorem dX12_operand_154 : decode cX12_operand 154 = .ok (.iconst 3, 1) := by decide +kernel
theorem dX12_operand_155 : decode cX12_operand 155 = .ok (.invokevirtual 258, 3) := by decide +kernel
theorem dX12_operand_158 : decode cX12_operand 158 = .ok (.aload_n 0, 1) := by decide +kernel
theorem dX12_operand_159 : decode cX12_operand 159 = .ok (.getfield 189, 3) := by decide +kernel
theorem dX12_operand_162 : decode cX12_operand 162 = .ok (.ifCond .le 5, 3) := by decide +kernel
theorem dX12_operand_165 : decode cX12_operand 165 = .ok (.iload_n 1, 1) := by decide +kernel
theorem dX12_operand_166 : decode cX12_operand 166 = .ok (.ireturn, 1) := by decide +kernel
theorem dX12_operand_167 : decode cX12_operand 167 = .ok (.aload_n 0, 1) := by decide +kernel
theorem dX12_operand_168 : decode cX12_operand 168 = .ok (.aload_n 0, 1) := by decide +kernel
theorem dX12_operand_169 : decode cX12_operand 169 = .ok (.getfield 177, 3) := by decide +kernel
theorem dX12_operand_172 : decode cX12_operand 172 = .ok (.iconst 2, 1) := by decide +kernel
theorem dX12_operand_173 : decode cX12_operand 173 = .ok (.if_icmp .ne 7, 3) := by decide +kernel
theorem dX12_operand_176 : decode cX12_operand 176 = .ok (.iconst 0, 1) := by decide +kernel
theorem dX12_operand_177 : decode cX12_operand 177 = .ok (.goto 8, 3) := by decide +kernel
theorem dX12_operand_180 : decode cX12_operand 180 = .ok (.bipush 20, 2) := by decide +kernel
theorem dX12_operand_182 : decode cX12_operand 182 = .ok (.iload 4, 2) := by decide +kernel
theorem dX12_operand_184 : decode cX12_operand 184 = .ok (.iadd, 1) := by decide +kernel
theorem dX12_operand_185 : decode cX12_operand 185 = .ok (.aload_n 0, 1) := by decide +kernel
theorem dX12_operand_186 : decode cX12_operand 186 = .ok (.getfield 174, 3) := by decide +kernel
theorem dX12_operand_189 : decode cX12_operand 189 = .ok (.invokevirtual 229, 3) := by decide +kernel
theorem dX12_operand_192 : decode cX12_operand 192 = .ok (.aload_n 0, 1) := by decide +kernel
theorem dX12_operand_193 : decode cX12_operand 193 = .ok (.dup, 1) := by decide +kernel
theorem dX12_operand_194 : decode cX12_operand 194 = .ok (.getfield 264, 3) := by decide +kernel
theorem dX12_operand_197 : decode cX12_operand 197 = .ok (.iconst 1, 1) := by decide +kernel
theorem dX12_operand_198 : decode cX12_operand 198 = .ok (.iadd, 1) := by decide +kernel
theorem dX12_operand_199 : decode cX12_operand 199 = .ok (.putfield 264, 3) := by decide +kernel
theorem dX12_operand_202 : decode cX12_operand 202 = .ok (.aload_n 0, 1) := by decide +kernel
theorem dX12_operand_203 : decode cX12_operand 203 = .ok (.invokevirtual 267, 3) := by decide +kernel
theorem dX12_operand_206 : decode cX12_operand 206 = .ok (.iconst 2, 1) := by decide +kernel
theorem dX12_operand_207 : decode cX12_operand 207 = .ok (.ireturn, 1) := by decide +kernel
theorem dX12_operand_208 : decode cX12_operand 208 = .ok (.aload_n 0, 1) := by decide +kernel
theorem dX12_operand_209 : decode cX12_operand 209 = .ok (.getfield 177, 3) := by decide +kernel
theorem dX12_operand_212 : decode cX12_operand 212 = .ok (.bipush 40, 2) := by decide +kernel
theorem dX12_operand_214 : decode cX12_operand 214 = .ok (.if_icmp .ne 15, 3) := by decide +kernel
theorem dX12_operand_217 : decode cX12_operand 217 = .ok (.aload_n 0, 1) := by decide +kernel
theorem dX12_operand_218 : decode cX12_operand 218 = .ok (.bipush 48, 2) := by decide +kernel
theorem dX12_operand_220 : decode cX12_operand 220 = .ok (.invokevirtual 270, 3) := by decide +kernel
theorem dX12_operand_223 : decode cX12_operand 223 = .ok (.aload_n 0, 1) := by decide +kernel
theorem dX12_operand_224 : decode cX12_operand 224 = .ok (.invokevirtual 267, 3) := by decide +kernel
theorem dX12_operand_227 : decode cX12_operand 227 = .ok (.iconst 0, 1) := by decide +kernel
theorem dX12_operand_228 : decode cX12_operand 228 = .ok (.ireturn, 1) := by decide +kernel
theorem dX12_operand_229 : decode cX12_operand 229 = .ok (.iload_n 1, 1) := by decide +kernel
theorem dX12_operand_230 : decode cX12_operand 230 = .ok (.ifCond .ne 25, 3) := by decide +kernel
theorem dX12_operand_233 : decode cX12_operand 233 = .ok (.aload_n 0, 1) := by decide +kernel
theorem dX12_operand_234 : decode cX12_operand 234 = .ok (.ldc2_w 256, 3) := by decide +kernel
theorem dX12_operand_237 : decode cX12_operand 237 = .ok (.invokevirtual 273, 3) := by decide +kernel
theorem dX12_operand_240 : decode cX12_operand 240 = .ok (.ifCond .eq 15, 3) := by decide +kernel
theorem dX12_operand_243 : decode cX12_operand 243 = .ok (.aload_n 0, 1) := by decide +kernel
theorem dX12_operand_244 : decode cX12_operand 244 = .ok (.bipush 40, 2) := by decide +kernel
theorem dX12_operand_246 : decode cX12_operand 246 = .ok (.invokevirtual 270, 3) := by decide +kernel
theorem dX12_operand_249 : decode cX12_operand 249 = .ok (.aload_n 0, 1) := by decide +kernel
theorem dX12_operand_250 : decode cX12_operand 250 = .ok (.invokevirtual 267, 3) := by decide +kernel
theorem dX12_operand_253 : decode cX12_operand 253 = .ok (.iconst 0, 1) := by decide +kernel
theorem dX12_operand_254 : decode cX12_operand 254 = .ok (.ireturn, 1) := by decide +kernel
theorem dX12_operand_255 : decode cX12_operand 255 = .ok (.aload_n 0, 1) := by decide +kernel
theorem dX12_operand_256 : decode cX12_operand 256 = .ok (.iconst 2, 1) := by decide +kernel
theorem dX12_operand_257 : decode cX12_operand 257 = .ok (.invokevirtual 258, 3) := by decide +kernel
theorem dX12_operand_260 : decode cX12_operand 260 = .ok (.iload_n 1, 1) := by decide +kernel
theorem dX12_operand_261 : decode cX12_operand 261 = .ok (.ireturn, 1) := by decide +kernel
theorem dX12_sign_0 : decode cX12_sign 0 = .ok (.aload_n 0, 1) := by decide +kernel
theorem dX12_sign_1 : decode cX12_sign 1 = .ok (.getfield 177, 3) := by decide +kernel
theorem dX12_sign_4 : decode cX12_sign 4 = .ok (.bipush 43, 2) := by decide +kernel
theorem dX12_sign_6 : decode cX12_sign 6 = .ok (.if_icmp .eq 12, 3) := by decide +kernel
theorem dX12_sign_9 : decode cX12_sign 9 = .ok (.aload_n 0, 1) := by decide +kernel
theorem dX12_sign_10 : decode cX12_sign 10 = .ok (.getfield 177, 3) := by decide +kernel
theorem dX12_sign_13 : decode cX12_sign 13 = .ok (.bipush 45, 2) := by decide +kernel
theorem dX12_sign_15 : decode cX12_sign 15 = .ok (.if_icmp .ne 35, 3) := by decide +kernel
theorem dX12_sign_18 : decode cX12_sign 18 = .ok (.aload_n 0, 1) := by decide +kernel
theorem dX12_sign_19 : decode cX12_sign 19 = .ok (.bipush 46, 2) := by decide +kernel
theorem dX12_sign_21 : decode cX12_sign 21 = .ok (.invokevirtual 245, 3) := by decide +kernel
theorem dX12_sign_24 : decode cX12_sign 24 = .ok (.aload_n 0, 1) := by decide +kernel
theorem dX12_sign_25 : decode cX12_sign 25 = .ok (.aload_n 0, 1) := by decide +kernel
theorem dX12_sign_26 : decode cX12_sign 26 = .ok (.getfield 177, 3) := by decide +kernel
theorem dX12_sign_29 : decode cX12_sign 29 = .ok (.bipush 43, 2) := by decide +kernel
theorem dX12_sign_31 : decode cX12_sign 31 = .ok (.if_icmp .ne 8, 3) := by decide +kernel
theorem dX12_sign_34 : decode cX12_sign 34 = .ok (.bipush 46, 2) := by decide +kernel
theorem dX12_sign_36 : decode cX12_sign 36 = .ok (.goto 5, 3) := by decide +kernel
theorem dX12_sign_39 : decode cX12_sign 39 = .ok (.bipush 47, 2) := by decide +kernel
theorem dX12_sign_41 : decode cX12_sign 41 = .ok (.invokevirtual 270, 3) := by decide +kernel
theorem dX12_sign_44 : decode cX12_sign 44 = .ok (.aload_n 0, 1) := by decide +kernel
theorem dX12_sign_45 : decode cX12_sign 45 = .ok (.invokevirtual 267, 3) := by decide +kernel
theorem dX12_sign_48 : decode cX12_sign 48 = .ok (.iconst 1, 1) := by decide +kernel
theorem dX12_sign_49 : decode cX12_sign 49 = .ok (.ireturn, 1) := by decide +kernel
theorem dX12_sign_50 : decode cX12_sign 50 = .ok (.aload_n 0, 1) := by decide +kernel
theorem dX12_sign_51 : decode cX12_sign 51 = .ok (.getfield 177, 3) := by decide +kernel
theorem dX12_sign_54 : decode cX12_sign 54 = .ok (.bipush 61, 2) := by decide +kernel
theorem dX12_sign_56 : decode cX12_sign 56 = .ok (.if_icmp .eq 21, 3) := by decide +kernel
theorem dX12_sign_59 : decode cX12_sign 59 = .ok (.aload_n 0, 1) := by decide +kernel
theorem dX12_sign_60 : decode cX12_sign 60 = .ok (.getfield 177, 3) := by decide +kernel
theorem dX12_sign_63 : decode cX12_sign 63 = .ok (.bipush 60, 2) := by decide +kernel
theorem dX12_sign_65 : decode cX12_sign 65 = .ok (.if_icmp .eq 12, 3) := by decide +kernel
theorem dX12_sign_68 : decode cX12_sign 68 = .ok (.aload_n 0, 1) := by decide +kernel
theorem dX12_sign_69 : decode cX12_sign 69 = .ok (.getfield 177, 3) := by decide +kernel
theorem dX12_sign_72 : decode cX12_sign 72 = .ok (.bipush 62, 2) := by decide +kernel
theorem dX12_sign_74 : decode cX12_sign 74 = .ok (.if_icmp .ne 98, 3) := by decide +kernel
theorem dX12_sign_77 : decode cX12_sign 77 = .ok (.aload_n 0, 1) := by decide +kernel
theorem dX12_sign_78 : decode cX12_sign 78 = .ok (.bipush 46, 2) := by decide +kernel
theorem dX12_sign_80 : decode cX12_sign 80 = .ok (.invokevirtual 245, 3) := by decide +kernel
theorem dX12_sign_83 : decode cX12_sign 83 = .ok (.aload_n 0, 1) := by decide +kernel
theorem dX12_sign_84 : decode cX12_sign 84 = .ok (.getfield 223, 3) := by decide +kernel
theorem dX12_sign_87 : decode cX12_sign 87 = .ok (.ifCond .ne 7, 3) := by decide +kernel
theorem dX12_sign_90 : decode cX12_sign 90 = .ok (.iconst (-1), 1) := by decide +kernel
theorem dX12_sign_91 : decode cX12_sign 91 = .ok (.goto 14, 3) := by decide +kernel
theorem dX12_sign_94 : decode cX12_sign 94 = .ok (.aload_n 0, 1) := by decide +kernel
theorem dX12_sign_95 : decode cX12_sign 95 = .ok (.getfield 72, 3) := by decide +kernel
theorem dX12_sign_98 : decode cX12_sign 98 = .ok (.aload_n 0, 1) := by decide +kernel
theorem dX12_sign_99 : decode cX12_sign 99 = .ok (.getfield 223, 3) := by decide +kernel
theorem dX12_sign_102 : decode cX12_sign 102 = .ok (.iconst 1, 1) := by decide +kernel
theorem dX12_sign_103 : decode cX12_sign 103 = .ok (.isub, 1) := by decide +kernel
theorem dX12_sign_104 : decode cX12_sign 104 = .ok (.iaload, 1) := by decide +kernel
theorem dX12_sign_105 : decode cX12_sign 105 = .ok (.istore_n 1, 1) := by decide +kernel
theorem dX12_sign_106 : decode cX12_sign 106 = .ok (.iload_n 1, 1) := by decide +kernel
theorem dX12_sign_107 : decode cX12_sign 107 = .ok (.bipush 43, 2) := by decide +kernel
theorem dX12_sign_109 : decode cX12_sign 109 = .ok (.if_icmp .lt 14, 3) := by decide +kernel
theorem dX12_sign_112 : decode cX12_sign 112 = .ok (.iload_n 1, 1) := by decide +kernel
theorem dX12_sign_113 : decode cX12_sign 113 = .ok (.bipush 45, 2) := by decide +kernel
theorem dX12_sign_115 : decode cX12_sign 115 = .ok (.if_icmp .gt 8, 3) := by decide +kernel
theorem dX12_sign_118 : decode cX12_sign 118 = .ok (.aload_n 0, 1) := by decide +kernel
theorem dX12_sign_119 : decode cX12_sign 119 = .ok (.iconst 2, 1) := by decide +kernel
theorem dX12_sign_120 : decode cX12_sign 120 = .ok (.invokevirtual 258, 3) := by decide +kernel
theorem dX12_sign_123 : decode cX12_sign 123 = .ok (.aload_n 0, 1) := by decide +kernel
theorem dX12_sign_124 : decode cX12_sign 124 = .ok (.getfield 189, 3) := by decide +kernel
theorem dX12_sign_127 : decode cX12_sign 127 = .ok (.ifCond .le 5, 3) := by decide +kernel
theorem dX12_sign_130 : decode cX12_sign 130 = .ok (.iconst 2, 1) := by decide +kernel
theorem dX12_sign_131 : decode cX12_sign 131 = .ok (.ireturn, 1) := by decide +kernel
theorem dX12_sign_132 : decode cX12_sign 132 = .ok (.aload_n 0, 1) := by decide +kernel
theorem dX12_sign_133 : decode cX12_sign 133 = .ok (.aload_n 0, 1) := by decide +kernel
theorem dX12_sign_134 : decode cX12_sign 134 = .ok (.getfield 177, 3) := by decide +kernel
theorem dX12_sign_137 : decode cX12_sign 137 = .ok (.bipush 61, 2) := by decide +kernel
theorem dX12_sign_139 : decode cX12_sign 139 = .ok (.if_icmp .ne 8, 3) := by decide +kernel
theorem dX12_sign_142 : decode cX12_sign 142 = .ok (.bipush 43, 2) := by decide +kernel
theorem dX12_sign_144 : decode cX12_sign 144 = .ok (.goto 19, 3) := by decide +kernel
theorem dX12_sign_147 : decode cX12_sign 147 = .ok (.aload_n 0, 1) := by decide +kernel
theorem dX12_sign_148 : decode cX12_sign 148 = .ok (.getfield 177, 3) := by decide +kernel
theorem dX12_sign_151 : decode cX12_sign 151 = .ok (.bipush 60, 2) := by decide +kernel
theorem dX12_sign_153 : decode cX12_sign 153 = .ok (.if_icmp .ne 8, 3) := by decide +kernel
theorem dX12_sign_156 : decode cX12_sign 156 = .ok (.bipush 44, 2) := by decide +kernel
theorem dX12_sign_158 : decode cX12_sign 158 = .ok (.goto 5, 3) := by decide +kernel
theorem dX12_sign_161 : decode cX12_sign 161 = .ok (.bipush 45, 2) := by decide +kernel
theorem dX12_sign_163 : decode cX12_sign 163 = .ok (.invokevirtual 270, 3) := by decide +kernel
theorem dX12_sign_166 : decode cX12_sign 166 = .ok (.aload_n 0, 1) := by decide +kernel
theorem dX12_sign_167 : decode cX12_sign 167 = .ok (.invokevirtual 267, 3) := by decide +kernel
theorem dX12_sign_170 : decode cX12_sign 170 = .ok (.iconst 1, 1) := by decide +kernel
theorem dX12_sign_171 : decode cX12_sign 171 = .ok (.ireturn, 1) := by decide +kernel
theorem dX12_sign_172 : decode cX12_sign 172 = .ok (.aload_n 0, 1) := by decide +kernel
theorem dX12_sign_173 : decode cX12_sign 173 = .ok (.ldc2_w 254, 3) := by decide +kernel
theorem dX12_sign_176 : decode cX12_sign 176 = .ok (.invokevirtual 273, 3) := by decide +kernel
theorem dX12_sign_179 : decode cX12_sign 179 = .ok (.ifCond .ne 13, 3) := by decide +kernel
theorem dX12_sign_182 : decode cX12_sign 182 = .ok (.aload_n 0, 1) := by decide +kernel
theorem dX12_sign_183 : decode cX12_sign 183 = .ok (.ldc2_w 252, 3) := by decide +kernel
theorem dX12_sign_186 : decode cX12_sign 186 = .ok (.invokevirtual 273, 3) := by decide +kernel
theorem dX12_sign_189 : decode cX12_sign 189 = .ok (.ifCond .eq 37, 3) := by decide +kernel
theorem dX12_sign_192 : decode cX12_sign 192 = .ok (.aload_n 0, 1) := by decide +kernel
theorem dX12_sign_193 : decode cX12_sign 193 = .ok (.ldc2_w 254, 3) := by decide +kernel
theorem dX12_sign_196 : decode cX12_sign 196 = .ok (.invokevirtual 273, 3) := by decide +kernel
theorem dX12_sign_199 : decode cX12_sign 199 = .ok (.istore_n 1, 1) := by decide +kernel
theorem dX12_sign_200 : decode cX12_sign 200 = .ok (.aload_n 0, 1) := by decide +kernel
theorem dX12_sign_201 : decode cX12_sign 201 = .ok (.iload_n 1, 1) := by decide +kernel
theorem dX12_sign_202 : decode cX12_sign 202 = .ok (.invokevirtual 277, 3) := by decide +kernel
theorem dX12_sign_205 : decode cX12_sign 205 = .ok (.aload_n 0, 1) := by decide +kernel
theorem dX12_sign_206 : decode cX12_sign 206 = .ok (.iload_n 1, 1) := by decide +kernel
theorem dX12_sign_207 : decode cX12_sign 207 = .ok (.ifCond .eq 8, 3) := by decide +kernel
theorem dX12_sign_210 : decode cX12_sign 210 = .ok (.bipush 42, 2) := by decide +kernel
theorem dX12_sign_212 : decode cX12_sign 212 = .ok (.goto 5, 3) := by decide +kernel
theorem dX12_sign_215 : decode cX12_sign 215 = .ok (.bipush 41, 2) := by decide +kernel
theorem dX12_sign_217 : decode cX12_sign 217 = .ok (.invokevirtual 270, 3) := by decide +kernel
theorem dX12_sign_220 : decode cX12_sign 220 = .ok (.aload_n 0, 1) := by decide +kernel
theorem dX12_sign_221 : decode cX12_sign 221 = .ok (.invokevirtual 267, 3) := by decide +kernel
theorem dX12_sign_224 : decode cX12_sign 224 = .ok (.iconst 0, 1) := by decide +kernel
theorem dX12_sign_225 : decode cX12_sign 225 = .ok (.ireturn, 1) := by decide +kernel
theorem dX12_sign_226 : decode cX12_sign 226 = .ok (.aload_n 0, 1) := by decide +kernel
theorem dX12_sign_227 : decode cX12_sign 227 = .ok (.getfield 177, 3) := by decide +kernel
theorem dX12_sign_230 : decode cX12_sign 230 = .ok (.bipush 41, 2) := by decide +kernel
theorem dX12_sign_232 : decode cX12_sign 232 = .ok (.if_icmp .ne 41, 3) := by decide +kernel
theorem dX12_sign_235 : decode cX12_sign 235 = .ok (.aload_n 0, 1) := by decide +kernel
theorem dX12_sign_236 : decode cX12_sign 236 = .ok (.invokevirtual 233, 3) := by decide +kernel
theorem dX12_sign_239 : decode cX12_sign 239 = .ok (.ifCond .eq 34, 3) := by decide +kernel
theorem dX12_sign_242 : decode cX12_sign 242 = .ok (.aload_n 0, 1) := by decide +kernel
theorem dX12_sign_243 : decode cX12_sign 243 = .ok (.iconst 0, 1) := by decide +kernel
theorem dX12_sign_244 : decode cX12_sign 244 = .ok (.invokevirtual 245, 3) := by decide +kernel
theorem dX12_sign_247 : decode cX12_sign 247 = .ok (.aload_n 0, 1) := by decide +kernel
theorem dX12_sign_248 : decode cX12_sign 248 = .ok (.dup, 1) := by decide +kernel
theorem dX12_sign_249 : decode cX12_sign 249 = .ok (.getfield 223, 3) := by decide +kernel
theorem dX12_sign_252 : decode cX12_sign 252 = .ok (.iconst 1, 1) := by decide +kernel
theorem dX12_sign_253 : decode cX12_sign 253 = .ok (.isub, 1) := by decide +kernel
theorem dX12_sign_254 : decode cX12_sign 254 = .ok (.putfield 223, 3) := by decide +kernel
theorem dX12_sign_257 : decode cX12_sign 257 = .ok (.aload_n 0, 1) := by decide +kernel
theorem dX12_sign_258 : decode cX12_sign 258 = .ok (.dup, 1) := by decide +kernel
theorem dX12_sign_259 : decode cX12_sign 259 = .ok (.getfield 226, 3) := by decide +kernel
theorem dX12_sign_262 : decode cX12_sign 262 = .ok (.iconst 1, 1) := by decide +kernel
theorem dX12_sign_263 : decode cX12_sign 263 = .ok (.isub, 1) := by decide +kernel
theorem dX12_sign_264 : decode cX12_sign 264 = .ok (.putfield 226, 3) := by decide +kernel
theorem dX12_sign_267 : decode cX12_sign 267 = .ok (.aload_n 0, 1) := by decide +kernel
theorem dX12_sign_268 : decode cX12_sign 268 = .ok (.invokevirtual 267, 3) := by decide +kernel
theorem dX12_sign_271 : decode cX12_sign 271 = .ok (.iconst 2, 1) := by decide +kernel
theorem dX12_sign_272 : decode cX12_sign 272 = .ok (.ireturn, 1) := by decide +kernel
theorem dX12_sign_273 : decode cX12_sign 273 = .ok (.aload_n 0, 1) := by decide +kernel
theorem dX12_sign_274 : decode cX12_sign 274 = .ok (.iconst 2, 1) := by decide +kernel
theorem dX12_sign_275 : decode cX12_sign 275 = .ok (.invokevirtual 258, 3) := by decide +kernel
theorem dX12_sign_278 : decode cX12_sign 278 = .ok (.iconst 2, 1) := by decide +kernel
theorem dX12_sign_279 : decode cX12_sign 279 = .ok (.ireturn, 1) := by decide +kernel
theorem dX12_settleOnes_0 : decode cX12_settleOnes 0 = .ok (.iconst 1, 1) := by decide +kernel
theorem dX12_settleOnes_1 : decode cX12_settleOnes 1 = .ok (.istore_n 2, 1) := by decide +kernel
theorem dX12_settleOnes_2 : decode cX12_settleOnes 2 = .ok (.iload_n 2, 1) := by decide +kernel
theorem dX12_settleOnes_3 : decode cX12_settleOnes 3 = .ok (.ifCond .eq 91, 3) := by decide +kernel
theorem dX12_settleOnes_6 : decode cX12_settleOnes 6 = .ok (.aload_n 0, 1) := by decide +kernel
theorem dX12_settleOnes_7 : decode cX12_settleOnes 7 = .ok (.getfield 223, 3) := by decide +kernel
theorem dX12_settleOnes_10 : decode cX12_settleOnes 10 = .ok (.ifCond .ne 8, 3) := by decide +kernel
theorem dX12_settleOnes_13 : decode cX12_settleOnes 13 = .ok (.bipush 48, 2) := by decide +kernel
theorem dX12_settleOnes_15 : decode cX12_settleOnes 15 = .ok (.goto 14, 3) := by decide +kernel
theorem dX12_settleOnes_18 : decode cX12_settleOnes 18 = .ok (.aload_n 0, 1) := by decide +kernel
theorem dX12_settleOnes_19 : decode cX12_settleOnes 19 = .ok (.getfield 72, 3) := by decide +kernel
theorem dX12_settleOnes_22 : decode cX12_settleOnes 22 = .ok (.aload_n 0, 1) := by decide +kernel
theorem dX12_settleOnes_23 : decode cX12_settleOnes 23 = .ok (.getfield 223, 3) := by decide +kernel
theorem dX12_settleOnes_26 : decode cX12_settleOnes 26 = .ok (.iconst 1, 1) := by decide +kernel
theorem dX12_settleOnes_27 : decode cX12_settleOnes 27 = .ok (.isub, 1) := by decide +kernel
theorem dX12_settleOnes_28 : decode cX12_settleOnes 28 = .ok (.iaload, 1) := by decide +kernel
theorem dX12_settleOnes_29 : decode cX12_settleOnes 29 = .ok (.istore_n 3, 1) := by decide +kernel
theorem dX12_settleOnes_30 : decode cX12_settleOnes 30 = .ok (.iload_n 3, 1) := by decide +kernel
theorem dX12_settleOnes_31 : decode cX12_settleOnes 31 = .ok (.bipush 48, 2) := by decide +kernel
theorem dX12_settleOnes_33 : decode cX12_settleOnes 33 = .ok (.if_icmp .eq 17, 3) := by decide +kernel
theorem dX12_settleOnes_36 : decode cX12_settleOnes 36 = .ok (.iload_n 1, 1) := by decide +kernel
theorem dX12_settleOnes_37 : decode cX12_settleOnes 37 = .ok (.ifCond .eq 9, 3) := by decide +kernel
theorem dX12_settleOnes_40 : decode cX12_settleOnes 40 = .ok (.iload_n 3, 1) := by decide +kernel
theorem dX12_settleOnes_41 : decode cX12_settleOnes 41 = .ok (.bipush 41, 2) := by decide +kernel
theorem dX12_settleOnes_43 : decode cX12_settleOnes 43 = .ok (.if_icmp .eq 7, 3) := by decide +kernel
theorem dX12_settleOnes_46 : decode cX12_settleOnes 46 = .ok (.iconst 1, 1) := by decide +kernel
theorem dX12_settleOnes_47 : decode cX12_settleOnes 47 = .ok (.goto 4, 3) := by decide +kernel
theorem dX12_settleOnes_50 : decode cX12_settleOnes 50 = .ok (.iconst 0, 1) := by decide +kernel
theorem dX12_settleOnes_51 : decode cX12_settleOnes 51 = .ok (.istore_n 2, 1) := by decide +kernel
theorem dX12_settleOnes_52 : decode cX12_settleOnes 52 = .ok (.iload_n 2, 1) := by decide +kernel
theorem dX12_settleOnes_53 : decode cX12_settleOnes 53 = .ok (.ifCond .ne 6, 3) := by decide +kernel
theorem dX12_settleOnes_56 : decode cX12_settleOnes 56 = .ok (.goto (-54), 3) := by decide +kernel
theorem dX12_settleOnes_59 : decode cX12_settleOnes 59 = .ok (.aload_n 0, 1) := by decide +kernel
theorem dX12_settleOnes_60 : decode cX12_settleOnes 60 = .ok (.dup, 1) := by decide +kernel
theorem dX12_settleOnes_61 : decode cX12_settleOnes 61 = .ok (.getfield 223, 3) := by decide +kernel
theorem dX12_settleOnes_64 : decode cX12_settleOnes 64 = .ok (.iconst 1, 1) := by decide +kernel
theorem dX12_settleOnes_65 : decode cX12_settleOnes 65 = .ok (.isub, 1) := by decide +kernel
theorem dX12_settleOnes_66 : decode cX12_settleOnes 66 = .ok (.putfield 223, 3) := by decide +kernel
theorem dX12_settleOnes_69 : decode cX12_settleOnes 69 = .ok (.iload_n 3, 1) := by decide +kernel
theorem dX12_settleOnes_70 : decode cX12_settleOnes 70 = .ok (.bipush 40, 2) := by decide +kernel
theorem dX12_settleOnes_72 : decode cX12_settleOnes 72 = .ok (.if_icmp .ne 13, 3) := by decide +kernel
theorem dX12_settleOnes_75 : decode cX12_settleOnes 75 = .ok (.aload_n 0, 1) := by decide +kernel
theorem dX12_settleOnes_76 : decode cX12_settleOnes 76 = .ok (.dup, 1) := by decide +kernel
theorem dX12_settleOnes_77 : decode cX12_settleOnes 77 = .ok (.getfield 226, 3) := by decide +kernel
theorem dX12_settleOnes_80 : decode cX12_settleOnes 80 = .ok (.iconst 1, 1) := by decide +kernel
theorem dX12_settleOnes_81 : decode cX12_settleOnes 81 = .ok (.isub, 1) := by decide +kernel
theorem dX12_settleOnes_82 : decode cX12_settleOnes 82 = .ok (.putfield 226, 3) := by decide +kernel
theorem dX12_settleOnes_85 : decode cX12_settleOnes 85 = .ok (.aload_n 0, 1) := by decide +kernel
theorem dX12_settleOnes_86 : decode cX12_settleOnes 86 = .ok (.iload_n 3, 1) := by decide +kernel
theorem dX12_settleOnes_87 : decode cX12_settleOnes 87 = .ok (.iconst 0, 1) := by decide +kernel
theorem dX12_settleOnes_88 : decode cX12_settleOnes 88 = .ok (.invokevirtual 229, 3) := by decide +kernel
theorem dX12_settleOnes_91 : decode cX12_settleOnes 91 = .ok (.goto (-89), 3) := by decide +kernel
theorem dX12_settleOnes_94 : decode cX12_settleOnes 94 = .ok (.return_, 1) := by decide +kernel
theorem dX12_rules_0 : decode cX12_rules 0 = .ok (.aload_n 0, 1) := by decide +kernel
theorem dX12_rules_1 : decode cX12_rules 1 = .ok (.aload_n 0, 1) := by decide +kernel
theorem dX12_rules_2 : decode cX12_rules 2 = .ok (.getfield 150, 3) := by decide +kernel
theorem dX12_rules_5 : decode cX12_rules 5 = .ok (.putfield 160, 3) := by decide +kernel
theorem dX12_rules_8 : decode cX12_rules 8 = .ok (.aload_n 0, 1) := by decide +kernel
theorem dX12_rules_9 : decode cX12_rules 9 = .ok (.iconst 0, 1) := by decide +kernel
theorem dX12_rules_10 : decode cX12_rules 10 = .ok (.putfield 150, 3) := by decide +kernel
theorem dX12_rules_13 : decode cX12_rules 13 = .ok (.aload_n 0, 1) := by decide +kernel
theorem dX12_rules_14 : decode cX12_rules 14 = .ok (.iconst 0, 1) := by decide +kernel
theorem dX12_rules_15 : decode cX12_rules 15 = .ok (.putfield 157, 3) := by decide +kernel
theorem dX12_rules_18 : decode cX12_rules 18 = .ok (.aload_n 0, 1) := by decide +kernel
theorem dX12_rules_19 : decode cX12_rules 19 = .ok (.iconst 0, 1) := by decide +kernel
theorem dX12_rules_20 : decode cX12_rules 20 = .ok (.putfield 189, 3) := by decide +kernel
theorem dX12_rules_23 : decode cX12_rules 23 = .ok (.aload_n 0, 1) := by decide +kernel
theorem dX12_rules_24 : decode cX12_rules 24 = .ok (.iconst (-1), 1) := by decide +kernel
theorem dX12_rules_25 : decode cX12_rules 25 = .ok (.putfield 68, 3) := by decide +kernel
theorem dX12_rules_28 : decode cX12_rules 28 = .ok (.aload_n 0, 1) := by decide +kernel
theorem dX12_rules_29 : decode cX12_rules 29 = .ok (.iconst 0, 1) := by decide +kernel
theorem dX12_rules_30 : decode cX12_rules 30 = .ok (.putfield 281, 3) := by decide +kernel
theorem dX12_rules_33 : decode cX12_rules 33 = .ok (.aload_n 0, 1) := by decide +kernel
theorem dX12_rules_34 : decode cX12_rules 34 = .ok (.iconst 0, 1) := by decide +kernel
theorem dX12_rules_35 : decode cX12_rules 35 = .ok (.putfield 220, 3) := by decide +kernel
theorem dX12_rules_38 : decode cX12_rules 38 = .ok (.aload_n 0, 1) := by decide +kernel
theorem dX12_rules_39 : decode cX12_rules 39 = .ok (.iconst 0, 1) := by decide +kernel
theorem dX12_rules_40 : decode cX12_rules 40 = .ok (.putfield 264, 3) := by decide +kernel
theorem dX12_rules_43 : decode cX12_rules 43 = .ok (.aload_n 0, 1) := by decide +kernel
theorem dX12_rules_44 : decode cX12_rules 44 = .ok (.invokevirtual 267, 3) := by decide +kernel
theorem dX12_rules_47 : decode cX12_rules 47 = .ok (.aload_n 0, 1) := by decide +kernel
theorem dX12_rules_48 : decode cX12_rules 48 = .ok (.getfield 189, 3) := by decide +kernel
theorem dX12_rules_51 : decode cX12_rules 51 = .ok (.ifCond .ne 113, 3) := by decide +kernel
theorem dX12_rules_54 : decode cX12_rules 54 = .ok (.aload_n 0, 1) := by decide +kernel
theorem dX12_rules_55 : decode cX12_rules 55 = .ok (.getfield 177, 3) := by decide +kernel
theorem dX12_rules_58 : decode cX12_rules 58 = .ok (.ifCond .eq 106, 3) := by decide +kernel
theorem dX12_rules_61 : decode cX12_rules 61 = .ok (.aload_n 0, 1) := by decide +kernel
theorem dX12_rules_62 : decode cX12_rules 62 = .ok (.ldc2_w 250, 3) := by decide +kernel
theorem dX12_rules_65 : decode cX12_rules 65 = .ok (.invokevirtual 273, 3) := by decide +kernel
theorem dX12_rules_68 : decode cX12_rules 68 = .ok (.istore_n 1, 1) := by decide +kernel
theorem dX12_rules_69 : decode cX12_rules 69 = .ok (.iload_n 1, 1) := by decide +kernel
theorem dX12_rules_70 : decode cX12_rules 70 = .ok (.ifCond .ne 13, 3) := by decide +kernel
theorem dX12_rules_73 : decode cX12_rules 73 = .ok (.aload_n 0, 1) := by decide +kernel
theorem dX12_rules_74 : decode cX12_rules 74 = .ok (.ldc2_w 248, 3) := by decide +kernel
theorem dX12_rules_77 : decode cX12_rules 77 = .ok (.invokevirtual 273, 3) := by decide +kernel
theorem dX12_rules_80 : decode cX12_rules 80 = .ok (.ifCond .eq 12, 3) := by decide +kernel
theorem dX12_rules_83 : decode cX12_rules 83 = .ok (.aload_n 0, 1) := by decide +kernel
theorem dX12_rules_84 : decode cX12_rules 84 = .ok (.getfield 281, 3) := by decide +kernel
theorem dX12_rules_87 : decode cX12_rules 87 = .ok (.bipush 12, 2) := by decide +kernel
theorem dX12_rules_89 : decode cX12_rules 89 = .ok (.if_icmp .ne 8, 3) := by decide +kernel
theorem dX12_rules_92 : decode cX12_rules 92 = .ok (.aload_n 0, 1) := by decide +kernel
theorem dX12_rules_93 : decode cX12_rules 93 = .ok (.iconst 2, 1) := by decide +kernel
theorem dX12_rules_94 : decode cX12_rules 94 = .ok (.invokevirtual 258, 3) := by decide +kernel
theorem dX12_rules_97 : decode cX12_rules 97 = .ok (.aload_n 0, 1) := by decide +kernel
theorem dX12_rules_98 : decode cX12_rules 98 = .ok (.getfield 189, 3) := by decide +kernel
theorem dX12_rules_101 : decode cX12_rules 101 = .ok (.ifCond .le 5, 3) := by decide +kernel
theorem dX12_rules_104 : decode cX12_rules 104 = .ok (.iconst (-1), 1) := by decide +kernel
theorem dX12_rules_105 : decode cX12_rules 105 = .ok (.ireturn, 1) := by decide +kernel
theorem dX12_rules_106 : decode cX12_rules 106 = .ok (.aload_n 0, 1) := by decide +kernel
theorem dX12_rules_107 : decode cX12_rules 107 = .ok (.getfield 62, 3) := by decide +kernel
theorem dX12_rules_110 : decode cX12_rules 110 = .ok (.aload_n 0, 1) := by decide +kernel
theorem dX12_rules_111 : decode cX12_rules 111 = .ok (.getfield 281, 3) := by decide +kernel
theorem dX12_rules_114 : decode cX12_rules 114 = .ok (.iload_n 1, 1) := by decide +kernel
theorem dX12_rules_115 : decode cX12_rules 115 = .ok (.bastore, 1) := by decide +kernel
theorem dX12_rules_116 : decode cX12_rules 116 = .ok (.aload_n 0, 1) := by decide +kernel
theorem dX12_rules_117 : decode cX12_rules 117 = .ok (.getfield 59, 3) := by decide +kernel
theorem dX12_rules_120 : decode cX12_rules 120 = .ok (.aload_n 0, 1) := by decide +kernel
theorem dX12_rules_121 : decode cX12_rules 121 = .ok (.getfield 281, 3) := by decide +kernel
theorem dX12_rules_124 : decode cX12_rules 124 = .ok (.aload_n 0, 1) := by decide +kernel
theorem dX12_rules_125 : decode cX12_rules 125 = .ok (.getfield 220, 3) := by decide +kernel
theorem dX12_rules_128 : decode cX12_rules 128 = .ok (.iastore, 1) := by decide +kernel
theorem dX12_rules_129 : decode cX12_rules 129 = .ok (.aload_n 0, 1) := by decide +kernel
theorem dX12_rules_130 : decode cX12_rules 130 = .ok (.invokevirtual 267, 3) := by decide +kernel
theorem dX12_rules_133 : decode cX12_rules 133 = .ok (.aload_n 0, 1) := by decide +kernel
theorem dX12_rules_134 : decode cX12_rules 134 = .ok (.iload_n 1, 1) := by decide +kernel
theorem dX12_rules_135 : decode cX12_rules 135 = .ok (.invokevirtual 284, 3) := by decide +kernel
theorem dX12_rules_138 : decode cX12_rules 138 = .ok (.aload_n 0, 1) := by decide +kernel
theorem dX12_rules_139 : decode cX12_rules 139 = .ok (.getfield 189, 3) := by decide +kernel
theorem dX12_rules_142 : decode cX12_rules 142 = .ok (.ifCond .le 5, 3) := by decide +kernel
theorem dX12_rules_145 : decode cX12_rules 145 = .ok (.iconst (-1), 1) := by decide +kernel
theorem dX12_rules_146 : decode cX12_rules 146 = .ok (.ireturn, 1) := by decide +kernel
theorem dX12_rules_147 : decode cX12_rules 147 = .ok (.aload_n 0, 1) := by decide +kernel
theorem dX12_rules_148 : decode cX12_rules 148 = .ok (.invokevirtual 267, 3) := by decide +kernel
theorem dX12_rules_151 : decode cX12_rules 151 = .ok (.aload_n 0, 1) := by decide +kernel
theorem dX12_rules_152 : decode cX12_rules 152 = .ok (.dup, 1) := by decide +kernel
theorem dX12_rules_153 : decode cX12_rules 153 = .ok (.getfield 281, 3) := by decide +kernel
theorem dX12_rules_156 : decode cX12_rules 156 = .ok (.iconst 1, 1) := by decide +kernel
theorem dX12_rules_157 : decode cX12_rules 157 = .ok (.iadd, 1) := by decide +kernel
theorem dX12_rules_158 : decode cX12_rules 158 = .ok (.putfield 281, 3) := by decide +kernel
theorem dX12_rules_161 : decode cX12_rules 161 = .ok (.goto (-114), 3) := by decide +kernel
theorem dX12_rules_164 : decode cX12_rules 164 = .ok (.aload_n 0, 1) := by decide +kernel
theorem dX12_rules_165 : decode cX12_rules 165 = .ok (.getfield 189, 3) := by decide +kernel
theorem dX12_rules_168 : decode cX12_rules 168 = .ok (.ifCond .le 5, 3) := by decide +kernel
theorem dX12_rules_171 : decode cX12_rules 171 = .ok (.iconst (-1), 1) := by decide +kernel
theorem dX12_rules_172 : decode cX12_rules 172 = .ok (.ireturn, 1) := by decide +kernel
theorem dX12_rules_173 : decode cX12_rules 173 = .ok (.aload_n 0, 1) := by decide +kernel
theorem dX12_rules_174 : decode cX12_rules 174 = .ok (.getfield 59, 3) := by decide +kernel
theorem dX12_rules_177 : decode cX12_rules 177 = .ok (.aload_n 0, 1) := by decide +kernel
theorem dX12_rules_178 : decode cX12_rules 178 = .ok (.getfield 281, 3) := by decide +kernel
theorem dX12_rules_181 : decode cX12_rules 181 = .ok (.aload_n 0, 1) := by decide +kernel
theorem dX12_rules_182 : decode cX12_rules 182 = .ok (.getfield 220, 3) := by decide +kernel
theorem dX12_rules_185 : decode cX12_rules 185 = .ok (.iastore, 1) := by decide +kernel
theorem dX12_rules_186 : decode cX12_rules 186 = .ok (.iconst 0, 1) := by decide +kernel
theorem dX12_rules_187 : decode cX12_rules 187 = .ok (.istore_n 1, 1) := by decide +kernel
theorem dX12_rules_188 : decode cX12_rules 188 = .ok (.iload_n 1, 1) := by decide +kernel
theorem dX12_rules_189 : decode cX12_rules 189 = .ok (.aload_n 0, 1) := by decide +kernel
theorem dX12_rules_190 : decode cX12_rules 190 = .ok (.getfield 220, 3) := by decide +kernel
theorem dX12_rules_193 : decode cX12_rules 193 = .ok (.if_icmp .ge 33, 3) := by decide +kernel
theorem dX12_rules_196 : decode cX12_rules 196 = .ok (.aload_n 0, 1) := by decide +kernel
theorem dX12_rules_197 : decode cX12_rules 197 = .ok (.getfield 41, 3) := by decide +kernel
theorem dX12_rules_200 : decode cX12_rules 200 = .ok (.iload_n 1, 1) := by decide +kernel
theorem dX12_rules_201 : decode cX12_rules 201 = .ok (.aload_n 0, 1) := by decide +kernel
theorem dX12_rules_202 : decode cX12_rules 202 = .ok (.getfield 53, 3) := by decide +kernel
theorem dX12_rules_205 : decode cX12_rules 205 = .ok (.iload_n 1, 1) := by decide +kernel
theorem dX12_rules_206 : decode cX12_rules 206 = .ok (.iaload, 1) := by decide +kernel
theorem dX12_rules_207 : decode cX12_rules 207 = .ok (.iastore, 1) := by decide +kernel
theorem dX12_rules_208 : decode cX12_rules 208 = .ok (.aload_n 0, 1) := by decide +kernel
theorem dX12_rules_209 : decode cX12_rules 209 = .ok (.getfield 44, 3) := by decide +kernel
theorem dX12_rules_212 : decode cX12_rules 212 = .ok (.iload_n 1, 1) := by decide +kernel
theorem dX12_rules_213 : decode cX12_rules 213 = .ok (.aload_n 0, 1) := by decide +kernel
theorem dX12_rules_214 : decode cX12_rules 214 = .ok (.getfield 56, 3) := by decide +kernel
theorem dX12_rules_217 : decode cX12_rules 217 = .ok (.iload_n 1, 1) := by decide +kernel
theorem dX12_rules_218 : decode cX12_rules 218 = .ok (.iaload, 1) := by decide +kernel
theorem dX12_rules_219 : decode cX12_rules 219 = .ok (.iastore, 1) := by decide +kernel
theorem dX12_rules_220 : decode cX12_rules 220 = .ok (.iinc 1 1, 3) := by decide +kernel
theorem dX12_rules_223 : decode cX12_rules 223 = .ok (.goto (-35), 3) := by decide +kernel
theorem dX12_rules_226 : decode cX12_rules 226 = .ok (.iconst 0, 1) := by decide +kernel
theorem dX12_rules_227 : decode cX12_rules 227 = .ok (.istore_n 1, 1) := by decide +kernel
theorem dX12_rules_228 : decode cX12_rules 228 = .ok (.iload_n 1, 1) := by decide +kernel
theorem dX12_rules_229 : decode cX12_rules 229 = .ok (.aload_n 0, 1) := by decide +kernel
theorem dX12_rules_230 : decode cX12_rules 230 = .ok (.getfield 281, 3) := by decide +kernel
theorem dX12_rules_233 : decode cX12_rules 233 = .ok (.if_icmp .ge 21, 3) := by decide +kernel
theorem dX12_rules_236 : decode cX12_rules 236 = .ok (.aload_n 0, 1) := by decide +kernel
theorem dX12_rules_237 : decode cX12_rules 237 = .ok (.getfield 50, 3) := by decide +kernel
theorem dX12_rules_240 : decode cX12_rules 240 = .ok (.iload_n 1, 1) := by decide +kernel
theorem dX12_rules_241 : decode cX12_rules 241 = .ok (.aload_n 0, 1) := by decide +kernel
theorem dX12_rules_242 : decode cX12_rules 242 = .ok (.getfield 62, 3) := by decide +kernel
theorem dX12_rules_245 : decode cX12_rules 245 = .ok (.iload_n 1, 1) := by decide +kernel
theorem dX12_rules_246 : decode cX12_rules 246 = .ok (.baload, 1) := by decide +kernel
theorem dX12_rules_247 : decode cX12_rules 247 = .ok (.bastore, 1) := by decide +kernel
theorem dX12_rules_248 : decode cX12_rules 248 = .ok (.iinc 1 1, 3) := by decide +kernel
theorem dX12_rules_251 : decode cX12_rules 251 = .ok (.goto (-23), 3) := by decide +kernel
theorem dX12_rules_254 : decode cX12_rules 254 = .ok (.iconst 0, 1) := by decide +kernel
theorem dX12_rules_255 : decode cX12_rules 255 = .ok (.istore_n 1, 1) := by decide +kernel
theorem dX12_rules_256 : decode cX12_rules 256 = .ok (.iload_n 1, 1) := by decide +kernel
theorem dX12_rules_257 : decode cX12_rules 257 = .ok (.aload_n 0, 1) := by decide +kernel
theorem dX12_rules_258 : decode cX12_rules 258 = .ok (.getfield 281, 3) := by decide +kernel
theorem dX12_rules_261 : decode cX12_rules 261 = .ok (.if_icmp .gt 21, 3) := by decide +kernel
theorem dX12_rules_264 : decode cX12_rules 264 = .ok (.aload_n 0, 1) := by decide +kernel
theorem dX12_rules_265 : decode cX12_rules 265 = .ok (.getfield 47, 3) := by decide +kernel
theorem dX12_rules_268 : decode cX12_rules 268 = .ok (.iload_n 1, 1) := by decide +kernel
theorem dX12_rules_269 : decode cX12_rules 269 = .ok (.aload_n 0, 1) := by decide +kernel
theorem dX12_rules_270 : decode cX12_rules 270 = .ok (.getfield 59, 3) := by decide +kernel
theorem dX12_rules_273 : decode cX12_rules 273 = .ok (.iload_n 1, 1) := by decide +kernel
theorem dX12_rules_274 : decode cX12_rules 274 = .ok (.iaload, 1) := by decide +kernel
theorem dX12_rules_275 : decode cX12_rules 275 = .ok (.iastore, 1) := by decide +kernel
theorem dX12_rules_276 : decode cX12_rules 276 = .ok (.iinc 1 1, 3) := by decide +kernel
theorem dX12_rules_279 : decode cX12_rules 279 = .ok (.goto (-23), 3) := by decide +kernel
theorem dX12_rules_282 : decode cX12_rules 282 = .ok (.aload_n 0, 1) := by decide +kernel
theorem dX12_rules_283 : decode cX12_rules 283 = .ok (.aload_n 0, 1) := by decide +kernel
theorem dX12_rules_284 : decode cX12_rules 284 = .ok (.getfield 281, 3) := by decide +kernel
theorem dX12_rules_287 : decode cX12_rules 287 = .ok (.putfield 287, 3) := by decide +kernel
theorem dX12_rules_290 : decode cX12_rules 290 = .ok (.aload_n 0, 1) := by decide +kernel
theorem dX12_rules_291 : decode cX12_rules 291 = .ok (.iconst 0, 1) := by decide +kernel
theorem dX12_rules_292 : decode cX12_rules 292 = .ok (.putfield 138, 3) := by decide +kernel
theorem dX12_rules_295 : decode cX12_rules 295 = .ok (.aload_n 0, 1) := by decide +kernel
theorem dX12_rules_296 : decode cX12_rules 296 = .ok (.getfield 287, 3) := by decide +kernel
theorem dX12_rules_299 : decode cX12_rules 299 = .ok (.ireturn, 1) := by decide +kernel
theorem dX12_fault_0 : decode cX12_fault 0 = .ok (.iload_n 1, 1) := by decide +kernel
theorem dX12_fault_1 : decode cX12_fault 1 = .ok (.ifCond .ne 10, 3) := by decide +kernel
theorem dX12_fault_4 : decode cX12_fault 4 = .ok (.aload_n 0, 1) := by decide +kernel
theorem dX12_fault_5 : decode cX12_fault 5 = .ok (.getfield 189, 3) := by decide +kernel
theorem dX12_fault_8 : decode cX12_fault 8 = .ok (.goto 16, 3) := by decide +kernel
theorem dX12_fault_11 : decode cX12_fault 11 = .ok (.iload_n 1, 1) := by decide +kernel
theorem dX12_fault_12 : decode cX12_fault 12 = .ok (.iconst 1, 1) := by decide +kernel
theorem dX12_fault_13 : decode cX12_fault 13 = .ok (.if_icmp .ne 10, 3) := by decide +kernel
theorem dX12_fault_16 : decode cX12_fault 16 = .ok (.aload_n 0, 1) := by decide +kernel
theorem dX12_fault_17 : decode cX12_fault 17 = .ok (.getfield 68, 3) := by decide +kernel
theorem dX12_fault_20 : decode cX12_fault 20 = .ok (.goto 4, 3) := by decide +kernel
theorem dX12_fault_23 : decode cX12_fault 23 = .ok (.iconst (-1), 1) := by decide +kernel
theorem dX12_fault_24 : decode cX12_fault 24 = .ok (.ireturn, 1) := by decide +kernel
theorem dX12_tell_0 : decode cX12_tell 0 = .ok (.aload_n 0, 1) := by decide +kernel
theorem dX12_tell_1 : decode cX12_tell 1 = .ok (.getfield 78, 3) := by decide +kernel
theorem dX12_tell_4 : decode cX12_tell 4 = .ok (.iload_n 1, 1) := by decide +kernel
theorem dX12_tell_5 : decode cX12_tell 5 = .ok (.iload_n 2, 1) := by decide +kernel
theorem dX12_tell_6 : decode cX12_tell 6 = .ok (.iastore, 1) := by decide +kernel
theorem dX12_tell_7 : decode cX12_tell 7 = .ok (.aload_n 0, 1) := by decide +kernel
theorem dX12_tell_8 : decode cX12_tell 8 = .ok (.getfield 78, 3) := by decide +kernel
theorem dX12_tell_11 : decode cX12_tell 11 = .ok (.iload_n 1, 1) := by decide +kernel
theorem dX12_tell_12 : decode cX12_tell 12 = .ok (.iconst 1, 1) := by decide +kernel
theorem dX12_tell_13 : decode cX12_tell 13 = .ok (.iadd, 1) := by decide +kernel
theorem dX12_tell_14 : decode cX12_tell 14 = .ok (.aload_n 0, 1) := by decide +kernel
theorem dX12_tell_15 : decode cX12_tell 15 = .ok (.getfield 7, 3) := by decide +kernel
theorem dX12_tell_18 : decode cX12_tell 18 = .ok (.iload_n 2, 1) := by decide +kernel
theorem dX12_tell_19 : decode cX12_tell 19 = .ok (.iaload, 1) := by decide +kernel
theorem dX12_tell_20 : decode cX12_tell 20 = .ok (.iastore, 1) := by decide +kernel
theorem dX12_tell_21 : decode cX12_tell 21 = .ok (.aload_n 0, 1) := by decide +kernel
theorem dX12_tell_22 : decode cX12_tell 22 = .ok (.getfield 78, 3) := by decide +kernel
theorem dX12_tell_25 : decode cX12_tell 25 = .ok (.iload_n 1, 1) := by decide +kernel
theorem dX12_tell_26 : decode cX12_tell 26 = .ok (.iconst 2, 1) := by decide +kernel
theorem dX12_tell_27 : decode cX12_tell 27 = .ok (.iadd, 1) := by decide +kernel
theorem dX12_tell_28 : decode cX12_tell 28 = .ok (.aload_n 0, 1) := by decide +kernel
theorem dX12_tell_29 : decode cX12_tell 29 = .ok (.getfield 13, 3) := by decide +kernel
theorem dX12_tell_32 : decode cX12_tell 32 = .ok (.iload_n 2, 1) := by decide +kernel
theorem dX12_tell_33 : decode cX12_tell 33 = .ok (.iaload, 1) := by decide +kernel
theorem dX12_tell_34 : decode cX12_tell 34 = .ok (.iastore, 1) := by decide +kernel
theorem dX12_tell_35 : decode cX12_tell 35 = .ok (.aload_n 0, 1) := by decide +kernel
theorem dX12_tell_36 : decode cX12_tell 36 = .ok (.getfield 78, 3) := by decide +kernel
theorem dX12_tell_39 : decode cX12_tell 39 = .ok (.iload_n 1, 1) := by decide +kernel
theorem dX12_tell_40 : decode cX12_tell 40 = .ok (.iconst 3, 1) := by decide +kernel
theorem dX12_tell_41 : decode cX12_tell 41 = .ok (.iadd, 1) := by decide +kernel
theorem dX12_tell_42 : decode cX12_tell 42 = .ok (.aload_n 0, 1) := by decide +kernel
theorem dX12_tell_43 : decode cX12_tell 43 = .ok (.getfield 135, 3) := by decide +kernel
theorem dX12_tell_46 : decode cX12_tell 46 = .ok (.aload_n 0, 1) := by decide +kernel
theorem dX12_tell_47 : decode cX12_tell 47 = .ok (.getfield 16, 3) := by decide +kernel
theorem dX12_tell_50 : decode cX12_tell 50 = .ok (.iload_n 2, 1) := by decide +kernel
theorem dX12_tell_51 : decode cX12_tell 51 = .ok (.iaload, 1) := by decide +kernel
theorem dX12_tell_52 : decode cX12_tell 52 = .ok (.isub, 1) := by decide +kernel
theorem dX12_tell_53 : decode cX12_tell 53 = .ok (.iastore, 1) := by decide +kernel
theorem dX12_tell_54 : decode cX12_tell 54 = .ok (.aload_n 0, 1) := by decide +kernel
theorem dX12_tell_55 : decode cX12_tell 55 = .ok (.getfield 78, 3) := by decide +kernel
theorem dX12_tell_58 : decode cX12_tell 58 = .ok (.iload_n 1, 1) := by decide +kernel
theorem dX12_tell_59 : decode cX12_tell 59 = .ok (.iconst 4, 1) := by decide +kernel
theorem dX12_tell_60 : decode cX12_tell 60 = .ok (.iadd, 1) := by decide +kernel
theorem dX12_tell_61 : decode cX12_tell 61 = .ok (.aload_n 0, 1) := by decide +kernel
theorem dX12_tell_62 : decode cX12_tell 62 = .ok (.getfield 19, 3) := by decide +kernel
theorem dX12_tell_65 : decode cX12_tell 65 = .ok (.iload_n 2, 1) := by decide +kernel
theorem dX12_tell_66 : decode cX12_tell 66 = .ok (.iaload, 1) := by decide +kernel
theorem dX12_tell_67 : decode cX12_tell 67 = .ok (.iastore, 1) := by decide +kernel
theorem dX12_tell_68 : decode cX12_tell 68 = .ok (.return_, 1) := by decide +kernel
theorem dX12_holds_0 : decode cX12_holds 0 = .ok (.iconst 0, 1) := by decide +kernel
theorem dX12_holds_1 : decode cX12_holds 1 = .ok (.istore_n 2, 1) := by decide +kernel
theorem dX12_holds_2 : decode cX12_holds 2 = .ok (.aload_n 0, 1) := by decide +kernel
theorem dX12_holds_3 : decode cX12_holds 3 = .ok (.getfield 47, 3) := by decide +kernel
theorem dX12_holds_6 : decode cX12_holds 6 = .ok (.iload_n 1, 1) := by decide +kernel
theorem dX12_holds_7 : decode cX12_holds 7 = .ok (.iaload, 1) := by decide +kernel
theorem dX12_holds_8 : decode cX12_holds 8 = .ok (.istore_n 3, 1) := by decide +kernel
theorem dX12_holds_9 : decode cX12_holds 9 = .ok (.iload_n 3, 1) := by decide +kernel
theorem dX12_holds_10 : decode cX12_holds 10 = .ok (.aload_n 0, 1) := by decide +kernel
theorem dX12_holds_11 : decode cX12_holds 11 = .ok (.getfield 47, 3) := by decide +kernel
theorem dX12_holds_14 : decode cX12_holds 14 = .ok (.iload_n 1, 1) := by decide +kernel
theorem dX12_holds_15 : decode cX12_holds 15 = .ok (.iconst 1, 1) := by decide +kernel
theorem dX12_holds_16 : decode cX12_holds 16 = .ok (.iadd, 1) := by decide +kernel
theorem dX12_holds_17 : decode cX12_holds 17 = .ok (.iaload, 1) := by decide +kernel
theorem dX12_holds_18 : decode cX12_holds 18 = .ok (.if_icmp .ge 306, 3) := by decide +kernel
theorem dX12_holds_21 : decode cX12_holds 21 = .ok (.aload_n 0, 1) := by decide +kernel
theorem dX12_holds_22 : decode cX12_holds 22 = .ok (.getfield 41, 3) := by decide +kernel
theorem dX12_holds_25 : decode cX12_holds 25 = .ok (.iload_n 3, 1) := by decide +kernel
theorem dX12_holds_26 : decode cX12_holds 26 = .ok (.iaload, 1) := by decide +kernel
theorem dX12_holds_27 : decode cX12_holds 27 = .ok (.istore 4, 2) := by decide +kernel
theorem dX12_holds_29 : decode cX12_holds 29 = .ok (.iload 4, 2) := by decide +kernel
theorem dX12_holds_31 : decode cX12_holds 31 = .ok (.bipush 40, 2) := by decide +kernel
theorem dX12_holds_33 : decode cX12_holds 33 = .ok (.if_icmp .ge 39, 3) := by decide +kernel
theorem dX12_holds_36 : decode cX12_holds 36 = .ok (.aload_n 0, 1) := by decide +kernel
theorem dX12_holds_37 : decode cX12_holds 37 = .ok (.getfield 75, 3) := by decide +kernel
theorem dX12_holds_40 : decode cX12_holds 40 = .ok (.iload_n 2, 1) := by decide +kernel
theorem dX12_holds_41 : decode cX12_holds 41 = .ok (.iload 4, 2) := by decide +kernel
theorem dX12_holds_43 : decode cX12_holds 43 = .ok (.ifCond .ne 12, 3) := by decide +kernel
theorem dX12_holds_46 : decode cX12_holds 46 = .ok (.aload_n 0, 1) := by decide +kernel
theorem dX12_holds_47 : decode cX12_holds 47 = .ok (.getfield 44, 3) := by decide +kernel
theorem dX12_holds_50 : decode cX12_holds 50 = .ok (.iload_n 3, 1) := by decide +kernel
theorem dX12_holds_51 : decode cX12_holds 51 = .ok (.iaload, 1) := by decide +kernel
theorem dX12_holds_52 : decode cX12_holds 52 = .ok (.goto 13, 3) := by decide +kernel
theorem dX12_holds_55 : decode cX12_holds 55 = .ok (.aload_n 0, 1) := by decide +kernel
theorem dX12_holds_56 : decode cX12_holds 56 = .ok (.getfield 78, 3) := by decide +kernel
theorem dX12_holds_59 : decode cX12_holds 59 = .ok (.iload 4, 2) := by decide +kernel
theorem dX12_holds_61 : decode cX12_holds 61 = .ok (.bipush 20, 2) := by decide +kernel
theorem dX12_holds_63 : decode cX12_holds 63 = .ok (.isub, 1) := by decide +kernel
theorem dX12_holds_64 : decode cX12_holds 64 = .ok (.iaload, 1) := by decide +kernel
theorem dX12_holds_65 : decode cX12_holds 65 = .ok (.iastore, 1) := by decide +kernel
theorem dX12_holds_66 : decode cX12_holds 66 = .ok (.iinc 2 1, 3) := by decide +kernel
theorem dX12_holds_69 : decode cX12_holds 69 = .ok (.goto 249, 3) := by decide +kernel
theorem dX12_holds_72 : decode cX12_holds 72 = .ok (.iload 4, 2) := by decide +kernel
theorem dX12_holds_74 : decode cX12_holds 74 = .ok (.bipush 40, 2) := by decide +kernel
theorem dX12_holds_76 : decode cX12_holds 76 = .ok (.if_icmp .ne 30, 3) := by decide +kernel
theorem dX12_holds_79 : decode cX12_holds 79 = .ok (.aload_n 0, 1) := by decide +kernel
theorem dX12_holds_80 : decode cX12_holds 80 = .ok (.getfield 75, 3) := by decide +kernel
theorem dX12_holds_83 : decode cX12_holds 83 = .ok (.iload_n 2, 1) := by decide +kernel
theorem dX12_holds_84 : decode cX12_holds 84 = .ok (.iconst 1, 1) := by decide +kernel
theorem dX12_holds_85 : decode cX12_holds 85 = .ok (.isub, 1) := by decide +kernel
theorem dX12_holds_86 : decode cX12_holds 86 = .ok (.aload_n 0, 1) := by decide +kernel
theorem dX12_holds_87 : decode cX12_holds 87 = .ok (.getfield 75, 3) := by decide +kernel
theorem dX12_holds_90 : decode cX12_holds 90 = .ok (.iload_n 2, 1) := by decide +kernel
theorem dX12_holds_91 : decode cX12_holds 91 = .ok (.iconst 1, 1) := by decide +kernel
theorem dX12_holds_92 : decode cX12_holds 92 = .ok (.isub, 1) := by decide +kernel
theorem dX12_holds_93 : decode cX12_holds 93 = .ok (.iaload, 1) := by decide +kernel
theorem dX12_holds_94 : decode cX12_holds 94 = .ok (.ifCond .ne 7, 3) := by decide +kernel
theorem dX12_holds_97 : decode cX12_holds 97 = .ok (.iconst 1, 1) := by decide +kernel
theorem dX12_holds_98 : decode cX12_holds 98 = .ok (.goto 4, 3) := by decide +kernel
theorem dX12_holds_101 : decode cX12_holds 101 = .ok (.iconst 0, 1) := by decide +kernel
theorem dX12_holds_102 : decode cX12_holds 102 = .ok (.iastore, 1) := by decide +kernel
theorem dX12_holds_103 : decode cX12_holds 103 = .ok (.goto 215, 3) := by decide +kernel
theorem dX12_holds_106 : decode cX12_holds 106 = .ok (.iinc 2 (-1), 3) := by decide +kernel
theorem dX12_holds_109 : decode cX12_holds 109 = .ok (.aload_n 0, 1) := by decide +kernel
theorem dX12_holds_110 : decode cX12_holds 110 = .ok (.getfield 75, 3) := by decide +kernel
theorem dX12_holds_113 : decode cX12_holds 113 = .ok (.iload_n 2, 1) := by decide +kernel
theorem dX12_holds_114 : decode cX12_holds 114 = .ok (.iconst 1, 1) := by decide +kernel
theorem dX12_holds_115 : decode cX12_holds 115 = .ok (.isub, 1) := by decide +kernel
theorem dX12_holds_116 : decode cX12_holds 116 = .ok (.iaload, 1) := by decide +kernel
