theorem dX12_init_0 : decode cX12_init 0 = .ok (.aload_n 0, 1) := by decide +kernel
theorem dX12_init_1 : decode cX12_init 1 = .ok (.invokespecial 3, 3) := by decide +kernel
theorem dX12_init_4 : decode cX12_init 4 = .ok (.aload_n 0, 1) := by decide +kernel
theorem dX12_init_5 : decode cX12_init 5 = .ok (.sipush 240, 3) := by decide +kernel
theorem dX12_init_8 : decode cX12_init 8 = .ok (.newarray .byte, 2) := by decide +kernel
theorem dX12_init_10 : decode cX12_init 10 = .ok (.putfield 9, 3) := by decide +kernel
theorem dX12_init_13 : decode cX12_init 13 = .ok (.aload_n 0, 1) := by decide +kernel
theorem dX12_init_14 : decode cX12_init 14 = .ok (.sipush 960, 3) := by decide +kernel
theorem dX12_init_17 : decode cX12_init 17 = .ok (.newarray .byte, 2) := by decide +kernel
theorem dX12_init_19 : decode cX12_init 19 = .ok (.putfield 13, 3) := by decide +kernel
theorem dX12_init_22 : decode cX12_init 22 = .ok (.aload_n 0, 1) := by decide +kernel
theorem dX12_init_23 : decode cX12_init 23 = .ok (.iconst 4, 1) := by decide +kernel
theorem dX12_init_24 : decode cX12_init 24 = .ok (.newarray .int, 2) := by decide +kernel
theorem dX12_init_26 : decode cX12_init 26 = .ok (.putfield 16, 3) := by decide +kernel
theorem dX12_init_29 : decode cX12_init 29 = .ok (.aload_n 0, 1) := by decide +kernel
theorem dX12_init_30 : decode cX12_init 30 = .ok (.sipush 128, 3) := by decide +kernel
theorem dX12_init_33 : decode cX12_init 33 = .ok (.newarray .int, 2) := by decide +kernel
theorem dX12_init_35 : decode cX12_init 35 = .ok (.putfield 20, 3) := by decide +kernel
theorem dX12_init_38 : decode cX12_init 38 = .ok (.aload_n 0, 1) := by decide +kernel
theorem dX12_init_39 : decode cX12_init 39 = .ok (.aload_n 0, 1) := by decide +kernel
theorem dX12_init_40 : decode cX12_init 40 = .ok (.getfield 9, 3) := by decide +kernel
theorem dX12_init_43 : decode cX12_init 43 = .ok (.putfield 23, 3) := by decide +kernel
theorem dX12_init_46 : decode cX12_init 46 = .ok (.aload_n 0, 1) := by decide +kernel
theorem dX12_init_47 : decode cX12_init 47 = .ok (.ldc 26, 2) := by decide +kernel
theorem dX12_init_49 : decode cX12_init 49 = .ok (.putfield 28, 3) := by decide +kernel
theorem dX12_init_52 : decode cX12_init 52 = .ok (.aload_n 0, 1) := by decide +kernel
theorem dX12_init_53 : decode cX12_init 53 = .ok (.ldc 32, 2) := by decide +kernel
theorem dX12_init_55 : decode cX12_init 55 = .ok (.putfield 34, 3) := by decide +kernel
theorem dX12_init_58 : decode cX12_init 58 = .ok (.aload_n 0, 1) := by decide +kernel
theorem dX12_init_59 : decode cX12_init 59 = .ok (.iconst 3, 1) := by decide +kernel
theorem dX12_init_60 : decode cX12_init 60 = .ok (.newarray .int, 2) := by decide +kernel
theorem dX12_init_62 : decode cX12_init 62 = .ok (.putfield 37, 3) := by decide +kernel
theorem dX12_init_65 : decode cX12_init 65 = .ok (.aload_n 0, 1) := by decide +kernel
theorem dX12_init_66 : decode cX12_init 66 = .ok (.iconst 3, 1) := by decide +kernel
theorem dX12_init_67 : decode cX12_init 67 = .ok (.newarray .int, 2) := by decide +kernel
theorem dX12_init_69 : decode cX12_init 69 = .ok (.putfield 40, 3) := by decide +kernel
theorem dX12_init_72 : decode cX12_init 72 = .ok (.aload_n 0, 1) := by decide +kernel
theorem dX12_init_73 : decode cX12_init 73 = .ok (.bipush 40, 2) := by decide +kernel
theorem dX12_init_75 : decode cX12_init 75 = .ok (.newarray .int, 2) := by decide +kernel
theorem dX12_init_77 : decode cX12_init 77 = .ok (.putfield 43, 3) := by decide +kernel
theorem dX12_init_80 : decode cX12_init 80 = .ok (.aload_n 0, 1) := by decide +kernel
theorem dX12_init_81 : decode cX12_init 81 = .ok (.bipush 40, 2) := by decide +kernel
theorem dX12_init_83 : decode cX12_init 83 = .ok (.newarray .int, 2) := by decide +kernel
theorem dX12_init_85 : decode cX12_init 85 = .ok (.putfield 46, 3) := by decide +kernel
theorem dX12_init_88 : decode cX12_init 88 = .ok (.aload_n 0, 1) := by decide +kernel
theorem dX12_init_89 : decode cX12_init 89 = .ok (.bipush 45, 2) := by decide +kernel
theorem dX12_init_91 : decode cX12_init 91 = .ok (.newarray .int, 2) := by decide +kernel
theorem dX12_init_93 : decode cX12_init 93 = .ok (.putfield 49, 3) := by decide +kernel
theorem dX12_init_96 : decode cX12_init 96 = .ok (.aload_n 0, 1) := by decide +kernel
theorem dX12_init_97 : decode cX12_init 97 = .ok (.iconst 5, 1) := by decide +kernel
theorem dX12_init_98 : decode cX12_init 98 = .ok (.newarray .int, 2) := by decide +kernel
theorem dX12_init_100 : decode cX12_init 100 = .ok (.putfield 52, 3) := by decide +kernel
theorem dX12_init_103 : decode cX12_init 103 = .ok (.aload_n 0, 1) := by decide +kernel
theorem dX12_init_104 : decode cX12_init 104 = .ok (.sipush 533, 3) := by decide +kernel
theorem dX12_init_107 : decode cX12_init 107 = .ok (.newarray .int, 2) := by decide +kernel
theorem dX12_init_109 : decode cX12_init 109 = .ok (.putfield 55, 3) := by decide +kernel
theorem dX12_init_112 : decode cX12_init 112 = .ok (.aload_n 0, 1) := by decide +kernel
theorem dX12_init_113 : decode cX12_init 113 = .ok (.iconst (-1), 1) := by decide +kernel
theorem dX12_init_114 : decode cX12_init 114 = .ok (.putfield 58, 3) := by decide +kernel
theorem dX12_init_117 : decode cX12_init 117 = .ok (.aload_n 0, 1) := by decide +kernel
theorem dX12_init_118 : decode cX12_init 118 = .ok (.iconst (-1), 1) := by decide +kernel
theorem dX12_init_119 : decode cX12_init 119 = .ok (.putfield 62, 3) := by decide +kernel
theorem dX12_init_122 : decode cX12_init 122 = .ok (.aload_n 0, 1) := by decide +kernel
theorem dX12_init_123 : decode cX12_init 123 = .ok (.bipush 8, 2) := by decide +kernel
theorem dX12_init_125 : decode cX12_init 125 = .ok (.newarray .int, 2) := by decide +kernel
theorem dX12_init_127 : decode cX12_init 127 = .ok (.putfield 65, 3) := by decide +kernel
theorem dX12_init_130 : decode cX12_init 130 = .ok (.aload_n 0, 1) := by decide +kernel
theorem dX12_init_131 : decode cX12_init 131 = .ok (.sipush 21320, 3) := by decide +kernel
theorem dX12_init_134 : decode cX12_init 134 = .ok (.newarray .int, 2) := by decide +kernel
theorem dX12_init_136 : decode cX12_init 136 = .ok (.putfield 68, 3) := by decide +kernel
theorem dX12_init_139 : decode cX12_init 139 = .ok (.aload_n 0, 1) := by decide +kernel
theorem dX12_init_140 : decode cX12_init 140 = .ok (.bipush 11, 2) := by decide +kernel
theorem dX12_init_142 : decode cX12_init 142 = .ok (.newarray .long, 2) := by decide +kernel
theorem dX12_init_144 : decode cX12_init 144 = .ok (.putfield 71, 3) := by decide +kernel
theorem dX12_init_147 : decode cX12_init 147 = .ok (.aload_n 0, 1) := by decide +kernel
theorem dX12_init_148 : decode cX12_init 148 = .ok (.bipush 12, 2) := by decide +kernel
theorem dX12_init_150 : decode cX12_init 150 = .ok (.newarray .int, 2) := by decide +kernel
theorem dX12_init_152 : decode cX12_init 152 = .ok (.putfield 75, 3) := by decide +kernel
theorem dX12_init_155 : decode cX12_init 155 = .ok (.aload_n 0, 1) := by decide +kernel
theorem dX12_init_156 : decode cX12_init 156 = .ok (.bipush 12, 2) := by decide +kernel
theorem dX12_init_158 : decode cX12_init 158 = .ok (.newarray .int, 2) := by decide +kernel
theorem dX12_init_160 : decode cX12_init 160 = .ok (.putfield 78, 3) := by decide +kernel
theorem dX12_init_163 : decode cX12_init 163 = .ok (.aload_n 0, 1) := by decide +kernel
theorem dX12_init_164 : decode cX12_init 164 = .ok (.bipush 12, 2) := by decide +kernel
theorem dX12_init_166 : decode cX12_init 166 = .ok (.newarray .boolean, 2) := by decide +kernel
theorem dX12_init_168 : decode cX12_init 168 = .ok (.putfield 81, 3) := by decide +kernel
theorem dX12_init_171 : decode cX12_init 171 = .ok (.aload_n 0, 1) := by decide +kernel
theorem dX12_init_172 : decode cX12_init 172 = .ok (.sipush 512, 3) := by decide +kernel
theorem dX12_init_175 : decode cX12_init 175 = .ok (.newarray .int, 2) := by decide +kernel
theorem dX12_init_177 : decode cX12_init 177 = .ok (.putfield 85, 3) := by decide +kernel
theorem dX12_init_180 : decode cX12_init 180 = .ok (.aload_n 0, 1) := by decide +kernel
theorem dX12_init_181 : decode cX12_init 181 = .ok (.sipush 512, 3) := by decide +kernel
theorem dX12_init_184 : decode cX12_init 184 = .ok (.newarray .int, 2) := by decide +kernel
theorem dX12_init_186 : decode cX12_init 186 = .ok (.putfield 88, 3) := by decide +kernel
theorem dX12_init_189 : decode cX12_init 189 = .ok (.aload_n 0, 1) := by decide +kernel
theorem dX12_init_190 : decode cX12_init 190 = .ok (.bipush 72, 2) := by decide +kernel
theorem dX12_init_192 : decode cX12_init 192 = .ok (.newarray .int, 2) := by decide +kernel
theorem dX12_init_194 : decode cX12_init 194 = .ok (.putfield 91, 3) := by decide +kernel
theorem dX12_init_197 : decode cX12_init 197 = .ok (.aload_n 0, 1) := by decide +kernel
theorem dX12_init_198 : decode cX12_init 198 = .ok (.bipush 9, 2) := by decide +kernel
theorem dX12_init_200 : decode cX12_init 200 = .ok (.newarray .int, 2) := by decide +kernel
theorem dX12_init_202 : decode cX12_init 202 = .ok (.putfield 94, 3) := by decide +kernel
theorem dX12_init_205 : decode cX12_init 205 = .ok (.aload_n 0, 1) := by decide +kernel
theorem dX12_init_206 : decode cX12_init 206 = .ok (.sipush 533, 3) := by decide +kernel
theorem dX12_init_209 : decode cX12_init 209 = .ok (.newarray .int, 2) := by decide +kernel
theorem dX12_init_211 : decode cX12_init 211 = .ok (.putfield 97, 3) := by decide +kernel
theorem dX12_init_214 : decode cX12_init 214 = .ok (.return_, 1) := by decide +kernel
theorem dX12_thrown_0 : decode cX12_thrown 0 = .ok (.aload_n 0, 1) := by decide +kernel
theorem dX12_thrown_1 : decode cX12_thrown 1 = .ok (.getfield 100, 3) := by decide +kernel
theorem dX12_thrown_4 : decode cX12_thrown 4 = .ok (.ireturn, 1) := by decide +kernel
theorem dX12_isIn_0 : decode cX12_isIn 0 = .ok (.lload_n 0, 1) := by decide +kernel
theorem dX12_isIn_1 : decode cX12_isIn 1 = .ok (.lload_n 2, 1) := by decide +kernel
theorem dX12_isIn_2 : decode cX12_isIn 2 = .ok (.lcmp, 1) := by decide +kernel
theorem dX12_isIn_3 : decode cX12_isIn 3 = .ok (.ifCond .lt 14, 3) := by decide +kernel
theorem dX12_isIn_6 : decode cX12_isIn 6 = .ok (.lload_n 0, 1) := by decide +kernel
theorem dX12_isIn_7 : decode cX12_isIn 7 = .ok (.lload 4, 2) := by decide +kernel
theorem dX12_isIn_9 : decode cX12_isIn 9 = .ok (.lcmp, 1) := by decide +kernel
theorem dX12_isIn_10 : decode cX12_isIn 10 = .ok (.ifCond .gt 7, 3) := by decide +kernel
theorem dX12_isIn_13 : decode cX12_isIn 13 = .ok (.iconst 1, 1) := by decide +kernel
theorem dX12_isIn_14 : decode cX12_isIn 14 = .ok (.goto 4, 3) := by decide +kernel
theorem dX12_isIn_17 : decode cX12_isIn 17 = .ok (.iconst 0, 1) := by decide +kernel
theorem dX12_isIn_18 : decode cX12_isIn 18 = .ok (.ireturn, 1) := by decide +kernel
theorem dX12_has_0 : decode cX12_has 0 = .ok (.iload_n 0, 1) := by decide +kernel
theorem dX12_has_1 : decode cX12_has 1 = .ok (.iload_n 1, 1) := by decide +kernel
theorem dX12_has_2 : decode cX12_has 2 = .ok (.ishr, 1) := by decide +kernel
theorem dX12_has_3 : decode cX12_has 3 = .ok (.iconst 1, 1) := by decide +kernel
theorem dX12_has_4 : decode cX12_has 4 = .ok (.iand, 1) := by decide +kernel
theorem dX12_has_5 : decode cX12_has 5 = .ok (.iconst 1, 1) := by decide +kernel
theorem dX12_has_6 : decode cX12_has 6 = .ok (.if_icmp .ne 7, 3) := by decide +kernel
theorem dX12_has_9 : decode cX12_has 9 = .ok (.iconst 1, 1) := by decide +kernel
theorem dX12_has_10 : decode cX12_has 10 = .ok (.goto 4, 3) := by decide +kernel
theorem dX12_has_13 : decode cX12_has 13 = .ok (.iconst 0, 1) := by decide +kernel
theorem dX12_has_14 : decode cX12_has 14 = .ok (.ireturn, 1) := by decide +kernel
theorem dX12_isAmong_0 : decode cX12_isAmong 0 = .ok (.iconst 0, 1) := by decide +kernel
theorem dX12_isAmong_1 : decode cX12_isAmong 1 = .ok (.istore_n 2, 1) := by decide +kernel
theorem dX12_isAmong_2 : decode cX12_isAmong 2 = .ok (.iload_n 2, 1) := by decide +kernel
theorem dX12_isAmong_3 : decode cX12_isAmong 3 = .ok (.aload_n 0, 1) := by decide +kernel
theorem dX12_isAmong_4 : decode cX12_isAmong 4 = .ok (.invokevirtual 103, 3) := by decide +kernel
theorem dX12_isAmong_7 : decode cX12_isAmong 7 = .ok (.if_icmp .ge 20, 3) := by decide +kernel
theorem dX12_isAmong_10 : decode cX12_isAmong 10 = .ok (.aload_n 0, 1) := by decide +kernel
theorem dX12_isAmong_11 : decode cX12_isAmong 11 = .ok (.iload_n 2, 1) := by decide +kernel
theorem dX12_isAmong_12 : decode cX12_isAmong 12 = .ok (.invokevirtual 109, 3) := by decide +kernel
theorem dX12_isAmong_15 : decode cX12_isAmong 15 = .ok (.iload_n 1, 1) := by decide +kernel
theorem dX12_isAmong_16 : decode cX12_isAmong 16 = .ok (.if_icmp .ne 5, 3) := by decide +kernel
theorem dX12_isAmong_19 : decode cX12_isAmong 19 = .ok (.iconst 1, 1) := by decide +kernel
theorem dX12_isAmong_20 : decode cX12_isAmong 20 = .ok (.ireturn, 1) := by decide +kernel
theorem dX12_isAmong_21 : decode cX12_isAmong 21 = .ok (.iinc 2 1, 3) := by decide +kernel
theorem dX12_isAmong_24 : decode cX12_isAmong 24 = .ok (.goto (-22), 3) := by decide +kernel
theorem dX12_isAmong_27 : decode cX12_isAmong 27 = .ok (.iconst 0, 1) := by decide +kernel
theorem dX12_isAmong_28 : decode cX12_isAmong 28 = .ok (.ireturn, 1) := by decide +kernel
theorem dX12_bytesIn_0 : decode cX12_bytesIn 0 = .ok (.iconst 0, 1) := by decide +kernel
theorem dX12_bytesIn_1 : decode cX12_bytesIn 1 = .ok (.istore_n 1, 1) := by decide +kernel
theorem dX12_bytesIn_2 : decode cX12_bytesIn 2 = .ok (.bipush 24, 2) := by decide +kernel
theorem dX12_bytesIn_4 : decode cX12_bytesIn 4 = .ok (.istore_n 2, 1) := by decide +kernel
theorem dX12_bytesIn_5 : decode cX12_bytesIn 5 = .ok (.iload_n 2, 1) := by decide +kernel
theorem dX12_bytesIn_6 : decode cX12_bytesIn 6 = .ok (.ifCond .lt 27, 3) := by decide +kernel
theorem dX12_bytesIn_9 : decode cX12_bytesIn 9 = .ok (.iload_n 1, 1) := by decide +kernel
theorem dX12_bytesIn_10 : decode cX12_bytesIn 10 = .ok (.iload_n 0, 1) := by decide +kernel
theorem dX12_bytesIn_11 : decode cX12_bytesIn 11 = .ok (.iload_n 2, 1) := by decide +kernel
theorem dX12_bytesIn_12 : decode cX12_bytesIn 12 = .ok (.ishr, 1) := by decide +kernel
theorem dX12_bytesIn_13 : decode cX12_bytesIn 13 = .ok (.sipush 255, 3) := by decide +kernel
theorem dX12_bytesIn_16 : decode cX12_bytesIn 16 = .ok (.iand, 1) := by decide +kernel
theorem dX12_bytesIn_17 : decode cX12_bytesIn 17 = .ok (.ifCond .eq 7, 3) := by decide +kernel
theorem dX12_bytesIn_20 : decode cX12_bytesIn 20 = .ok (.iconst 1, 1) := by decide +kernel
theorem dX12_bytesIn_21 : decode cX12_bytesIn 21 = .ok (.goto 4, 3) := by decide +kernel
theorem dX12_bytesIn_24 : decode cX12_bytesIn 24 = .ok (.iconst 0, 1) := by decide +kernel
theorem dX12_bytesIn_25 : decode cX12_bytesIn 25 = .ok (.iadd, 1) := by decide +kernel
theorem dX12_bytesIn_26 : decode cX12_bytesIn 26 = .ok (.istore_n 1, 1) := by decide +kernel
theorem dX12_bytesIn_27 : decode cX12_bytesIn 27 = .ok (.iinc 2 (-8), 3) := by decide +kernel
theorem dX12_bytesIn_30 : decode cX12_bytesIn 30 = .ok (.goto (-25), 3) := by decide +kernel
theorem dX12_bytesIn_33 : decode cX12_bytesIn 33 = .ok (.iload_n 1, 1) := by decide +kernel
theorem dX12_bytesIn_34 : decode cX12_bytesIn 34 = .ok (.ireturn, 1) := by decide +kernel
theorem dX12_put_0 : decode cX12_put 0 = .ok (.bipush 24, 2) := by decide +kernel
theorem dX12_put_2 : decode cX12_put 2 = .ok (.istore_n 2, 1) := by decide +kernel
theorem dX12_put_3 : decode cX12_put 3 = .ok (.iload_n 2, 1) := by decide +kernel
theorem dX12_put_4 : decode cX12_put 4 = .ok (.ifCond .lt 45, 3) := by decide +kernel
theorem dX12_put_7 : decode cX12_put 7 = .ok (.iload_n 1, 1) := by decide +kernel
theorem dX12_put_8 : decode cX12_put 8 = .ok (.iload_n 2, 1) := by decide +kernel
theorem dX12_put_9 : decode cX12_put 9 = .ok (.ishr, 1) := by decide +kernel
theorem dX12_put_10 : decode cX12_put 10 = .ok (.sipush 255, 3) := by decide +kernel
theorem dX12_put_13 : decode cX12_put 13 = .ok (.iand, 1) := by decide +kernel
theorem dX12_put_14 : decode cX12_put 14 = .ok (.ifCond .ne 6, 3) := by decide +kernel
theorem dX12_put_17 : decode cX12_put 17 = .ok (.goto 26, 3) := by decide +kernel
theorem dX12_put_20 : decode cX12_put 20 = .ok (.aload_n 0, 1) := by decide +kernel
theorem dX12_put_21 : decode cX12_put 21 = .ok (.getfield 9, 3) := by decide +kernel
theorem dX12_put_24 : decode cX12_put 24 = .ok (.aload_n 0, 1) := by decide +kernel
theorem dX12_put_25 : decode cX12_put 25 = .ok (.getfield 113, 3) := by decide +kernel
theorem dX12_put_28 : decode cX12_put 28 = .ok (.iload_n 1, 1) := by decide +kernel
theorem dX12_put_29 : decode cX12_put 29 = .ok (.iload_n 2, 1) := by decide +kernel
theorem dX12_put_30 : decode cX12_put 30 = .ok (.ishr, 1) := by decide +kernel
theorem dX12_put_31 : decode cX12_put 31 = .ok (.i2b, 1) := by decide +kernel
theorem dX12_put_32 : decode cX12_put 32 = .ok (.bastore, 1) := by decide +kernel
theorem dX12_put_33 : decode cX12_put 33 = .ok (.aload_n 0, 1) := by decide +kernel
theorem dX12_put_34 : decode cX12_put 34 = .ok (.dup, 1) := by decide +kernel
theorem dX12_put_35 : decode cX12_put 35 = .ok (.getfield 113, 3) := by decide +kernel
theorem dX12_put_38 : decode cX12_put 38 = .ok (.iconst 1, 1) := by decide +kernel
theorem dX12_put_39 : decode cX12_put 39 = .ok (.iadd, 1) := by decide +kernel
theorem dX12_put_40 : decode cX12_put 40 = .ok (.putfield 113, 3) := by decide +kernel
theorem dX12_put_43 : decode cX12_put 43 = .ok (.iinc 2 (-8), 3) := by decide +kernel
theorem dX12_put_46 : decode cX12_put 46 = .ok (.goto (-43), 3) := by decide +kernel
theorem dX12_put_49 : decode cX12_put 49 = .ok (.return_, 1) := by decide +kernel
theorem dX12_feed_0 : decode cX12_feed 0 = .ok (.aload_n 0, 1) := by decide +kernel
theorem dX12_feed_1 : decode cX12_feed 1 = .ok (.iconst 0, 1) := by decide +kernel
theorem dX12_feed_2 : decode cX12_feed 2 = .ok (.putfield 100, 3) := by decide +kernel
theorem dX12_feed_5 : decode cX12_feed 5 = .ok (.aload_n 0, 1) := by decide +kernel
theorem dX12_feed_6 : decode cX12_feed 6 = .ok (.getfield 113, 3) := by decide +kernel
theorem dX12_feed_9 : decode cX12_feed 9 = .ok (.iload_n 1, 1) := by decide +kernel
theorem dX12_feed_10 : decode cX12_feed 10 = .ok (.invokestatic 115, 3) := by decide +kernel
theorem dX12_feed_13 : decode cX12_feed 13 = .ok (.iadd, 1) := by decide +kernel
theorem dX12_feed_14 : decode cX12_feed 14 = .ok (.iload_n 2, 1) := by decide +kernel
theorem dX12_feed_15 : decode cX12_feed 15 = .ok (.invokestatic 115, 3) := by decide +kernel
theorem dX12_feed_18 : decode cX12_feed 18 = .ok (.iadd, 1) := by decide +kernel
theorem dX12_feed_19 : decode cX12_feed 19 = .ok (.iload_n 3, 1) := by decide +kernel
theorem dX12_feed_20 : decode cX12_feed 20 = .ok (.invokestatic 115, 3) := by decide +kernel
theorem dX12_feed_23 : decode cX12_feed 23 = .ok (.iadd, 1) := by decide +kernel
theorem dX12_feed_24 : decode cX12_feed 24 = .ok (.iload 4, 2) := by decide +kernel
theorem dX12_feed_26 : decode cX12_feed 26 = .ok (.invokestatic 115, 3) := by decide +kernel
theorem dX12_feed_29 : decode cX12_feed 29 = .ok (.iadd, 1) := by decide +kernel
theorem dX12_feed_30 : decode cX12_feed 30 = .ok (.iload 5, 2) := by decide +kernel
theorem dX12_feed_32 : decode cX12_feed 32 = .ok (.invokestatic 115, 3) := by decide +kernel
theorem dX12_feed_35 : decode cX12_feed 35 = .ok (.iadd, 1) := by decide +kernel
theorem dX12_feed_36 : decode cX12_feed 36 = .ok (.sipush 240, 3) := by decide +kernel
theorem dX12_feed_39 : decode cX12_feed 39 = .ok (.if_icmp .le 5, 3) := by decide +kernel
theorem dX12_feed_42 : decode cX12_feed 42 = .ok (.iconst (-1), 1) := by decide +kernel
theorem dX12_feed_43 : decode cX12_feed 43 = .ok (.ireturn, 1) := by decide +kernel
theorem dX12_feed_44 : decode cX12_feed 44 = .ok (.aload_n 0, 1) := by decide +kernel
theorem dX12_feed_45 : decode cX12_feed 45 = .ok (.iload_n 1, 1) := by decide +kernel
theorem dX12_feed_46 : decode cX12_feed 46 = .ok (.invokevirtual 119, 3) := by decide +kernel
theorem dX12_feed_49 : decode cX12_feed 49 = .ok (.aload_n 0, 1) := by decide +kernel
theorem dX12_feed_50 : decode cX12_feed 50 = .ok (.iload_n 2, 1) := by decide +kernel
theorem dX12_feed_51 : decode cX12_feed 51 = .ok (.invokevirtual 119, 3) := by decide +kernel
theorem dX12_feed_54 : decode cX12_feed 54 = .ok (.aload_n 0, 1) := by decide +kernel
theorem dX12_feed_55 : decode cX12_feed 55 = .ok (.iload_n 3, 1) := by decide +kernel
theorem dX12_feed_56 : decode cX12_feed 56 = .ok (.invokevirtual 119, 3) := by decide +kernel
theorem dX12_feed_59 : decode cX12_feed 59 = .ok (.aload_n 0, 1) := by decide +kernel
theorem dX12_feed_60 : decode cX12_feed 60 = .ok (.iload 4, 2) := by decide +kernel
theorem dX12_feed_62 : decode cX12_feed 62 = .ok (.invokevirtual 119, 3) := by decide +kernel
theorem dX12_feed_65 : decode cX12_feed 65 = .ok (.aload_n 0, 1) := by decide +kernel
theorem dX12_feed_66 : decode cX12_feed 66 = .ok (.iload 5, 2) := by decide +kernel
theorem dX12_feed_68 : decode cX12_feed 68 = .ok (.invokevirtual 119, 3) := by decide +kernel
theorem dX12_feed_71 : decode cX12_feed 71 = .ok (.aload_n 0, 1) := by decide +kernel
theorem dX12_feed_72 : decode cX12_feed 72 = .ok (.getfield 113, 3) := by decide +kernel
theorem dX12_feed_75 : decode cX12_feed 75 = .ok (.ireturn, 1) := by decide +kernel
theorem dX12_end_0 : decode cX12_end 0 = .ok (.aload_n 0, 1) := by decide +kernel
theorem dX12_end_1 : decode cX12_end 1 = .ok (.iconst 0, 1) := by decide +kernel
theorem dX12_end_2 : decode cX12_end 2 = .ok (.putfield 100, 3) := by decide +kernel
theorem dX12_end_5 : decode cX12_end 5 = .ok (.iload_n 1, 1) := by decide +kernel
theorem dX12_end_6 : decode cX12_end 6 = .ok (.ifCond .lt 11, 3) := by decide +kernel
theorem dX12_end_9 : decode cX12_end 9 = .ok (.iload_n 1, 1) := by decide +kernel
theorem dX12_end_10 : decode cX12_end 10 = .ok (.aload_n 0, 1) := by decide +kernel
theorem dX12_end_11 : decode cX12_end 11 = .ok (.getfield 113, 3) := by decide +kernel
theorem dX12_end_14 : decode cX12_end 14 = .ok (.if_icmp .le 5, 3) := by decide +kernel
theorem dX12_end_17 : decode cX12_end 17 = .ok (.iconst 0, 1) := by decide +kernel
theorem dX12_end_18 : decode cX12_end 18 = .ok (.ireturn, 1) := by decide +kernel
theorem dX12_end_19 : decode cX12_end 19 = .ok (.aload_n 0, 1) := by decide +kernel
theorem dX12_end_20 : decode cX12_end 20 = .ok (.iload_n 1, 1) := by decide +kernel
theorem dX12_end_21 : decode cX12_end 21 = .ok (.putfield 113, 3) := by decide +kernel
theorem dX12_end_24 : decode cX12_end 24 = .ok (.iconst 1, 1) := by decide +kernel
theorem dX12_end_25 : decode cX12_end 25 = .ok (.ireturn, 1) := by decide +kernel
theorem dX12_look_0 : decode cX12_look 0 = .ok (.aload_n 0, 1) := by decide +kernel
theorem dX12_look_1 : decode cX12_look 1 = .ok (.getfield 123, 3) := by decide +kernel
theorem dX12_look_4 : decode cX12_look 4 = .ok (.aload_n 0, 1) := by decide +kernel
theorem dX12_look_5 : decode cX12_look 5 = .ok (.getfield 126, 3) := by decide +kernel
theorem dX12_look_8 : decode cX12_look 8 = .ok (.if_icmp .ge 35, 3) := by decide +kernel
theorem dX12_look_11 : decode cX12_look 11 = .ok (.aload_n 0, 1) := by decide +kernel
theorem dX12_look_12 : decode cX12_look 12 = .ok (.getfield 23, 3) := by decide +kernel
theorem dX12_look_15 : decode cX12_look 15 = .ok (.aload_n 0, 1) := by decide +kernel
theorem dX12_look_16 : decode cX12_look 16 = .ok (.getfield 129, 3) := by decide +kernel
theorem dX12_look_19 : decode cX12_look 19 = .ok (.aload_n 0, 1) := by decide +kernel
theorem dX12_look_20 : decode cX12_look 20 = .ok (.getfield 123, 3) := by decide +kernel
theorem dX12_look_23 : decode cX12_look 23 = .ok (.iadd, 1) := by decide +kernel
theorem dX12_look_24 : decode cX12_look 24 = .ok (.baload, 1) := by decide +kernel
theorem dX12_look_25 : decode cX12_look 25 = .ok (.bipush 32, 2) := by decide +kernel
theorem dX12_look_27 : decode cX12_look 27 = .ok (.if_icmp .ne 16, 3) := by decide +kernel
theorem dX12_look_30 : decode cX12_look 30 = .ok (.aload_n 0, 1) := by decide +kernel
theorem dX12_look_31 : decode cX12_look 31 = .ok (.dup, 1) := by decide +kernel
theorem dX12_look_32 : decode cX12_look 32 = .ok (.getfield 123, 3) := by decide +kernel
theorem dX12_look_35 : decode cX12_look 35 = .ok (.iconst 1, 1) := by decide +kernel
theorem dX12_look_36 : decode cX12_look 36 = .ok (.iadd, 1) := by decide +kernel
theorem dX12_look_37 : decode cX12_look 37 = .ok (.putfield 123, 3) := by decide +kernel
theorem dX12_look_40 : decode cX12_look 40 = .ok (.goto (-40), 3) := by decide +kernel
theorem dX12_look_43 : decode cX12_look 43 = .ok (.aload_n 0, 1) := by decide +kernel
theorem dX12_look_44 : decode cX12_look 44 = .ok (.getfield 123, 3) := by decide +kernel
theorem dX12_look_47 : decode cX12_look 47 = .ok (.aload_n 0, 1) := by decide +kernel
theorem dX12_look_48 : decode cX12_look 48 = .ok (.getfield 126, 3) := by decide +kernel
theorem dX12_look_51 : decode cX12_look 51 = .ok (.if_icmp .ge 24, 3) := by decide +kernel
theorem dX12_look_54 : decode cX12_look 54 = .ok (.aload_n 0, 1) := by decide +kernel
theorem dX12_look_55 : decode cX12_look 55 = .ok (.getfield 23, 3) := by decide +kernel
theorem dX12_look_58 : decode cX12_look 58 = .ok (.aload_n 0, 1) := by decide +kernel
theorem dX12_look_59 : decode cX12_look 59 = .ok (.getfield 129, 3) := by decide +kernel
theorem dX12_look_62 : decode cX12_look 62 = .ok (.aload_n 0, 1) := by decide +kernel
theorem dX12_look_63 : decode cX12_look 63 = .ok (.getfield 123, 3) := by decide +kernel
theorem dX12_look_66 : decode cX12_look 66 = .ok (.iadd, 1) := by decide +kernel
theorem dX12_look_67 : decode cX12_look 67 = .ok (.baload, 1) := by decide +kernel
theorem dX12_look_68 : decode cX12_look 68 = .ok (.sipush 255, 3) := by decide +kernel
theorem dX12_look_71 : decode cX12_look 71 = .ok (.iand, 1) := by decide +kernel
theorem dX12_look_72 : decode cX12_look 72 = .ok (.goto 4, 3) := by decide +kernel
theorem dX12_look_75 : decode cX12_look 75 = .ok (.iconst (-1), 1) := by decide +kernel
theorem dX12_look_76 : decode cX12_look 76 = .ok (.ireturn, 1) := by decide +kernel
theorem dX12_fails_0 : decode cX12_fails 0 = .ok (.aload_n 0, 1) := by decide +kernel
theorem dX12_fails_1 : decode cX12_fails 1 = .ok (.getfield 132, 3) := by decide +kernel
theorem dX12_fails_4 : decode cX12_fails 4 = .ok (.iconst (-1), 1) := by decide +kernel
theorem dX12_fails_5 : decode cX12_fails 5 = .ok (.if_icmp .ne 11, 3) := by decide +kernel
theorem dX12_fails_8 : decode cX12_fails 8 = .ok (.aload_n 0, 1) := by decide +kernel
theorem dX12_fails_9 : decode cX12_fails 9 = .ok (.aload_n 0, 1) := by decide +kernel
theorem dX12_fails_10 : decode cX12_fails 10 = .ok (.getfield 123, 3) := by decide +kernel
theorem dX12_fails_13 : decode cX12_fails 13 = .ok (.putfield 132, 3) := by decide +kernel
theorem dX12_fails_16 : decode cX12_fails 16 = .ok (.iconst 0, 1) := by decide +kernel
theorem dX12_fails_17 : decode cX12_fails 17 = .ok (.ireturn, 1) := by decide +kernel
theorem dX12_goesIn_0 : decode cX12_goesIn 0 = .ok (.aload_n 0, 1) := by decide +kernel
theorem dX12_goesIn_1 : decode cX12_goesIn 1 = .ok (.getfield 135, 3) := by decide +kernel
theorem dX12_goesIn_4 : decode cX12_goesIn 4 = .ok (.bipush 6, 2) := by decide +kernel
theorem dX12_goesIn_6 : decode cX12_goesIn 6 = .ok (.if_icmp .ne 8, 3) := by decide +kernel
theorem dX12_goesIn_9 : decode cX12_goesIn 9 = .ok (.aload_n 0, 1) := by decide +kernel
theorem dX12_goesIn_10 : decode cX12_goesIn 10 = .ok (.invokevirtual 138, 3) := by decide +kernel
theorem dX12_goesIn_13 : decode cX12_goesIn 13 = .ok (.ireturn, 1) := by decide +kernel
theorem dX12_goesIn_14 : decode cX12_goesIn 14 = .ok (.aload_n 0, 1) := by decide +kernel
theorem dX12_goesIn_15 : decode cX12_goesIn 15 = .ok (.dup, 1) := by decide +kernel
theorem dX12_goesIn_16 : decode cX12_goesIn 16 = .ok (.getfield 135, 3) := by decide +kernel
theorem dX12_goesIn_19 : decode cX12_goesIn 19 = .ok (.iconst 1, 1) := by decide +kernel
theorem dX12_goesIn_20 : decode cX12_goesIn 20 = .ok (.iadd, 1) := by decide +kernel
theorem dX12_goesIn_21 : decode cX12_goesIn 21 = .ok (.putfield 135, 3) := by decide +kernel
theorem dX12_goesIn_24 : decode cX12_goesIn 24 = .ok (.aload_n 0, 1) := by decide +kernel
theorem dX12_goesIn_25 : decode cX12_goesIn 25 = .ok (.dup, 1) := by decide +kernel
theorem dX12_goesIn_26 : decode cX12_goesIn 26 = .ok (.getfield 123, 3) := by decide +kernel
theorem dX12_goesIn_29 : decode cX12_goesIn 29 = .ok (.iconst 1, 1) := by decide +kernel
theorem dX12_goesIn_30 : decode cX12_goesIn 30 = .ok (.iadd, 1) := by decide +kernel
theorem dX12_goesIn_31 : decode cX12_goesIn 31 = .ok (.putfield 123, 3) := by decide +kernel
theorem dX12_goesIn_34 : decode cX12_goesIn 34 = .ok (.iconst 1, 1) := by decide +kernel
theorem dX12_goesIn_35 : decode cX12_goesIn 35 = .ok (.ireturn, 1) := by decide +kernel
theorem dX12_takes_0 : decode cX12_takes 0 = .ok (.aload_n 0, 1) := by decide +kernel
theorem dX12_takes_1 : decode cX12_takes 1 = .ok (.getfield 132, 3) := by decide +kernel
theorem dX12_takes_4 : decode cX12_takes 4 = .ok (.iconst (-1), 1) := by decide +kernel
theorem dX12_takes_5 : decode cX12_takes 5 = .ok (.if_icmp .ne 11, 3) := by decide +kernel
theorem dX12_takes_8 : decode cX12_takes 8 = .ok (.aload_n 0, 1) := by decide +kernel
theorem dX12_takes_9 : decode cX12_takes 9 = .ok (.invokevirtual 142, 3) := by decide +kernel
theorem dX12_takes_12 : decode cX12_takes 12 = .ok (.iload_n 1, 1) := by decide +kernel
theorem dX12_takes_13 : decode cX12_takes 13 = .ok (.if_icmp .eq 8, 3) := by decide +kernel
theorem dX12_takes_16 : decode cX12_takes 16 = .ok (.aload_n 0, 1) := by decide +kernel
theorem dX12_takes_17 : decode cX12_takes 17 = .ok (.invokevirtual 138, 3) := by decide +kernel
theorem dX12_takes_20 : decode cX12_takes 20 = .ok (.ireturn, 1) := by decide +kernel
theorem dX12_takes_21 : decode cX12_takes 21 = .ok (.aload_n 0, 1) := by decide +kernel
theorem dX12_takes_22 : decode cX12_takes 22 = .ok (.dup, 1) := by decide +kernel
theorem dX12_takes_23 : decode cX12_takes 23 = .ok (.getfield 123, 3) := by decide +kernel
theorem dX12_takes_26 : decode cX12_takes 26 = .ok (.iconst 1, 1) := by decide +kernel
theorem dX12_takes_27 : decode cX12_takes 27 = .ok (.iadd, 1) := by decide +kernel
theorem dX12_takes_28 : decode cX12_takes 28 = .ok (.putfield 123, 3) := by decide +kernel
theorem dX12_takes_31 : decode cX12_takes 31 = .ok (.iconst 1, 1) := by decide +kernel
theorem dX12_takes_32 : decode cX12_takes 32 = .ok (.ireturn, 1) := by decide +kernel
theorem dX12_isDigit_0 : decode cX12_isDigit 0 = .ok (.aload_n 0, 1) := by decide +kernel
theorem dX12_isDigit_1 : decode cX12_isDigit 1 = .ok (.getfield 123, 3) := by decide +kernel
theorem dX12_isDigit_4 : decode cX12_isDigit 4 = .ok (.aload_n 0, 1) := by decide +kernel
theorem dX12_isDigit_5 : decode cX12_isDigit 5 = .ok (.getfield 126, 3) := by decide +kernel
theorem dX12_isDigit_8 : decode cX12_isDigit 8 = .ok (.if_icmp .ge 45, 3) := by decide +kernel
theorem dX12_isDigit_11 : decode cX12_isDigit 11 = .ok (.aload_n 0, 1) := by decide +kernel
theorem dX12_isDigit_12 : decode cX12_isDigit 12 = .ok (.getfield 23, 3) := by decide +kernel
theorem dX12_isDigit_15 : decode cX12_isDigit 15 = .ok (.aload_n 0, 1) := by decide +kernel
theorem dX12_isDigit_16 : decode cX12_isDigit 16 = .ok (.getfield 129, 3) := by decide +kernel
theorem dX12_isDigit_19 : decode cX12_isDigit 19 = .ok (.aload_n 0, 1) := by decide +kernel
theorem dX12_isDigit_20 : decode cX12_isDigit 20 = .ok (.getfield 123, 3) := by decide +kernel
theorem dX12_isDigit_23 : decode cX12_isDigit 23 = .ok (.iadd, 1) := by decide +kernel
theorem dX12_isDigit_24 : decode cX12_isDigit 24 = .ok (.baload, 1) := by decide +kernel
theorem dX12_isDigit_25 : decode cX12_isDigit 25 = .ok (.bipush 48, 2) := by decide +kernel
theorem dX12_isDigit_27 : decode cX12_isDigit 27 = .ok (.if_icmp .lt 26, 3) := by decide +kernel
theorem dX12_isDigit_30 : decode cX12_isDigit 30 = .ok (.aload_n 0, 1) := by decide +kernel
theorem dX12_isDigit_31 : decode cX12_isDigit 31 = .ok (.getfield 23, 3) := by decide +kernel
theorem dX12_isDigit_34 : decode cX12_isDigit 34 = .ok (.aload_n 0, 1) := by decide +kernel
theorem dX12_isDigit_35 : decode cX12_isDigit 35 = .ok (.getfield 129, 3) := by decide +kernel
theorem dX12_isDigit_38 : decode cX12_isDigit 38 = .ok (.aload_n 0, 1) := by decide +kernel
theorem dX12_isDigit_39 : decode cX12_isDigit 39 = .ok (.getfield 123, 3) := by decide +kernel
theorem dX12_isDigit_42 : decode cX12_isDigit 42 = .ok (.iadd, 1) := by decide +kernel
theorem dX12_isDigit_43 : decode cX12_isDigit 43 = .ok (.baload, 1) := by decide +kernel
theorem dX12_isDigit_44 : decode cX12_isDigit 44 = .ok (.bipush 57, 2) := by decide +kernel
theorem dX12_isDigit_46 : decode cX12_isDigit 46 = .ok (.if_icmp .gt 7, 3) := by decide +kernel
theorem dX12_isDigit_49 : decode cX12_isDigit 49 = .ok (.iconst 1, 1) := by decide +kernel
theorem dX12_isDigit_50 : decode cX12_isDigit 50 = .ok (.goto 4, 3) := by decide +kernel
theorem dX12_isDigit_53 : decode cX12_isDigit 53 = .ok (.iconst 0, 1) := by decide +kernel
theorem dX12_isDigit_54 : decode cX12_isDigit 54 = .ok (.ireturn, 1) := by decide +kernel
theorem dX12_within_0 : decode cX12_within 0 = .ok (.ldc2_w 145, 3) := by decide +kernel
theorem dX12_within_3 : decode cX12_within 3 = .ok (.ldc2_w 147, 3) := by decide +kernel
theorem dX12_within_6 : decode cX12_within 6 = .ok (.lload_n 0, 1) := by decide +kernel
theorem dX12_within_7 : decode cX12_within 7 = .ok (.invokestatic 149, 3) := by decide +kernel
theorem dX12_within_10 : decode cX12_within 10 = .ok (.invokestatic 155, 3) := by decide +kernel
theorem dX12_within_13 : decode cX12_within 13 = .ok (.l2i, 1) := by decide +kernel
theorem dX12_within_14 : decode cX12_within 14 = .ok (.ireturn, 1) := by decide +kernel
theorem dX12_atom_0 : decode cX12_atom 0 = .ok (.aload_n 0, 1) := by decide +kernel
theorem dX12_atom_1 : decode cX12_atom 1 = .ok (.invokevirtual 142, 3) := by decide +kernel
theorem dX12_atom_4 : decode cX12_atom 4 = .ok (.istore_n 1, 1) := by decide +kernel
theorem dX12_atom_5 : decode cX12_atom 5 = .ok (.ldc 32, 2) := by decide +kernel
theorem dX12_atom_7 : decode cX12_atom 7 = .ok (.iload_n 1, 1) := by decide +kernel
theorem dX12_atom_8 : decode cX12_atom 8 = .ok (.invokestatic 158, 3) := by decide +kernel
theorem dX12_atom_11 : decode cX12_atom 11 = .ok (.ifCond .eq 20, 3) := by decide +kernel
theorem dX12_atom_14 : decode cX12_atom 14 = .ok (.aload_n 0, 1) := by decide +kernel
theorem dX12_atom_15 : decode cX12_atom 15 = .ok (.dup, 1) := by decide +kernel
theorem dX12_atom_16 : decode cX12_atom 16 = .ok (.getfield 123, 3) := by decide +kernel
theorem dX12_atom_19 : decode cX12_atom 19 = .ok (.iconst 1, 1) := by decide +kernel
theorem dX12_atom_20 : decode cX12_atom 20 = .ok (.iadd, 1) := by decide +kernel
theorem dX12_atom_21 : decode cX12_atom 21 = .ok (.putfield 123, 3) := by decide +kernel
theorem dX12_atom_24 : decode cX12_atom 24 = .ok (.aload_n 0, 1) := by decide +kernel
theorem dX12_atom_25 : decode cX12_atom 25 = .ok (.getfield 20, 3) := by decide +kernel
theorem dX12_atom_28 : decode cX12_atom 28 = .ok (.iload_n 1, 1) := by decide +kernel
theorem dX12_atom_29 : decode cX12_atom 29 = .ok (.iaload, 1) := by decide +kernel
theorem dX12_atom_30 : decode cX12_atom 30 = .ok (.ireturn, 1) := by decide +kernel
theorem dX12_atom_31 : decode cX12_atom 31 = .ok (.iload_n 1, 1) := by decide +kernel
theorem dX12_atom_32 : decode cX12_atom 32 = .ok (.bipush 91, 2) := by decide +kernel
theorem dX12_atom_34 : decode cX12_atom 34 = .ok (.if_icmp .ne 40, 3) := by decide +kernel
theorem dX12_atom_37 : decode cX12_atom 37 = .ok (.aload_n 0, 1) := by decide +kernel
theorem dX12_atom_38 : decode cX12_atom 38 = .ok (.invokevirtual 162, 3) := by decide +kernel
theorem dX12_atom_41 : decode cX12_atom 41 = .ok (.ifCond .ne 5, 3) := by decide +kernel
theorem dX12_atom_44 : decode cX12_atom 44 = .ok (.iconst 0, 1) := by decide +kernel
theorem dX12_atom_45 : decode cX12_atom 45 = .ok (.ireturn, 1) := by decide +kernel
theorem dX12_atom_46 : decode cX12_atom 46 = .ok (.aload_n 0, 1) := by decide +kernel
theorem dX12_atom_47 : decode cX12_atom 47 = .ok (.invokevirtual 165, 3) := by decide +kernel
theorem dX12_atom_50 : decode cX12_atom 50 = .ok (.istore_n 2, 1) := by decide +kernel
theorem dX12_atom_51 : decode cX12_atom 51 = .ok (.aload_n 0, 1) := by decide +kernel
theorem dX12_atom_52 : decode cX12_atom 52 = .ok (.bipush 93, 2) := by decide +kernel
theorem dX12_atom_54 : decode cX12_atom 54 = .ok (.invokevirtual 168, 3) := by decide +kernel
theorem dX12_atom_57 : decode cX12_atom 57 = .ok (.ifCond .ne 5, 3) := by decide +kernel
theorem dX12_atom_60 : decode cX12_atom 60 = .ok (.iconst 0, 1) := by decide +kernel
theorem dX12_atom_61 : decode cX12_atom 61 = .ok (.ireturn, 1) := by decide +kernel
theorem dX12_atom_62 : decode cX12_atom 62 = .ok (.aload_n 0, 1) := by decide +kernel
theorem dX12_atom_63 : decode cX12_atom 63 = .ok (.dup, 1) := by decide +kernel
theorem dX12_atom_64 : decode cX12_atom 64 = .ok (.getfield 135, 3) := by decide +kernel
theorem dX12_atom_67 : decode cX12_atom 67 = .ok (.iconst 1, 1) := by decide +kernel
theorem dX12_atom_68 : decode cX12_atom 68 = .ok (.isub, 1) := by decide +kernel
theorem dX12_atom_69 : decode cX12_atom 69 = .ok (.putfield 135, 3) := by decide +kernel
theorem dX12_atom_72 : decode cX12_atom 72 = .ok (.iload_n 2, 1) := by decide +kernel
theorem dX12_atom_73 : decode cX12_atom 73 = .ok (.ireturn, 1) := by decide +kernel
theorem dX12_atom_74 : decode cX12_atom 74 = .ok (.aload_n 0, 1) := by decide +kernel
theorem dX12_atom_75 : decode cX12_atom 75 = .ok (.invokevirtual 172, 3) := by decide +kernel
theorem dX12_atom_78 : decode cX12_atom 78 = .ok (.ifCond .ne 8, 3) := by decide +kernel
theorem dX12_atom_81 : decode cX12_atom 81 = .ok (.aload_n 0, 1) := by decide +kernel
theorem dX12_atom_82 : decode cX12_atom 82 = .ok (.invokevirtual 138, 3) := by decide +kernel
theorem dX12_atom_85 : decode cX12_atom 85 = .ok (.pop, 1) := by decide +kernel
theorem dX12_atom_86 : decode cX12_atom 86 = .ok (.iconst 0, 1) := by decide +kernel
theorem dX12_atom_87 : decode cX12_atom 87 = .ok (.istore_n 2, 1) := by decide +kernel
theorem dX12_atom_88 : decode cX12_atom 88 = .ok (.iconst 0, 1) := by decide +kernel
theorem dX12_atom_89 : decode cX12_atom 89 = .ok (.istore_n 3, 1) := by decide +kernel
theorem dX12_atom_90 : decode cX12_atom 90 = .ok (.aload_n 0, 1) := by decide +kernel
theorem dX12_atom_91 : decode cX12_atom 91 = .ok (.invokevirtual 172, 3) := by decide +kernel
theorem dX12_atom_94 : decode cX12_atom 94 = .ok (.ifCond .eq 62, 3) := by decide +kernel
theorem dX12_atom_97 : decode cX12_atom 97 = .ok (.aload_n 0, 1) := by decide +kernel
theorem dX12_atom_98 : decode cX12_atom 98 = .ok (.getfield 132, 3) := by decide +kernel
theorem dX12_atom_101 : decode cX12_atom 101 = .ok (.iconst (-1), 1) := by decide +kernel
theorem dX12_atom_102 : decode cX12_atom 102 = .ok (.if_icmp .ne 54, 3) := by decide +kernel
theorem dX12_atom_105 : decode cX12_atom 105 = .ok (.iload_n 3, 1) := by decide +kernel
theorem dX12_atom_106 : decode cX12_atom 106 = .ok (.iconst 4, 1) := by decide +kernel
theorem dX12_atom_107 : decode cX12_atom 107 = .ok (.if_icmp .ne 10, 3) := by decide +kernel
theorem dX12_atom_110 : decode cX12_atom 110 = .ok (.aload_n 0, 1) := by decide +kernel
theorem dX12_atom_111 : decode cX12_atom 111 = .ok (.invokevirtual 138, 3) := by decide +kernel
theorem dX12_atom_114 : decode cX12_atom 114 = .ok (.pop, 1) := by decide +kernel
theorem dX12_atom_115 : decode cX12_atom 115 = .ok (.iconst 0, 1) := by decide +kernel
theorem dX12_atom_116 : decode cX12_atom 116 = .ok (.ireturn, 1) := by decide +kernel
theorem dX12_atom_117 : decode cX12_atom 117 = .ok (.bipush 10, 2) := by decide +kernel
theorem dX12_atom_119 : decode cX12_atom 119 = .ok (.iload_n 2, 1) := by decide +kernel
theorem dX12_atom_120 : decode cX12_atom 120 = .ok (.imul, 1) := by decide +kernel
theorem dX12_atom_121 : decode cX12_atom 121 = .ok (.aload_n 0, 1) := by decide +kernel
theorem dX12_atom_122 : decode cX12_atom 122 = .ok (.getfield 23, 3) := by decide +kernel
theorem dX12_atom_125 : decode cX12_atom 125 = .ok (.aload_n 0, 1) := by decide +kernel
theorem dX12_atom_126 : decode cX12_atom 126 = .ok (.getfield 129, 3) := by decide +kernel
theorem dX12_atom_129 : decode cX12_atom 129 = .ok (.aload_n 0, 1) := by decide +kernel
theorem dX12_atom_130 : decode cX12_atom 130 = .ok (.getfield 123, 3) := by decide +kernel
theorem dX12_atom_133 : decode cX12_atom 133 = .ok (.iadd, 1) := by decide +kernel
theorem dX12_atom_134 : decode cX12_atom 134 = .ok (.baload, 1) := by decide +kernel
theorem dX12_atom_135 : decode cX12_atom 135 = .ok (.iadd, 1) := by decide +kernel
theorem dX12_atom_136 : decode cX12_atom 136 = .ok (.bipush 48, 2) := by decide +kernel
theorem dX12_atom_138 : decode cX12_atom 138 = .ok (.isub, 1) := by decide +kernel
theorem dX12_atom_139 : decode cX12_atom 139 = .ok (.istore_n 2, 1) := by decide +kernel
theorem dX12_atom_140 : decode cX12_atom 140 = .ok (.aload_n 0, 1) := by decide +kernel
theorem dX12_atom_141 : decode cX12_atom 141 = .ok (.dup, 1) := by decide +kernel
theorem dX12_atom_142 : decode cX12_atom 142 = .ok (.getfield 123, 3) := by decide +kernel
theorem dX12_atom_145 : decode cX12_atom 145 = .ok (.iconst 1, 1) := by decide +kernel
theorem dX12_atom_146 : decode cX12_atom 146 = .ok (.iadd, 1) := by decide +kernel
theorem dX12_atom_147 : decode cX12_atom 147 = .ok (.putfield 123, 3) := by decide +kernel
theorem dX12_atom_150 : decode cX12_atom 150 = .ok (.iinc 3 1, 3) := by decide +kernel
theorem dX12_atom_153 : decode cX12_atom 153 = .ok (.goto (-63), 3) := by decide +kernel
theorem dX12_atom_156 : decode cX12_atom 156 = .ok (.iload_n 2, 1) := by decide +kernel
theorem dX12_atom_157 : decode cX12_atom 157 = .ok (.ireturn, 1) := by decide +kernel
theorem dX12_term_0 : decode cX12_term 0 = .ok (.aload_n 0, 1) := by decide +kernel
theorem dX12_term_1 : decode cX12_term 1 = .ok (.invokevirtual 175, 3) := by decide +kernel
theorem dX12_term_4 : decode cX12_term 4 = .ok (.istore_n 1, 1) := by decide +kernel
theorem dX12_term_5 : decode cX12_term 5 = .ok (.aload_n 0, 1) := by decide +kernel
theorem dX12_term_6 : decode cX12_term 6 = .ok (.getfield 132, 3) := by decide +kernel
theorem dX12_term_9 : decode cX12_term 9 = .ok (.iconst (-1), 1) := by decide +kernel
theorem dX12_term_10 : decode cX12_term 10 = .ok (.if_icmp .ne 84, 3) := by decide +kernel
theorem dX12_term_13 : decode cX12_term 13 = .ok (.aload_n 0, 1) := by decide +kernel
theorem dX12_term_14 : decode cX12_term 14 = .ok (.invokevirtual 142, 3) := by decide +kernel
theorem dX12_term_17 : decode cX12_term 17 = .ok (.bipush 42, 2) := by decide +kernel
theorem dX12_term_19 : decode cX12_term 19 = .ok (.if_icmp .eq 12, 3) := by decide +kernel
theorem dX12_term_22 : decode cX12_term 22 = .ok (.aload_n 0, 1) := by decide +kernel
theorem dX12_term_23 : decode cX12_term 23 = .ok (.invokevirtual 142, 3) := by decide +kernel
theorem dX12_term_26 : decode cX12_term 26 = .ok (.bipush 47, 2) := by decide +kernel
theorem dX12_term_28 : decode cX12_term 28 = .ok (.if_icmp .ne 66, 3) := by decide +kernel
theorem dX12_term_31 : decode cX12_term 31 = .ok (.aload_n 0, 1) := by decide +kernel
theorem dX12_term_32 : decode cX12_term 32 = .ok (.invokevirtual 142, 3) := by decide +kernel
theorem dX12_term_35 : decode cX12_term 35 = .ok (.bipush 42, 2) := by decide +kernel
theorem dX12_term_37 : decode cX12_term 37 = .ok (.if_icmp .ne 7, 3) := by decide +kernel
theorem dX12_term_40 : decode cX12_term 40 = .ok (.iconst 1, 1) := by decide +kernel
theorem dX12_term_41 : decode cX12_term 41 = .ok (.goto 4, 3) := by decide +kernel
theorem dX12_term_44 : decode cX12_term 44 = .ok (.iconst 0, 1) := by decide +kernel
theorem dX12_term_45 : decode cX12_term 45 = .ok (.istore_n 2, 1) := by decide +kernel
theorem dX12_term_46 : decode cX12_term 46 = .ok (.aload_n 0, 1) := by decide +kernel
theorem dX12_term_47 : decode cX12_term 47 = .ok (.dup, 1) := by decide +kernel
theorem dX12_term_48 : decode cX12_term 48 = .ok (.getfield 123, 3) := by decide +kernel
theorem dX12_term_51 : decode cX12_term 51 = .ok (.iconst 1, 1) := by decide +kernel
theorem dX12_term_52 : decode cX12_term 52 = .ok (.iadd, 1) := by decide +kernel
theorem dX12_term_53 : decode cX12_term 53 = .ok (.putfield 123, 3) := by decide +kernel
theorem dX12_term_56 : decode cX12_term 56 = .ok (.aload_n 0, 1) := by decide +kernel
theorem dX12_term_57 : decode cX12_term 57 = .ok (.invokevirtual 175, 3) := by decide +kernel
theorem dX12_term_60 : decode cX12_term 60 = .ok (.i2l, 1) := by decide +kernel
theorem dX12_term_61 : decode cX12_term 61 = .ok (.lstore_n 3, 1) := by decide +kernel
theorem dX12_term_62 : decode cX12_term 62 = .ok (.iload_n 2, 1) := by decide +kernel
theorem dX12_term_63 : decode cX12_term 63 = .ok (.ifCond .eq 10, 3) := by decide +kernel
theorem dX12_term_66 : decode cX12_term 66 = .ok (.iload_n 1, 1) := by decide +kernel
theorem dX12_term_67 : decode cX12_term 67 = .ok (.i2l, 1) := by decide +kernel
theorem dX12_term_68 : decode cX12_term 68 = .ok (.lload_n 3, 1) := by decide +kernel
theorem dX12_term_69 : decode cX12_term 69 = .ok (.lmul, 1) := by decide +kernel
theorem dX12_term_70 : decode cX12_term 70 = .ok (.goto 17, 3) := by decide +kernel
theorem dX12_term_73 : decode cX12_term 73 = .ok (.lload_n 3, 1) := by decide +kernel
theorem dX12_term_74 : decode cX12_term 74 = .ok (.lconst 0, 1) := by decide +kernel
theorem dX12_term_75 : decode cX12_term 75 = .ok (.lcmp, 1) := by decide +kernel
theorem dX12_term_76 : decode cX12_term 76 = .ok (.ifCond .ne 7, 3) := by decide +kernel
theorem dX12_term_79 : decode cX12_term 79 = .ok (.lconst 0, 1) := by decide +kernel
theorem dX12_term_80 : decode cX12_term 80 = .ok (.goto 7, 3) := by decide +kernel
theorem dX12_term_83 : decode cX12_term 83 = .ok (.iload_n 1, 1) := by decide +kernel
theorem dX12_term_84 : decode cX12_term 84 = .ok (.i2l, 1) := by decide +kernel
theorem dX12_term_85 : decode cX12_term 85 = .ok (.lload_n 3, 1) := by decide +kernel
theorem dX12_term_86 : decode cX12_term 86 = .ok (.ldiv, 1) := by decide +kernel
theorem dX12_term_87 : decode cX12_term 87 = .ok (.invokestatic 178, 3) := by decide +kernel
theorem dX12_term_90 : decode cX12_term 90 = .ok (.istore_n 1, 1) := by decide +kernel
theorem dX12_term_91 : decode cX12_term 91 = .ok (.goto (-86), 3) := by decide +kernel
theorem dX12_term_94 : decode cX12_term 94 = .ok (.iload_n 1, 1) := by decide +kernel
theorem dX12_term_95 : decode cX12_term 95 = .ok (.ireturn, 1) := by decide +kernel
theorem dX12_sum_0 : decode cX12_sum 0 = .ok (.aload_n 0, 1) := by decide +kernel
theorem dX12_sum_1 : decode cX12_sum 1 = .ok (.invokevirtual 182, 3) := by decide +kernel
theorem dX12_sum_4 : decode cX12_sum 4 = .ok (.istore_n 1, 1) := by decide +kernel
theorem dX12_sum_5 : decode cX12_sum 5 = .ok (.aload_n 0, 1) := by decide +kernel
theorem dX12_sum_6 : decode cX12_sum 6 = .ok (.getfield 132, 3) := by decide +kernel
theorem dX12_sum_9 : decode cX12_sum 9 = .ok (.iconst (-1), 1) := by decide +kernel
theorem dX12_sum_10 : decode cX12_sum 10 = .ok (.if_icmp .ne 74, 3) := by decide +kernel
theorem dX12_sum_13 : decode cX12_sum 13 = .ok (.aload_n 0, 1) := by decide +kernel
theorem dX12_sum_14 : decode cX12_sum 14 = .ok (.invokevirtual 142, 3) := by decide +kernel
theorem dX12_sum_17 : decode cX12_sum 17 = .ok (.bipush 43, 2) := by decide +kernel
theorem dX12_sum_19 : decode cX12_sum 19 = .ok (.if_icmp .eq 12, 3) := by decide +kernel
theorem dX12_sum_22 : decode cX12_sum 22 = .ok (.aload_n 0, 1) := by decide +kernel
theorem dX12_sum_23 : decode cX12_sum 23 = .ok (.invokevirtual 142, 3) := by decide +kernel
theorem dX12_sum_26 : decode cX12_sum 26 = .ok (.bipush 45, 2) := by decide +kernel
theorem dX12_sum_28 : decode cX12_sum 28 = .ok (.if_icmp .ne 56, 3) := by decide +kernel
theorem dX12_sum_31 : decode cX12_sum 31 = .ok (.aload_n 0, 1) := by decide +kernel
theorem dX12_sum_32 : decode cX12_sum 32 = .ok (.invokevirtual 142, 3) := by decide +kernel
theorem dX12_sum_35 : decode cX12_sum 35 = .ok (.bipush 43, 2) := by decide +kernel
theorem dX12_sum_37 : decode cX12_sum 37 = .ok (.if_icmp .ne 7, 3) := by decide +kernel
theorem dX12_sum_40 : decode cX12_sum 40 = .ok (.iconst 1, 1) := by decide +kernel
theorem dX12_sum_41 : decode cX12_sum 41 = .ok (.goto 4, 3) := by decide +kernel
theorem dX12_sum_44 : decode cX12_sum 44 = .ok (.iconst 0, 1) := by decide +kernel
theorem dX12_sum_45 : decode cX12_sum 45 = .ok (.istore_n 2, 1) := by decide +kernel
theorem dX12_sum_46 : decode cX12_sum 46 = .ok (.aload_n 0, 1) := by decide +kernel
theorem dX12_sum_47 : decode cX12_sum 47 = .ok (.dup, 1) := by decide +kernel
theorem dX12_sum_48 : decode cX12_sum 48 = .ok (.getfield 123, 3) := by decide +kernel
theorem dX12_sum_51 : decode cX12_sum 51 = .ok (.iconst 1, 1) := by decide +kernel
theorem dX12_sum_52 : decode cX12_sum 52 = .ok (.iadd, 1) := by decide +kernel
theorem dX12_sum_53 : decode cX12_sum 53 = .ok (.putfield 123, 3) := by decide +kernel
theorem dX12_sum_56 : decode cX12_sum 56 = .ok (.aload_n 0, 1) := by decide +kernel
theorem dX12_sum_57 : decode cX12_sum 57 = .ok (.invokevirtual 182, 3) := by decide +kernel
theorem dX12_sum_60 : decode cX12_sum 60 = .ok (.i2l, 1) := by decide +kernel
theorem dX12_sum_61 : decode cX12_sum 61 = .ok (.lstore_n 3, 1) := by decide +kernel
theorem dX12_sum_62 : decode cX12_sum 62 = .ok (.iload_n 2, 1) := by decide +kernel
theorem dX12_sum_63 : decode cX12_sum 63 = .ok (.ifCond .eq 10, 3) := by decide +kernel
theorem dX12_sum_66 : decode cX12_sum 66 = .ok (.iload_n 1, 1) := by decide +kernel
theorem dX12_sum_67 : decode cX12_sum 67 = .ok (.i2l, 1) := by decide +kernel
theorem dX12_sum_68 : decode cX12_sum 68 = .ok (.lload_n 3, 1) := by decide +kernel
theorem dX12_sum_69 : decode cX12_sum 69 = .ok (.ladd, 1) := by decide +kernel
theorem dX12_sum_70 : decode cX12_sum 70 = .ok (.goto 7, 3) := by decide +kernel
theorem dX12_sum_73 : decode cX12_sum 73 = .ok (.iload_n 1, 1) := by decide +kernel
theorem dX12_sum_74 : decode cX12_sum 74 = .ok (.i2l, 1) := by decide +kernel
theorem dX12_sum_75 : decode cX12_sum 75 = .ok (.lload_n 3, 1) := by decide +kernel
theorem dX12_sum_76 : decode cX12_sum 76 = .ok (.lsub, 1) := by decide +kernel
theorem dX12_sum_77 : decode cX12_sum 77 = .ok (.invokestatic 178, 3) := by decide +kernel
theorem dX12_sum_80 : decode cX12_sum 80 = .ok (.istore_n 1, 1) := by decide +kernel
theorem dX12_sum_81 : decode cX12_sum 81 = .ok (.goto (-76), 3) := by decide +kernel
theorem dX12_sum_84 : decode cX12_sum 84 = .ok (.iload_n 1, 1) := by decide +kernel
theorem dX12_sum_85 : decode cX12_sum 85 = .ok (.ireturn, 1) := by decide +kernel
theorem dX12_isSign_0 : decode cX12_isSign 0 = .ok (.iload_n 0, 1) := by decide +kernel
theorem dX12_isSign_1 : decode cX12_isSign 1 = .ok (.bipush 61, 2) := by decide +kernel
theorem dX12_isSign_3 : decode cX12_isSign 3 = .ok (.if_icmp .eq 15, 3) := by decide +kernel
theorem dX12_isSign_6 : decode cX12_isSign 6 = .ok (.iload_n 0, 1) := by decide +kernel
theorem dX12_isSign_7 : decode cX12_isSign 7 = .ok (.bipush 60, 2) := by decide +kernel
theorem dX12_isSign_9 : decode cX12_isSign 9 = .ok (.if_icmp .eq 9, 3) := by decide +kernel
theorem dX12_isSign_12 : decode cX12_isSign 12 = .ok (.iload_n 0, 1) := by decide +kernel
theorem dX12_isSign_13 : decode cX12_isSign 13 = .ok (.bipush 62, 2) := by decide +kernel
theorem dX12_isSign_15 : decode cX12_isSign 15 = .ok (.if_icmp .ne 7, 3) := by decide +kernel
theorem dX12_isSign_18 : decode cX12_isSign 18 = .ok (.iconst 1, 1) := by decide +kernel
theorem dX12_isSign_19 : decode cX12_isSign 19 = .ok (.goto 4, 3) := by decide +kernel
theorem dX12_isSign_22 : decode cX12_isSign 22 = .ok (.iconst 0, 1) := by decide +kernel
theorem dX12_isSign_23 : decode cX12_isSign 23 = .ok (.ireturn, 1) := by decide +kernel
theorem dX12_compares_0 : decode cX12_compares 0 = .ok (.iload_n 1, 1) := by decide +kernel
theorem dX12_compares_1 : decode cX12_compares 1 = .ok (.ifCond .eq 7, 3) := by decide +kernel
theorem dX12_compares_4 : decode cX12_compares 4 = .ok (.iload_n 2, 1) := by decide +kernel
theorem dX12_compares_5 : decode cX12_compares 5 = .ok (.goto 7, 3) := by decide +kernel
theorem dX12_compares_8 : decode cX12_compares 8 = .ok (.aload_n 0, 1) := by decide +kernel
theorem dX12_compares_9 : decode cX12_compares 9 = .ok (.invokevirtual 165, 3) := by decide +kernel
theorem dX12_compares_12 : decode cX12_compares 12 = .ok (.istore_n 3, 1) := by decide +kernel
theorem dX12_compares_13 : decode cX12_compares 13 = .ok (.aload_n 0, 1) := by decide +kernel
theorem dX12_compares_14 : decode cX12_compares 14 = .ok (.getfield 132, 3) := by decide +kernel
theorem dX12_compares_17 : decode cX12_compares 17 = .ok (.iconst (-1), 1) := by decide +kernel
theorem dX12_compares_18 : decode cX12_compares 18 = .ok (.if_icmp .eq 5, 3) := by decide +kernel
theorem dX12_compares_21 : decode cX12_compares 21 = .ok (.iconst 0, 1) := by decide +kernel
theorem dX12_compares_22 : decode cX12_compares 22 = .ok (.ireturn, 1) := by decide +kernel
theorem dX12_compares_23 : decode cX12_compares 23 = .ok (.aload_n 0, 1) := by decide +kernel
theorem dX12_compares_24 : decode cX12_compares 24 = .ok (.invokevirtual 142, 3) := by decide +kernel
theorem dX12_compares_27 : decode cX12_compares 27 = .ok (.istore 4, 2) := by decide +kernel
theorem dX12_compares_29 : decode cX12_compares 29 = .ok (.iload 4, 2) := by decide +kernel
theorem dX12_compares_31 : decode cX12_compares 31 = .ok (.invokestatic 185, 3) := by decide +kernel
theorem dX12_compares_34 : decode cX12_compares 34 = .ok (.ifCond .ne 8, 3) := by decide +kernel
theorem dX12_compares_37 : decode cX12_compares 37 = .ok (.aload_n 0, 1) := by decide +kernel
theorem dX12_compares_38 : decode cX12_compares 38 = .ok (.invokevirtual 138, 3) := by decide +kernel
theorem dX12_compares_41 : decode cX12_compares 41 = .ok (.ireturn, 1) := by decide +kernel
theorem dX12_compares_42 : decode cX12_compares 42 = .ok (.aload_n 0, 1) := by decide +kernel
theorem dX12_compares_43 : decode cX12_compares 43 = .ok (.dup, 1) := by decide +kernel
theorem dX12_compares_44 : decode cX12_compares 44 = .ok (.getfield 123, 3) := by decide +kernel
theorem dX12_compares_47 : decode cX12_compares 47 = .ok (.iconst 1, 1) := by decide +kernel
theorem dX12_compares_48 : decode cX12_compares 48 = .ok (.iadd, 1) := by decide +kernel
theorem dX12_compares_49 : decode cX12_compares 49 = .ok (.putfield 123, 3) := by decide +kernel
theorem dX12_compares_52 : decode cX12_compares 52 = .ok (.aload_n 0, 1) := by decide +kernel
theorem dX12_compares_53 : decode cX12_compares 53 = .ok (.invokevirtual 165, 3) := by decide +kernel
theorem dX12_compares_56 : decode cX12_compares 56 = .ok (.istore 5, 2) := by decide +kernel
theorem dX12_compares_58 : decode cX12_compares 58 = .ok (.iload 4, 2) := by decide +kernel
theorem dX12_compares_60 : decode cX12_compares 60 = .ok (.bipush 61, 2) := by decide +kernel
theorem dX12_compares_62 : decode cX12_compares 62 = .ok (.if_icmp .ne 17, 3) := by decide +kernel
theorem dX12_compares_65 : decode cX12_compares 65 = .ok (.iload_n 3, 1) := by decide +kernel
theorem dX12_compares_66 : decode cX12_compares 66 = .ok (.iload 5, 2) := by decide +kernel
theorem dX12_compares_68 : decode cX12_compares 68 = .ok (.if_icmp .ne 7, 3) := by decide +kernel
theorem dX12_compares_71 : decode cX12_compares 71 = .ok (.iconst 1, 1) := by decide +kernel
theorem dX12_compares_72 : decode cX12_compares 72 = .ok (.goto 39, 3) := by decide +kernel
theorem dX12_compares_75 : decode cX12_compares 75 = .ok (.iconst 0, 1) := by decide +kernel
theorem dX12_compares_76 : decode cX12_compares 76 = .ok (.goto 35, 3) := by decide +kernel
theorem dX12_compares_79 : decode cX12_compares 79 = .ok (.iload 4, 2) := by decide +kernel
theorem dX12_compares_81 : decode cX12_compares 81 = .ok (.bipush 60, 2) := by decide +kernel
theorem dX12_compares_83 : decode cX12_compares 83 = .ok (.if_icmp .ne 17, 3) := by decide +kernel
theorem dX12_compares_86 : decode cX12_compares 86 = .ok (.iload_n 3, 1) := by decide +kernel
theorem dX12_compares_87 : decode cX12_compares 87 = .ok (.iload 5, 2) := by decide +kernel
theorem dX12_compares_89 : decode cX12_compares 89 = .ok (.if_icmp .ge 7, 3) := by decide +kernel
theorem dX12_compares_92 : decode cX12_compares 92 = .ok (.iconst 1, 1) := by decide +kernel
theorem dX12_compares_93 : decode cX12_compares 93 = .ok (.goto 18, 3) := by decide +kernel
theorem dX12_compares_96 : decode cX12_compares 96 = .ok (.iconst 0, 1) := by decide +kernel
theorem dX12_compares_97 : decode cX12_compares 97 = .ok (.goto 14, 3) := by decide +kernel
theorem dX12_compares_100 : decode cX12_compares 100 = .ok (.iload_n 3, 1) := by decide +kernel
theorem dX12_compares_101 : decode cX12_compares 101 = .ok (.iload 5, 2) := by decide +kernel
theorem dX12_compares_103 : decode cX12_compares 103 = .ok (.if_icmp .le 7, 3) := by decide +kernel
theorem dX12_compares_106 : decode cX12_compares 106 = .ok (.iconst 1, 1) := by decide +kernel
theorem dX12_compares_107 : decode cX12_compares 107 = .ok (.goto 4, 3) := by decide +kernel
theorem dX12_compares_110 : decode cX12_compares 110 = .ok (.iconst 0, 1) := by decide +kernel
theorem dX12_compares_111 : decode cX12_compares 111 = .ok (.ireturn, 1) := by decide +kernel
theorem dX12_unit_0 : decode cX12_unit 0 = .ok (.aload_n 0, 1) := by decide +kernel
theorem dX12_unit_1 : decode cX12_unit 1 = .ok (.invokevirtual 142, 3) := by decide +kernel
theorem dX12_unit_4 : decode cX12_unit 4 = .ok (.istore_n 1, 1) := by decide +kernel
theorem dX12_unit_5 : decode cX12_unit 5 = .ok (.iload_n 1, 1) := by decide +kernel
theorem dX12_unit_6 : decode cX12_unit 6 = .ok (.bipush 33, 2) := by decide +kernel
theorem dX12_unit_8 : decode cX12_unit 8 = .ok (.if_icmp .ne 37, 3) := by decide +kernel
theorem dX12_unit_11 : decode cX12_unit 11 = .ok (.aload_n 0, 1) := by decide +kernel
theorem dX12_unit_12 : decode cX12_unit 12 = .ok (.invokevirtual 162, 3) := by decide +kernel
theorem dX12_unit_15 : decode cX12_unit 15 = .ok (.ifCond .ne 5, 3) := by decide +kernel
theorem dX12_unit_18 : decode cX12_unit 18 = .ok (.iconst 0, 1) := by decide +kernel
theorem dX12_unit_19 : decode cX12_unit 19 = .ok (.ireturn, 1) := by decide +kernel
theorem dX12_unit_20 : decode cX12_unit 20 = .ok (.aload_n 0, 1) := by decide +kernel
theorem dX12_unit_21 : decode cX12_unit 21 = .ok (.invokevirtual 188, 3) := by decide +kernel
theorem dX12_unit_24 : decode cX12_unit 24 = .ok (.istore_n 2, 1) := by decide +kernel
theorem dX12_unit_25 : decode cX12_unit 25 = .ok (.aload_n 0, 1) := by decide +kernel
theorem dX12_unit_26 : decode cX12_unit 26 = .ok (.dup, 1) := by decide +kernel
theorem dX12_unit_27 : decode cX12_unit 27 = .ok (.getfield 135, 3) := by decide +kernel
theorem dX12_unit_30 : decode cX12_unit 30 = .ok (.iconst 1, 1) := by decide +kernel
theorem dX12_unit_31 : decode cX12_unit 31 = .ok (.isub, 1) := by decide +kernel
theorem dX12_unit_32 : decode cX12_unit 32 = .ok (.putfield 135, 3) := by decide +kernel
theorem dX12_unit_35 : decode cX12_unit 35 = .ok (.iload_n 2, 1) := by decide +kernel
theorem dX12_unit_36 : decode cX12_unit 36 = .ok (.ifCond .ne 7, 3) := by decide +kernel
theorem dX12_unit_39 : decode cX12_unit 39 = .ok (.iconst 1, 1) := by decide +kernel
theorem dX12_unit_40 : decode cX12_unit 40 = .ok (.goto 4, 3) := by decide +kernel
theorem dX12_unit_43 : decode cX12_unit 43 = .ok (.iconst 0, 1) := by decide +kernel
theorem dX12_unit_44 : decode cX12_unit 44 = .ok (.ireturn, 1) := by decide +kernel
theorem dX12_unit_45 : decode cX12_unit 45 = .ok (.iload_n 1, 1) := by decide +kernel
theorem dX12_unit_46 : decode cX12_unit 46 = .ok (.bipush 40, 2) := by decide +kernel
theorem dX12_unit_48 : decode cX12_unit 48 = .ok (.if_icmp .ne 42, 3) := by decide +kernel
theorem dX12_unit_51 : decode cX12_unit 51 = .ok (.aload_n 0, 1) := by decide +kernel
theorem dX12_unit_52 : decode cX12_unit 52 = .ok (.invokevirtual 162, 3) := by decide +kernel
theorem dX12_unit_55 : decode cX12_unit 55 = .ok (.ifCond .ne 5, 3) := by decide +kernel
theorem dX12_unit_58 : decode cX12_unit 58 = .ok (.iconst 0, 1) := by decide +kernel
theorem dX12_unit_59 : decode cX12_unit 59 = .ok (.ireturn, 1) := by decide +kernel
theorem dX12_unit_60 : decode cX12_unit 60 = .ok (.aload_n 0, 1) := by decide +kernel
theorem dX12_unit_61 : decode cX12_unit 61 = .ok (.iconst 0, 1) := by decide +kernel
theorem dX12_unit_62 : decode cX12_unit 62 = .ok (.iconst 0, 1) := by decide +kernel
theorem dX12_unit_63 : decode cX12_unit 63 = .ok (.invokevirtual 191, 3) := by decide +kernel
theorem dX12_unit_66 : decode cX12_unit 66 = .ok (.istore_n 2, 1) := by decide +kernel
theorem dX12_unit_67 : decode cX12_unit 67 = .ok (.aload_n 0, 1) := by decide +kernel
theorem dX12_unit_68 : decode cX12_unit 68 = .ok (.bipush 41, 2) := by decide +kernel
theorem dX12_unit_70 : decode cX12_unit 70 = .ok (.invokevirtual 168, 3) := by decide +kernel
theorem dX12_unit_73 : decode cX12_unit 73 = .ok (.ifCond .ne 5, 3) := by decide +kernel
theorem dX12_unit_76 : decode cX12_unit 76 = .ok (.iconst 0, 1) := by decide +kernel
theorem dX12_unit_77 : decode cX12_unit 77 = .ok (.ireturn, 1) := by decide +kernel
theorem dX12_unit_78 : decode cX12_unit 78 = .ok (.aload_n 0, 1) := by decide +kernel
theorem dX12_unit_79 : decode cX12_unit 79 = .ok (.dup, 1) := by decide +kernel
theorem dX12_unit_80 : decode cX12_unit 80 = .ok (.getfield 135, 3) := by decide +kernel
theorem dX12_unit_83 : decode cX12_unit 83 = .ok (.iconst 1, 1) := by decide +kernel
theorem dX12_unit_84 : decode cX12_unit 84 = .ok (.isub, 1) := by decide +kernel
theorem dX12_unit_85 : decode cX12_unit 85 = .ok (.putfield 135, 3) := by decide +kernel
theorem dX12_unit_88 : decode cX12_unit 88 = .ok (.iload_n 2, 1) := by decide +kernel
theorem dX12_unit_89 : decode cX12_unit 89 = .ok (.ireturn, 1) := by decide +kernel
theorem dX12_unit_90 : decode cX12_unit 90 = .ok (.aload_n 0, 1) := by decide +kernel
theorem dX12_unit_91 : decode cX12_unit 91 = .ok (.iconst 0, 1) := by decide +kernel
theorem dX12_unit_92 : decode cX12_unit 92 = .ok (.iconst 0, 1) := by decide +kernel
theorem dX12_unit_93 : decode cX12_unit 93 = .ok (.invokevirtual 195, 3) := by decide +kernel
theorem dX12_unit_96 : decode cX12_unit 96 = .ok (.ireturn, 1) := by decide +kernel
theorem dX12_part_0 : decode cX12_part 0 = .ok (.iload_n 1, 1) := by decide +kernel
theorem dX12_part_1 : decode cX12_part 1 = .ok (.ifCond .eq 12, 3) := by decide +kernel
theorem dX12_part_4 : decode cX12_part 4 = .ok (.aload_n 0, 1) := by decide +kernel
theorem dX12_part_5 : decode cX12_part 5 = .ok (.iconst 1, 1) := by decide +kernel
theorem dX12_part_6 : decode cX12_part 6 = .ok (.iload_n 2, 1) := by decide +kernel
theorem dX12_part_7 : decode cX12_part 7 = .ok (.invokevirtual 195, 3) := by decide +kernel
theorem dX12_part_10 : decode cX12_part 10 = .ok (.goto 7, 3) := by decide +kernel
theorem dX12_part_13 : decode cX12_part 13 = .ok (.aload_n 0, 1) := by decide +kernel
theorem dX12_part_14 : decode cX12_part 14 = .ok (.invokevirtual 188, 3) := by decide +kernel
theorem dX12_part_17 : decode cX12_part 17 = .ok (.istore_n 3, 1) := by decide +kernel
theorem dX12_part_18 : decode cX12_part 18 = .ok (.aload_n 0, 1) := by decide +kernel
theorem dX12_part_19 : decode cX12_part 19 = .ok (.getfield 132, 3) := by decide +kernel
theorem dX12_part_22 : decode cX12_part 22 = .ok (.iconst (-1), 1) := by decide +kernel
theorem dX12_part_23 : decode cX12_part 23 = .ok (.if_icmp .ne 46, 3) := by decide +kernel
theorem dX12_part_26 : decode cX12_part 26 = .ok (.aload_n 0, 1) := by decide +kernel
theorem dX12_part_27 : decode cX12_part 27 = .ok (.invokevirtual 142, 3) := by decide +kernel
theorem dX12_part_30 : decode cX12_part 30 = .ok (.bipush 38, 2) := by decide +kernel
theorem dX12_part_32 : decode cX12_part 32 = .ok (.if_icmp .ne 37, 3) := by decide +kernel
theorem dX12_part_35 : decode cX12_part 35 = .ok (.aload_n 0, 1) := by decide +kernel
theorem dX12_part_36 : decode cX12_part 36 = .ok (.dup, 1) := by decide +kernel
theorem dX12_part_37 : decode cX12_part 37 = .ok (.getfield 123, 3) := by decide +kernel
theorem dX12_part_40 : decode cX12_part 40 = .ok (.iconst 1, 1) := by decide +kernel
theorem dX12_part_41 : decode cX12_part 41 = .ok (.iadd, 1) := by decide +kernel
theorem dX12_part_42 : decode cX12_part 42 = .ok (.putfield 123, 3) := by decide +kernel
theorem dX12_part_45 : decode cX12_part 45 = .ok (.aload_n 0, 1) := by decide +kernel
theorem dX12_part_46 : decode cX12_part 46 = .ok (.invokevirtual 188, 3) := by decide +kernel
theorem dX12_part_49 : decode cX12_part 49 = .ok (.istore 4, 2) := by decide +kernel
theorem dX12_part_51 : decode cX12_part 51 = .ok (.iload_n 3, 1) := by decide +kernel
theorem dX12_part_52 : decode cX12_part 52 = .ok (.ifCond .eq 12, 3) := by decide +kernel
theorem dX12_part_55 : decode cX12_part 55 = .ok (.iload 4, 2) := by decide +kernel
theorem dX12_part_57 : decode cX12_part 57 = .ok (.ifCond .eq 7, 3) := by decide +kernel
theorem dX12_part_60 : decode cX12_part 60 = .ok (.iconst 1, 1) := by decide +kernel
theorem dX12_part_61 : decode cX12_part 61 = .ok (.goto 4, 3) := by decide +kernel
theorem dX12_part_64 : decode cX12_part 64 = .ok (.iconst 0, 1) := by decide +kernel
theorem dX12_part_65 : decode cX12_part 65 = .ok (.istore_n 3, 1) := by decide +kernel
theorem dX12_part_66 : decode cX12_part 66 = .ok (.goto (-48), 3) := by decide +kernel
theorem dX12_part_69 : decode cX12_part 69 = .ok (.iload_n 3, 1) := by decide +kernel
theorem dX12_part_70 : decode cX12_part 70 = .ok (.ireturn, 1) := by decide +kernel
theorem dX12_condition_0 : decode cX12_condition 0 = .ok (.aload_n 0, 1) := by decide +kernel
theorem dX12_condition_1 : decode cX12_condition 1 = .ok (.iload_n 1, 1) := by decide +kernel
theorem dX12_condition_2 : decode cX12_condition 2 = .ok (.iload_n 2, 1) := by decide +kernel
theorem dX12_condition_3 : decode cX12_condition 3 = .ok (.invokevirtual 198, 3) := by decide +kernel
theorem dX12_condition_6 : decode cX12_condition 6 = .ok (.istore_n 3, 1) := by decide +kernel
theorem dX12_condition_7 : decode cX12_condition 7 = .ok (.aload_n 0, 1) := by decide +kernel
theorem dX12_condition_8 : decode cX12_condition 8 = .ok (.getfield 132, 3) := by decide +kernel
theorem dX12_condition_11 : decode cX12_condition 11 = .ok (.iconst (-1), 1) := by decide +kernel
theorem dX12_condition_12 : decode cX12_condition 12 = .ok (.if_icmp .ne 48, 3) := by decide +kernel
theorem dX12_condition_15 : decode cX12_condition 15 = .ok (.aload_n 0, 1) := by decide +kernel
theorem dX12_condition_16 : decode cX12_condition 16 = .ok (.invokevirtual 142, 3) := by decide +kernel
theorem dX12_condition_19 : decode cX12_condition 19 = .ok (.bipush 124, 2) := by decide +kernel
theorem dX12_condition_21 : decode cX12_condition 21 = .ok (.if_icmp .ne 39, 3) := by decide +kernel
theorem dX12_condition_24 : decode cX12_condition 24 = .ok (.aload_n 0, 1) := by decide +kernel
theorem dX12_condition_25 : decode cX12_condition 25 = .ok (.dup, 1) := by decide +kernel
theorem dX12_condition_26 : decode cX12_condition 26 = .ok (.getfield 123, 3) := by decide +kernel
theorem dX12_condition_29 : decode cX12_condition 29 = .ok (.iconst 1, 1) := by decide +kernel
theorem dX12_condition_30 : decode cX12_condition 30 = .ok (.iadd, 1) := by decide +kernel
theorem dX12_condition_31 : decode cX12_condition 31 = .ok (.putfield 123, 3) := by decide +kernel
theorem dX12_condition_34 : decode cX12_condition 34 = .ok (.aload_n 0, 1) := by decide +kernel
theorem dX12_condition_35 : decode cX12_condition 35 = .ok (.iconst 0, 1) := by decide +kernel
theorem dX12_condition_36 : decode cX12_condition 36 = .ok (.iconst 0, 1) := by decide +kernel
theorem dX12_condition_37 : decode cX12_condition 37 = .ok (.invokevirtual 198, 3) := by decide +kernel
theorem dX12_condition_40 : decode cX12_condition 40 = .ok (.istore 4, 2) := by decide +kernel
theorem dX12_condition_42 : decode cX12_condition 42 = .ok (.iload_n 3, 1) := by decide +kernel
theorem dX12_condition_43 : decode cX12_condition 43 = .ok (.ifCond .ne 8, 3) := by decide +kernel
theorem dX12_condition_46 : decode cX12_condition 46 = .ok (.iload 4, 2) := by decide +kernel
theorem dX12_condition_48 : decode cX12_condition 48 = .ok (.ifCond .eq 7, 3) := by decide +kernel
theorem dX12_condition_51 : decode cX12_condition 51 = .ok (.iconst 1, 1) := by decide +kernel
theorem dX12_condition_52 : decode cX12_condition 52 = .ok (.goto 4, 3) := by decide +kernel
theorem dX12_condition_55 : decode cX12_condition 55 = .ok (.iconst 0, 1) := by decide +kernel
theorem dX12_condition_56 : decode cX12_condition 56 = .ok (.istore_n 3, 1) := by decide +kernel
theorem dX12_condition_57 : decode cX12_condition 57 = .ok (.goto (-50), 3) := by decide +kernel
theorem dX12_condition_60 : decode cX12_condition 60 = .ok (.iload_n 3, 1) := by decide +kernel
theorem dX12_condition_61 : decode cX12_condition 61 = .ok (.ireturn, 1) := by decide +kernel
theorem dX12_clause_0 : decode cX12_clause 0 = .ok (.aload_n 0, 1) := by decide +kernel
theorem dX12_clause_1 : decode cX12_clause 1 = .ok (.invokevirtual 142, 3) := by decide +kernel
theorem dX12_clause_4 : decode cX12_clause 4 = .ok (.istore_n 1, 1) := by decide +kernel
theorem dX12_clause_5 : decode cX12_clause 5 = .ok (.ldc 26, 2) := by decide +kernel
theorem dX12_clause_7 : decode cX12_clause 7 = .ok (.iload_n 1, 1) := by decide +kernel
theorem dX12_clause_8 : decode cX12_clause 8 = .ok (.invokestatic 158, 3) := by decide +kernel
theorem dX12_clause_11 : decode cX12_clause 11 = .ok (.ifCond .ne 9, 3) := by decide +kernel
theorem dX12_clause_14 : decode cX12_clause 14 = .ok (.aload_n 0, 1) := by decide +kernel
theorem dX12_clause_15 : decode cX12_clause 15 = .ok (.invokevirtual 138, 3) := by decide +kernel
theorem dX12_clause_18 : decode cX12_clause 18 = .ok (.pop, 1) := by decide +kernel
theorem dX12_clause_19 : decode cX12_clause 19 = .ok (.return_, 1) := by decide +kernel
theorem dX12_clause_20 : decode cX12_clause 20 = .ok (.aload_n 0, 1) := by decide +kernel
theorem dX12_clause_21 : decode cX12_clause 21 = .ok (.dup, 1) := by decide +kernel
theorem dX12_clause_22 : decode cX12_clause 22 = .ok (.getfield 123, 3) := by decide +kernel
theorem dX12_clause_25 : decode cX12_clause 25 = .ok (.iconst 1, 1) := by decide +kernel
theorem dX12_clause_26 : decode cX12_clause 26 = .ok (.iadd, 1) := by decide +kernel
theorem dX12_clause_27 : decode cX12_clause 27 = .ok (.putfield 123, 3) := by decide +kernel
theorem dX12_clause_30 : decode cX12_clause 30 = .ok (.aload_n 0, 1) := by decide +kernel
theorem dX12_clause_31 : decode cX12_clause 31 = .ok (.bipush 58, 2) := by decide +kernel
theorem dX12_clause_33 : decode cX12_clause 33 = .ok (.invokevirtual 168, 3) := by decide +kernel
theorem dX12_clause_36 : decode cX12_clause 36 = .ok (.ifCond .ne 4, 3) := by decide +kernel
theorem dX12_clause_39 : decode cX12_clause 39 = .ok (.return_, 1) := by decide +kernel
theorem dX12_clause_40 : decode cX12_clause 40 = .ok (.iconst 1, 1) := by decide +kernel
theorem dX12_clause_41 : decode cX12_clause 41 = .ok (.istore_n 2, 1) := by decide +kernel
theorem dX12_clause_42 : decode cX12_clause 42 = .ok (.iconst 0, 1) := by decide +kernel
theorem dX12_clause_43 : decode cX12_clause 43 = .ok (.istore_n 3, 1) := by decide +kernel
theorem dX12_clause_44 : decode cX12_clause 44 = .ok (.aload_n 0, 1) := by decide +kernel
theorem dX12_clause_45 : decode cX12_clause 45 = .ok (.invokevirtual 142, 3) := by decide +kernel
theorem dX12_clause_48 : decode cX12_clause 48 = .ok (.istore 4, 2) := by decide +kernel
theorem dX12_clause_50 : decode cX12_clause 50 = .ok (.iload 4, 2) := by decide +kernel
theorem dX12_clause_52 : decode cX12_clause 52 = .ok (.bipush 33, 2) := by decide +kernel
theorem dX12_clause_54 : decode cX12_clause 54 = .ok (.if_icmp .eq 10, 3) := by decide +kernel
theorem dX12_clause_57 : decode cX12_clause 57 = .ok (.iload 4, 2) := by decide +kernel
theorem dX12_clause_59 : decode cX12_clause 59 = .ok (.bipush 40, 2) := by decide +kernel
theorem dX12_clause_61 : decode cX12_clause 61 = .ok (.if_icmp .ne 28, 3) := by decide +kernel
theorem dX12_clause_64 : decode cX12_clause 64 = .ok (.aload_n 0, 1) := by decide +kernel
theorem dX12_clause_65 : decode cX12_clause 65 = .ok (.iconst 0, 1) := by decide +kernel
theorem dX12_clause_66 : decode cX12_clause 66 = .ok (.iconst 0, 1) := by decide +kernel
theorem dX12_clause_67 : decode cX12_clause 67 = .ok (.invokevirtual 191, 3) := by decide +kernel
theorem dX12_clause_70 : decode cX12_clause 70 = .ok (.istore_n 2, 1) := by decide +kernel
theorem dX12_clause_71 : decode cX12_clause 71 = .ok (.aload_n 0, 1) := by decide +kernel
theorem dX12_clause_72 : decode cX12_clause 72 = .ok (.bipush 63, 2) := by decide +kernel
theorem dX12_clause_74 : decode cX12_clause 74 = .ok (.invokevirtual 168, 3) := by decide +kernel
theorem dX12_clause_77 : decode cX12_clause 77 = .ok (.ifCond .ne 4, 3) := by decide +kernel
theorem dX12_clause_80 : decode cX12_clause 80 = .ok (.return_, 1) := by decide +kernel
theorem dX12_clause_81 : decode cX12_clause 81 = .ok (.aload_n 0, 1) := by decide +kernel
theorem dX12_clause_82 : decode cX12_clause 82 = .ok (.invokevirtual 165, 3) := by decide +kernel
theorem dX12_clause_85 : decode cX12_clause 85 = .ok (.istore_n 3, 1) := by decide +kernel
theorem dX12_clause_86 : decode cX12_clause 86 = .ok (.goto 48, 3) := by decide +kernel
theorem dX12_clause_89 : decode cX12_clause 89 = .ok (.aload_n 0, 1) := by decide +kernel
theorem dX12_clause_90 : decode cX12_clause 90 = .ok (.invokevirtual 165, 3) := by decide +kernel
theorem dX12_clause_93 : decode cX12_clause 93 = .ok (.istore_n 3, 1) := by decide +kernel
theorem dX12_clause_94 : decode cX12_clause 94 = .ok (.aload_n 0, 1) := by decide +kernel
theorem dX12_clause_95 : decode cX12_clause 95 = .ok (.getfield 132, 3) := by decide +kernel
theorem dX12_clause_98 : decode cX12_clause 98 = .ok (.iconst (-1), 1) := by decide +kernel
theorem dX12_clause_99 : decode cX12_clause 99 = .ok (.if_icmp .ne 35, 3) := by decide +kernel
theorem dX12_clause_102 : decode cX12_clause 102 = .ok (.aload_n 0, 1) := by decide +kernel
theorem dX12_clause_103 : decode cX12_clause 103 = .ok (.invokevirtual 142, 3) := by decide +kernel
theorem dX12_clause_106 : decode cX12_clause 106 = .ok (.invokestatic 185, 3) := by decide +kernel
theorem dX12_clause_109 : decode cX12_clause 109 = .ok (.ifCond .eq 25, 3) := by decide +kernel
theorem dX12_clause_112 : decode cX12_clause 112 = .ok (.aload_n 0, 1) := by decide +kernel
theorem dX12_clause_113 : decode cX12_clause 113 = .ok (.iconst 1, 1) := by decide +kernel
theorem dX12_clause_114 : decode cX12_clause 114 = .ok (.iload_n 3, 1) := by decide +kernel
theorem dX12_clause_115 : decode cX12_clause 115 = .ok (.invokevirtual 191, 3) := by decide +kernel
theorem dX12_clause_118 : decode cX12_clause 118 = .ok (.istore_n 2, 1) := by decide +kernel
theorem dX12_clause_119 : decode cX12_clause 119 = .ok (.aload_n 0, 1) := by decide +kernel
theorem dX12_clause_120 : decode cX12_clause 120 = .ok (.bipush 63, 2) := by decide +kernel
theorem dX12_clause_122 : decode cX12_clause 122 = .ok (.invokevirtual 168, 3) := by decide +kernel
theorem dX12_clause_125 : decode cX12_clause 125 = .ok (.ifCond .ne 4, 3) := by decide +kernel
theorem dX12_clause_128 : decode cX12_clause 128 = .ok (.return_, 1) := by decide +kernel
theorem dX12_clause_129 : decode cX12_clause 129 = .ok (.aload_n 0, 1) := by decide +kernel
theorem dX12_clause_130 : decode cX12_clause 130 = .ok (.invokevirtual 165, 3) := by decide +kernel
theorem dX12_clause_133 : decode cX12_clause 133 = .ok (.istore_n 3, 1) := by decide +kernel
theorem dX12_clause_134 : decode cX12_clause 134 = .ok (.aload_n 0, 1) := by decide +kernel
theorem dX12_clause_135 : decode cX12_clause 135 = .ok (.getfield 132, 3) := by decide +kernel
theorem dX12_clause_138 : decode cX12_clause 138 = .ok (.iconst (-1), 1) := by decide +kernel
theorem dX12_clause_139 : decode cX12_clause 139 = .ok (.if_icmp .ne 22, 3) := by decide +kernel
theorem dX12_clause_142 : decode cX12_clause 142 = .ok (.aload_n 0, 1) := by decide +kernel
theorem dX12_clause_143 : decode cX12_clause 143 = .ok (.getfield 201, 3) := by decide +kernel
theorem dX12_clause_146 : decode cX12_clause 146 = .ok (.ifCond .ne 15, 3) := by decide +kernel
theorem dX12_clause_149 : decode cX12_clause 149 = .ok (.iload_n 1, 1) := by decide +kernel
theorem dX12_clause_150 : decode cX12_clause 150 = .ok (.aload_n 0, 1) := by decide +kernel
theorem dX12_clause_151 : decode cX12_clause 151 = .ok (.getfield 205, 3) := by decide +kernel
theorem dX12_clause_154 : decode cX12_clause 154 = .ok (.if_icmp .ne 7, 3) := by decide +kernel
theorem dX12_clause_157 : decode cX12_clause 157 = .ok (.iload_n 2, 1) := by decide +kernel
theorem dX12_clause_158 : decode cX12_clause 158 = .ok (.ifCond .ne 4, 3) := by decide +kernel
theorem dX12_clause_161 : decode cX12_clause 161 = .ok (.return_, 1) := by decide +kernel
theorem dX12_clause_162 : decode cX12_clause 162 = .ok (.aload_n 0, 1) := by decide +kernel
theorem dX12_clause_163 : decode cX12_clause 163 = .ok (.iconst 1, 1) := by decide +kernel
theorem dX12_clause_164 : decode cX12_clause 164 = .ok (.putfield 201, 3) := by decide +kernel
theorem dX12_clause_167 : decode cX12_clause 167 = .ok (.aload_n 0, 1) := by decide +kernel
theorem dX12_clause_168 : decode cX12_clause 168 = .ok (.iload_n 3, 1) := by decide +kernel
theorem dX12_clause_169 : decode cX12_clause 169 = .ok (.putfield 208, 3) := by decide +kernel
theorem dX12_clause_172 : decode cX12_clause 172 = .ok (.return_, 1) := by decide +kernel
theorem dX12_starts_0 : decode cX12_starts 0 = .ok (.aload_n 0, 1) := by decide +kernel
theorem dX12_starts_1 : decode cX12_starts 1 = .ok (.aload_n 1, 1) := by decide +kernel
theorem dX12_starts_2 : decode cX12_starts 2 = .ok (.putfield 23, 3) := by decide +kernel
theorem dX12_starts_5 : decode cX12_starts 5 = .ok (.aload_n 0, 1) := by decide +kernel
theorem dX12_starts_6 : decode cX12_starts 6 = .ok (.iload_n 2, 1) := by decide +kernel
theorem dX12_starts_7 : decode cX12_starts 7 = .ok (.putfield 129, 3) := by decide +kernel
theorem dX12_starts_10 : decode cX12_starts 10 = .ok (.aload_n 0, 1) := by decide +kernel
theorem dX12_starts_11 : decode cX12_starts 11 = .ok (.iload_n 3, 1) := by decide +kernel
theorem dX12_starts_12 : decode cX12_starts 12 = .ok (.putfield 126, 3) := by decide +kernel
theorem dX12_starts_15 : decode cX12_starts 15 = .ok (.aload_n 0, 1) := by decide +kernel
theorem dX12_starts_16 : decode cX12_starts 16 = .ok (.iconst 0, 1) := by decide +kernel
theorem dX12_starts_17 : decode cX12_starts 17 = .ok (.putfield 123, 3) := by decide +kernel
theorem dX12_starts_20 : decode cX12_starts 20 = .ok (.aload_n 0, 1) := by decide +kernel
theorem dX12_starts_21 : decode cX12_starts 21 = .ok (.iconst (-1), 1) := by decide +kernel
theorem dX12_starts_22 : decode cX12_starts 22 = .ok (.putfield 132, 3) := by decide +kernel
theorem dX12_starts_25 : decode cX12_starts 25 = .ok (.return_, 1) := by decide +kernel
theorem dX12_goThrough_0 : decode cX12_goThrough 0 = .ok (.aload_n 0, 1) := by decide +kernel
theorem dX12_goThrough_1 : decode cX12_goThrough 1 = .ok (.aload_n 1, 1) := by decide +kernel
theorem dX12_goThrough_2 : decode cX12_goThrough 2 = .ok (.iload_n 2, 1) := by decide +kernel
theorem dX12_goThrough_3 : decode cX12_goThrough 3 = .ok (.iload_n 3, 1) := by decide +kernel
theorem dX12_goThrough_4 : decode cX12_goThrough 4 = .ok (.invokevirtual 211, 3) := by decide +kernel
theorem dX12_goThrough_7 : decode cX12_goThrough 7 = .ok (.aload_n 0, 1) := by decide +kernel
theorem dX12_goThrough_8 : decode cX12_goThrough 8 = .ok (.iload 4, 2) := by decide +kernel
theorem dX12_goThrough_10 : decode cX12_goThrough 10 = .ok (.putfield 205, 3) := by decide +kernel
theorem dX12_goThrough_13 : decode cX12_goThrough 13 = .ok (.aload_n 0, 1) := by decide +kernel
theorem dX12_goThrough_14 : decode cX12_goThrough 14 = .ok (.iconst 0, 1) := by decide +kernel
theorem dX12_goThrough_15 : decode cX12_goThrough 15 = .ok (.putfield 135, 3) := by decide +kernel
theorem dX12_goThrough_18 : decode cX12_goThrough 18 = .ok (.aload_n 0, 1) := by decide +kernel
theorem dX12_goThrough_19 : decode cX12_goThrough 19 = .ok (.iconst 0, 1) := by decide +kernel
theorem dX12_goThrough_20 : decode cX12_goThrough 20 = .ok (.putfield 201, 3) := by decide +kernel
theorem dX12_goThrough_23 : decode cX12_goThrough 23 = .ok (.aload_n 0, 1) := by decide +kernel
theorem dX12_goThrough_24 : decode cX12_goThrough 24 = .ok (.iconst 0, 1) := by decide +kernel
theorem dX12_goThrough_25 : decode cX12_goThrough 25 = .ok (.putfield 208, 3) := by decide +kernel
theorem dX12_goThrough_28 : decode cX12_goThrough 28 = .ok (.aload_n 0, 1) := by decide +kernel
theorem dX12_goThrough_29 : decode cX12_goThrough 29 = .ok (.invokevirtual 215, 3) := by decide +kernel
theorem dX12_goThrough_32 : decode cX12_goThrough 32 = .ok (.aload_n 0, 1) := by decide +kernel
theorem dX12_goThrough_33 : decode cX12_goThrough 33 = .ok (.getfield 132, 3) := by decide +kernel
theorem dX12_goThrough_36 : decode cX12_goThrough 36 = .ok (.iconst (-1), 1) := by decide +kernel
theorem dX12_goThrough_37 : decode cX12_goThrough 37 = .ok (.if_icmp .ne 29, 3) := by decide +kernel
theorem dX12_goThrough_40 : decode cX12_goThrough 40 = .ok (.aload_n 0, 1) := by decide +kernel
theorem dX12_goThrough_41 : decode cX12_goThrough 41 = .ok (.invokevirtual 142, 3) := by decide +kernel
theorem dX12_goThrough_44 : decode cX12_goThrough 44 = .ok (.bipush 59, 2) := by decide +kernel
theorem dX12_goThrough_46 : decode cX12_goThrough 46 = .ok (.if_icmp .ne 20, 3) := by decide +kernel
theorem dX12_goThrough_49 : decode cX12_goThrough 49 = .ok (.aload_n 0, 1) := by decide +kernel
theorem dX12_goThrough_50 : decode cX12_goThrough 50 = .ok (.dup, 1) := by decide +kernel
theorem dX12_goThrough_51 : decode cX12_goThrough 51 = .ok (.getfield 123, 3) := by decide +kernel
theorem dX12_goThrough_54 : decode cX12_goThrough 54 = .ok (.iconst 1, 1) := by decide +kernel
theorem dX12_goThrough_55 : decode cX12_goThrough 55 = .ok (.iadd, 1) := by decide +kernel
theorem dX12_goThrough_56 : decode cX12_goThrough 56 = .ok (.putfield 123, 3) := by decide +kernel
theorem dX12_goThrough_59 : decode cX12_goThrough 59 = .ok (.aload_n 0, 1) := by decide +kernel
theorem dX12_goThrough_60 : decode cX12_goThrough 60 = .ok (.invokevirtual 215, 3) := by decide +kernel
theorem dX12_goThrough_63 : decode cX12_goThrough 63 = .ok (.goto (-31), 3) := by decide +kernel
theorem dX12_goThrough_66 : decode cX12_goThrough 66 = .ok (.aload_n 0, 1) := by decide +kernel
theorem dX12_goThrough_67 : decode cX12_goThrough 67 = .ok (.getfield 132, 3) := by decide +kernel
theorem dX12_goThrough_70 : decode cX12_goThrough 70 = .ok (.iconst (-1), 1) := by decide +kernel
theorem dX12_goThrough_71 : decode cX12_goThrough 71 = .ok (.if_icmp .ne 16, 3) := by decide +kernel
theorem dX12_goThrough_74 : decode cX12_goThrough 74 = .ok (.aload_n 0, 1) := by decide +kernel
theorem dX12_goThrough_75 : decode cX12_goThrough 75 = .ok (.invokevirtual 142, 3) := by decide +kernel
theorem dX12_goThrough_78 : decode cX12_goThrough 78 = .ok (.iconst (-1), 1) := by decide +kernel
theorem dX12_goThrough_79 : decode cX12_goThrough 79 = .ok (.if_icmp .eq 8, 3) := by decide +kernel
theorem dX12_goThrough_82 : decode cX12_goThrough 82 = .ok (.aload_n 0, 1) := by decide +kernel
theorem dX12_goThrough_83 : decode cX12_goThrough 83 = .ok (.invokevirtual 138, 3) := by decide +kernel
theorem dX12_goThrough_86 : decode cX12_goThrough 86 = .ok (.pop, 1) := by decide +kernel
theorem dX12_goThrough_87 : decode cX12_goThrough 87 = .ok (.return_, 1) := by decide +kernel
theorem dX12_here_0 : decode cX12_here 0 = .ok (.aload_n 0, 1) := by decide +kernel
theorem dX12_here_1 : decode cX12_here 1 = .ok (.getfield 123, 3) := by decide +kernel
theorem dX12_here_4 : decode cX12_here 4 = .ok (.aload_n 0, 1) := by decide +kernel
theorem dX12_here_5 : decode cX12_here 5 = .ok (.getfield 126, 3) := by decide +kernel
theorem dX12_here_8 : decode cX12_here 8 = .ok (.if_icmp .ge 24, 3) := by decide +kernel
theorem dX12_here_11 : decode cX12_here 11 = .ok (.aload_n 0, 1) := by decide +kernel
theorem dX12_here_12 : decode cX12_here 12 = .ok (.getfield 23, 3) := by decide +kernel
theorem dX12_here_15 : decode cX12_here 15 = .ok (.aload_n 0, 1) := by decide +kernel
theorem dX12_here_16 : decode cX12_here 16 = .ok (.getfield 129, 3) := by decide +kernel
theorem dX12_here_19 : decode cX12_here 19 = .ok (.aload_n 0, 1) := by decide +kernel
theorem dX12_here_20 : decode cX12_here 20 = .ok (.getfield 123, 3) := by decide +kernel
theorem dX12_here_23 : decode cX12_here 23 = .ok (.iadd, 1) := by decide +kernel
theorem dX12_here_24 : decode cX12_here 24 = .ok (.baload, 1) := by decide +kernel
theorem dX12_here_25 : decode cX12_here 25 = .ok (.sipush 255, 3) := by decide +kernel
theorem dX12_here_28 : decode cX12_here 28 = .ok (.iand, 1) := by decide +kernel
theorem dX12_here_29 : decode cX12_here 29 = .ok (.goto 4, 3) := by decide +kernel
theorem dX12_here_32 : decode cX12_here 32 = .ok (.iconst (-1), 1) := by decide +kernel
theorem dX12_here_33 : decode cX12_here 33 = .ok (.ireturn, 1) := by decide +kernel
theorem dX12_spotOf_0 : decode cX12_spotOf 0 = .ok (.iconst 0, 1) := by decide +kernel
theorem dX12_spotOf_1 : decode cX12_spotOf 1 = .ok (.istore_n 2, 1) := by decide +kernel
theorem dX12_spotOf_2 : decode cX12_spotOf 2 = .ok (.iload_n 2, 1) := by decide +kernel
theorem dX12_spotOf_3 : decode cX12_spotOf 3 = .ok (.aload_n 0, 1) := by decide +kernel
theorem dX12_spotOf_4 : decode cX12_spotOf 4 = .ok (.invokevirtual 103, 3) := by decide +kernel
theorem dX12_spotOf_7 : decode cX12_spotOf 7 = .ok (.if_icmp .ge 20, 3) := by decide +kernel
theorem dX12_spotOf_10 : decode cX12_spotOf 10 = .ok (.aload_n 0, 1) := by decide +kernel
theorem dX12_spotOf_11 : decode cX12_spotOf 11 = .ok (.iload_n 2, 1) := by decide +kernel
theorem dX12_spotOf_12 : decode cX12_spotOf 12 = .ok (.invokevirtual 109, 3) := by decide +kernel
theorem dX12_spotOf_15 : decode cX12_spotOf 15 = .ok (.iload_n 1, 1) := by decide +kernel
theorem dX12_spotOf_16 : decode cX12_spotOf 16 = .ok (.if_icmp .ne 5, 3) := by decide +kernel
theorem dX12_spotOf_19 : decode cX12_spotOf 19 = .ok (.iload_n 2, 1) := by decide +kernel
theorem dX12_spotOf_20 : decode cX12_spotOf 20 = .ok (.ireturn, 1) := by decide +kernel
theorem dX12_spotOf_21 : decode cX12_spotOf 21 = .ok (.iinc 2 1, 3) := by decide +kernel
theorem dX12_spotOf_24 : decode cX12_spotOf 24 = .ok (.goto (-22), 3) := by decide +kernel
theorem dX12_spotOf_27 : decode cX12_spotOf 27 = .ok (.iconst (-1), 1) := by decide +kernel
theorem dX12_spotOf_28 : decode cX12_spotOf 28 = .ok (.ireturn, 1) := by decide +kernel
theorem dX12_number_0 : decode cX12_number 0 = .ok (.aload_n 0, 1) := by decide +kernel
theorem dX12_number_1 : decode cX12_number 1 = .ok (.invokevirtual 142, 3) := by decide +kernel
theorem dX12_number_4 : decode cX12_number 4 = .ok (.istore_n 3, 1) := by decide +kernel
theorem dX12_number_5 : decode cX12_number 5 = .ok (.aload_n 0, 1) := by decide +kernel
theorem dX12_number_6 : decode cX12_number 6 = .ok (.invokevirtual 172, 3) := by decide +kernel
theorem dX12_number_9 : decode cX12_number 9 = .ok (.ifCond .ne 10, 3) := by decide +kernel
theorem dX12_number_12 : decode cX12_number 12 = .ok (.aload_n 0, 1) := by decide +kernel
theorem dX12_number_13 : decode cX12_number 13 = .ok (.invokevirtual 138, 3) := by decide +kernel
theorem dX12_number_16 : decode cX12_number 16 = .ok (.pop, 1) := by decide +kernel
theorem dX12_number_17 : decode cX12_number 17 = .ok (.iconst 0, 1) := by decide +kernel
theorem dX12_number_18 : decode cX12_number 18 = .ok (.ireturn, 1) := by decide +kernel
theorem dX12_number_19 : decode cX12_number 19 = .ok (.iload_n 3, 1) := by decide +kernel
theorem dX12_number_20 : decode cX12_number 20 = .ok (.bipush 48, 2) := by decide +kernel
theorem dX12_number_22 : decode cX12_number 22 = .ok (.isub, 1) := by decide +kernel
theorem dX12_number_23 : decode cX12_number 23 = .ok (.istore 4, 2) := by decide +kernel
theorem dX12_number_25 : decode cX12_number 25 = .ok (.aload_n 0, 1) := by decide +kernel
theorem dX12_number_26 : decode cX12_number 26 = .ok (.dup, 1) := by decide +kernel
theorem dX12_number_27 : decode cX12_number 27 = .ok (.getfield 123, 3) := by decide +kernel
theorem dX12_number_30 : decode cX12_number 30 = .ok (.iconst 1, 1) := by decide +kernel
theorem dX12_number_31 : decode cX12_number 31 = .ok (.iadd, 1) := by decide +kernel
theorem dX12_number_32 : decode cX12_number 32 = .ok (.putfield 123, 3) := by decide +kernel
theorem dX12_number_35 : decode cX12_number 35 = .ok (.aload_n 0, 1) := by decide +kernel
theorem dX12_number_36 : decode cX12_number 36 = .ok (.invokevirtual 172, 3) := by decide +kernel
theorem dX12_number_39 : decode cX12_number 39 = .ok (.ifCond .eq 28, 3) := by decide +kernel
theorem dX12_number_42 : decode cX12_number 42 = .ok (.bipush 10, 2) := by decide +kernel
theorem dX12_number_44 : decode cX12_number 44 = .ok (.iload 4, 2) := by decide +kernel
theorem dX12_number_46 : decode cX12_number 46 = .ok (.imul, 1) := by decide +kernel
theorem dX12_number_47 : decode cX12_number 47 = .ok (.aload_n 0, 1) := by decide +kernel
theorem dX12_number_48 : decode cX12_number 48 = .ok (.invokevirtual 218, 3) := by decide +kernel
theorem dX12_number_51 : decode cX12_number 51 = .ok (.iadd, 1) := by decide +kernel
theorem dX12_number_52 : decode cX12_number 52 = .ok (.bipush 48, 2) := by decide +kernel
theorem dX12_number_54 : decode cX12_number 54 = .ok (.isub, 1) := by decide +kernel
theorem dX12_number_55 : decode cX12_number 55 = .ok (.istore 4, 2) := by decide +kernel
theorem dX12_number_57 : decode cX12_number 57 = .ok (.aload_n 0, 1) := by decide +kernel
theorem dX12_number_58 : decode cX12_number 58 = .ok (.dup, 1) := by decide +kernel
theorem dX12_number_59 : decode cX12_number 59 = .ok (.getfield 123, 3) := by decide +kernel
theorem dX12_number_62 : decode cX12_number 62 = .ok (.iconst 1, 1) := by decide +kernel
theorem dX12_number_63 : decode cX12_number 63 = .ok (.iadd, 1) := by decide +kernel
theorem dX12_number_64 : decode cX12_number 64 = .ok (.putfield 123, 3) := by decide +kernel
theorem dX12_number_67 : decode cX12_number 67 = .ok (.aload_n 0, 1) := by decide +kernel
theorem dX12_number_68 : decode cX12_number 68 = .ok (.invokevirtual 172, 3) := by decide +kernel
theorem dX12_number_71 : decode cX12_number 71 = .ok (.ifCond .eq 10, 3) := by decide +kernel
theorem dX12_number_74 : decode cX12_number 74 = .ok (.aload_n 0, 1) := by decide +kernel
theorem dX12_number_75 : decode cX12_number 75 = .ok (.invokevirtual 138, 3) := by decide +kernel
theorem dX12_number_78 : decode cX12_number 78 = .ok (.pop, 1) := by decide +kernel
theorem dX12_number_79 : decode cX12_number 79 = .ok (.iconst 0, 1) := by decide +kernel
theorem dX12_number_80 : decode cX12_number 80 = .ok (.ireturn, 1) := by decide +kernel
theorem dX12_number_81 : decode cX12_number 81 = .ok (.iload 4, 2) := by decide +kernel
theorem dX12_number_83 : decode cX12_number 83 = .ok (.i2l, 1) := by decide +kernel
theorem dX12_number_84 : decode cX12_number 84 = .ok (.iload_n 1, 1) := by decide +kernel
theorem dX12_number_85 : decode cX12_number 85 = .ok (.i2l, 1) := by decide +kernel
theorem dX12_number_86 : decode cX12_number 86 = .ok (.iload_n 2, 1) := by decide +kernel
theorem dX12_number_87 : decode cX12_number 87 = .ok (.i2l, 1) := by decide +kernel
theorem dX12_number_88 : decode cX12_number 88 = .ok (.invokestatic 221, 3) := by decide +kernel
theorem dX12_number_91 : decode cX12_number 91 = .ok (.ifCond .ne 18, 3) := by decide +kernel
theorem dX12_number_94 : decode cX12_number 94 = .ok (.aload_n 0, 1) := by decide +kernel
theorem dX12_number_95 : decode cX12_number 95 = .ok (.dup, 1) := by decide +kernel
theorem dX12_number_96 : decode cX12_number 96 = .ok (.getfield 123, 3) := by decide +kernel
theorem dX12_number_99 : decode cX12_number 99 = .ok (.iconst 1, 1) := by decide +kernel
theorem dX12_number_100 : decode cX12_number 100 = .ok (.isub, 1) := by decide +kernel
theorem dX12_number_101 : decode cX12_number 101 = .ok (.putfield 123, 3) := by decide +kernel
theorem dX12_number_104 : decode cX12_number 104 = .ok (.aload_n 0, 1) := by decide +kernel
theorem dX12_number_105 : decode cX12_number 105 = .ok (.invokevirtual 138, 3) := by decide +kernel
theorem dX12_number_108 : decode cX12_number 108 = .ok (.pop, 1) := by decide +kernel
theorem dX12_number_109 : decode cX12_number 109 = .ok (.iload 4, 2) := by decide +kernel
theorem dX12_number_111 : decode cX12_number 111 = .ok (.ireturn, 1) := by decide +kernel
theorem dX12_mostOf_0 : decode cX12_mostOf 0 = .ok (.iload_n 0, 1) := by decide +kernel
theorem dX12_mostOf_1 : decode cX12_mostOf 1 = .ok (.bipush 115, 2) := by decide +kernel
theorem dX12_mostOf_3 : decode cX12_mostOf 3 = .ok (.if_icmp .ne 13, 3) := by decide +kernel
theorem dX12_mostOf_6 : decode cX12_mostOf 6 = .ok (.iload_n 1, 1) := by decide +kernel
theorem dX12_mostOf_7 : decode cX12_mostOf 7 = .ok (.iconst 1, 1) := by decide +kernel
theorem dX12_mostOf_8 : decode cX12_mostOf 8 = .ok (.if_icmp .ne 8, 3) := by decide +kernel
theorem dX12_mostOf_11 : decode cX12_mostOf 11 = .ok (.bipush 30, 2) := by decide +kernel
theorem dX12_mostOf_13 : decode cX12_mostOf 13 = .ok (.goto 21, 3) := by decide +kernel
theorem dX12_mostOf_16 : decode cX12_mostOf 16 = .ok (.iload_n 0, 1) := by decide +kernel
theorem dX12_mostOf_17 : decode cX12_mostOf 17 = .ok (.bipush 112, 2) := by decide +kernel
theorem dX12_mostOf_19 : decode cX12_mostOf 19 = .ok (.if_icmp .ne 13, 3) := by decide +kernel
theorem dX12_mostOf_22 : decode cX12_mostOf 22 = .ok (.iload_n 1, 1) := by decide +kernel
theorem dX12_mostOf_23 : decode cX12_mostOf 23 = .ok (.iconst 4, 1) := by decide +kernel
theorem dX12_mostOf_24 : decode cX12_mostOf 24 = .ok (.if_icmp .ne 8, 3) := by decide +kernel
theorem dX12_mostOf_27 : decode cX12_mostOf 27 = .ok (.bipush 8, 2) := by decide +kernel
theorem dX12_mostOf_29 : decode cX12_mostOf 29 = .ok (.goto 5, 3) := by decide +kernel
theorem dX12_mostOf_32 : decode cX12_mostOf 32 = .ok (.bipush 9, 2) := by decide +kernel
theorem dX12_mostOf_34 : decode cX12_mostOf 34 = .ok (.ireturn, 1) := by decide +kernel
theorem dX12_leastOf_0 : decode cX12_leastOf 0 = .ok (.iload_n 0, 1) := by decide +kernel
theorem dX12_leastOf_1 : decode cX12_leastOf 1 = .ok (.bipush 115, 2) := by decide +kernel
theorem dX12_leastOf_3 : decode cX12_leastOf 3 = .ok (.if_icmp .ne 12, 3) := by decide +kernel
theorem dX12_leastOf_6 : decode cX12_leastOf 6 = .ok (.iload_n 1, 1) := by decide +kernel
theorem dX12_leastOf_7 : decode cX12_leastOf 7 = .ok (.iconst 2, 1) := by decide +kernel
theorem dX12_leastOf_8 : decode cX12_leastOf 8 = .ok (.if_icmp .ge 7, 3) := by decide +kernel
theorem dX12_leastOf_11 : decode cX12_leastOf 11 = .ok (.iconst 1, 1) := by decide +kernel
theorem dX12_leastOf_12 : decode cX12_leastOf 12 = .ok (.goto 4, 3) := by decide +kernel
theorem dX12_leastOf_15 : decode cX12_leastOf 15 = .ok (.iconst 0, 1) := by decide +kernel
theorem dX12_leastOf_16 : decode cX12_leastOf 16 = .ok (.ireturn, 1) := by decide +kernel
theorem dX12_usual_0 : decode cX12_usual 0 = .ok (.iload_n 0, 1) := by decide +kernel
theorem dX12_usual_1 : decode cX12_usual 1 = .ok (.bipush 115, 2) := by decide +kernel
theorem dX12_usual_3 : decode cX12_usual 3 = .ok (.if_icmp .ne 23, 3) := by decide +kernel
theorem dX12_usual_6 : decode cX12_usual 6 = .ok (.iload_n 1, 1) := by decide +kernel
theorem dX12_usual_7 : decode cX12_usual 7 = .ok (.ifCond .ne 8, 3) := by decide +kernel
theorem dX12_usual_10 : decode cX12_usual 10 = .ok (.bipush 6, 2) := by decide +kernel
theorem dX12_usual_12 : decode cX12_usual 12 = .ok (.goto 13, 3) := by decide +kernel
theorem dX12_usual_15 : decode cX12_usual 15 = .ok (.iload_n 1, 1) := by decide +kernel
theorem dX12_usual_16 : decode cX12_usual 16 = .ok (.iconst 1, 1) := by decide +kernel
theorem dX12_usual_17 : decode cX12_usual 17 = .ok (.if_icmp .ne 7, 3) := by decide +kernel
theorem dX12_usual_20 : decode cX12_usual 20 = .ok (.iconst 4, 1) := by decide +kernel
theorem dX12_usual_21 : decode cX12_usual 21 = .ok (.goto 4, 3) := by decide +kernel
theorem dX12_usual_24 : decode cX12_usual 24 = .ok (.iconst 3, 1) := by decide +kernel
theorem dX12_usual_25 : decode cX12_usual 25 = .ok (.ireturn, 1) := by decide +kernel
theorem dX12_usual_26 : decode cX12_usual 26 = .ok (.iload_n 1, 1) := by decide +kernel
theorem dX12_usual_27 : decode cX12_usual 27 = .ok (.iconst 1, 1) := by decide +kernel
theorem dX12_usual_28 : decode cX12_usual 28 = .ok (.if_icmp .ne 7, 3) := by decide +kernel
theorem dX12_usual_31 : decode cX12_usual 31 = .ok (.iconst 5, 1) := by decide +kernel
theorem dX12_usual_32 : decode cX12_usual 32 = .ok (.goto 23, 3) := by decide +kernel
theorem dX12_usual_35 : decode cX12_usual 35 = .ok (.iload_n 1, 1) := by decide +kernel
theorem dX12_usual_36 : decode cX12_usual 36 = .ok (.iconst 2, 1) := by decide +kernel
theorem dX12_usual_37 : decode cX12_usual 37 = .ok (.if_icmp .ne 7, 3) := by decide +kernel
theorem dX12_usual_40 : decode cX12_usual 40 = .ok (.iconst 1, 1) := by decide +kernel
theorem dX12_usual_41 : decode cX12_usual 41 = .ok (.goto 14, 3) := by decide +kernel
theorem dX12_usual_44 : decode cX12_usual 44 = .ok (.iload_n 1, 1) := by decide +kernel
theorem dX12_usual_45 : decode cX12_usual 45 = .ok (.iconst 4, 1) := by decide +kernel
theorem dX12_usual_46 : decode cX12_usual 46 = .ok (.if_icmp .ne 8, 3) := by decide +kernel
theorem dX12_usual_49 : decode cX12_usual 49 = .ok (.bipush 8, 2) := by decide +kernel
theorem dX12_usual_51 : decode cX12_usual 51 = .ok (.goto 4, 3) := by decide +kernel
theorem dX12_usual_54 : decode cX12_usual 54 = .ok (.iconst 0, 1) := by decide +kernel
theorem dX12_usual_55 : decode cX12_usual 55 = .ok (.ireturn, 1) := by decide +kernel
theorem dX12_readItems_0 : decode cX12_readItems 0 = .ok (.iconst 0, 1) := by decide +kernel
theorem dX12_readItems_1 : decode cX12_readItems 1 = .ok (.istore 5, 2) := by decide +kernel
theorem dX12_readItems_3 : decode cX12_readItems 3 = .ok (.iload 5, 2) := by decide +kernel
theorem dX12_readItems_5 : decode cX12_readItems 5 = .ok (.aload 4, 2) := by decide +kernel
theorem dX12_readItems_7 : decode cX12_readItems 7 = .ok (.invokevirtual 103, 3) := by decide +kernel
theorem dX12_readItems_10 : decode cX12_readItems 10 = .ok (.if_icmp .ge 21, 3) := by decide +kernel
theorem dX12_readItems_13 : decode cX12_readItems 13 = .ok (.aload_n 2, 1) := by decide +kernel
theorem dX12_readItems_14 : decode cX12_readItems 14 = .ok (.iload_n 3, 1) := by decide +kernel
theorem dX12_readItems_15 : decode cX12_readItems 15 = .ok (.iload 5, 2) := by decide +kernel
theorem dX12_readItems_17 : decode cX12_readItems 17 = .ok (.iadd, 1) := by decide +kernel
theorem dX12_readItems_18 : decode cX12_readItems 18 = .ok (.iload_n 1, 1) := by decide +kernel
theorem dX12_readItems_19 : decode cX12_readItems 19 = .ok (.iload 5, 2) := by decide +kernel
theorem dX12_readItems_21 : decode cX12_readItems 21 = .ok (.invokestatic 225, 3) := by decide +kernel
theorem dX12_readItems_24 : decode cX12_readItems 24 = .ok (.iastore, 1) := by decide +kernel
theorem dX12_readItems_25 : decode cX12_readItems 25 = .ok (.iinc 5 1, 3) := by decide +kernel
theorem dX12_readItems_28 : decode cX12_readItems 28 = .ok (.goto (-25), 3) := by decide +kernel
theorem dX12_readItems_31 : decode cX12_readItems 31 = .ok (.iconst 0, 1) := by decide +kernel
theorem dX12_readItems_32 : decode cX12_readItems 32 = .ok (.istore 5, 2) := by decide +kernel
theorem dX12_readItems_34 : decode cX12_readItems 34 = .ok (.aload 4, 2) := by decide +kernel
theorem dX12_readItems_36 : decode cX12_readItems 36 = .ok (.aload_n 0, 1) := by decide +kernel
theorem dX12_readItems_37 : decode cX12_readItems 37 = .ok (.invokevirtual 142, 3) := by decide +kernel
theorem dX12_readItems_40 : decode cX12_readItems 40 = .ok (.invokestatic 229, 3) := by decide +kernel
theorem dX12_readItems_43 : decode cX12_readItems 43 = .ok (.istore 6, 2) := by decide +kernel
theorem dX12_readItems_45 : decode cX12_readItems 45 = .ok (.iload 6, 2) := by decide +kernel
theorem dX12_readItems_47 : decode cX12_readItems 47 = .ok (.iconst (-1), 1) := by decide +kernel
theorem dX12_readItems_48 : decode cX12_readItems 48 = .ok (.if_icmp .eq 90, 3) := by decide +kernel
theorem dX12_readItems_51 : decode cX12_readItems 51 = .ok (.aload_n 0, 1) := by decide +kernel
theorem dX12_readItems_52 : decode cX12_readItems 52 = .ok (.getfield 132, 3) := by decide +kernel
theorem dX12_readItems_55 : decode cX12_readItems 55 = .ok (.iconst (-1), 1) := by decide +kernel
theorem dX12_readItems_56 : decode cX12_readItems 56 = .ok (.if_icmp .ne 82, 3) := by decide +kernel
theorem dX12_readItems_59 : decode cX12_readItems 59 = .ok (.iload 5, 2) := by decide +kernel
theorem dX12_readItems_61 : decode cX12_readItems 61 = .ok (.iload 6, 2) := by decide +kernel
theorem dX12_readItems_63 : decode cX12_readItems 63 = .ok (.invokestatic 233, 3) := by decide +kernel
theorem dX12_readItems_66 : decode cX12_readItems 66 = .ok (.ifCond .eq 9, 3) := by decide +kernel
theorem dX12_readItems_69 : decode cX12_readItems 69 = .ok (.aload_n 0, 1) := by decide +kernel
theorem dX12_readItems_70 : decode cX12_readItems 70 = .ok (.invokevirtual 138, 3) := by decide +kernel
theorem dX12_readItems_73 : decode cX12_readItems 73 = .ok (.pop, 1) := by decide +kernel
theorem dX12_readItems_74 : decode cX12_readItems 74 = .ok (.return_, 1) := by decide +kernel
theorem dX12_readItems_75 : decode cX12_readItems 75 = .ok (.iload 5, 2) := by decide +kernel
theorem dX12_readItems_77 : decode cX12_readItems 77 = .ok (.iconst 1, 1) := by decide +kernel
theorem dX12_readItems_78 : decode cX12_readItems 78 = .ok (.iload 6, 2) := by decide +kernel
theorem dX12_readItems_80 : decode cX12_readItems 80 = .ok (.ishl, 1) := by decide +kernel
theorem dX12_readItems_81 : decode cX12_readItems 81 = .ok (.ior, 1) := by decide +kernel
theorem dX12_readItems_82 : decode cX12_readItems 82 = .ok (.istore 5, 2) := by decide +kernel
theorem dX12_readItems_84 : decode cX12_readItems 84 = .ok (.aload_n 0, 1) := by decide +kernel
theorem dX12_readItems_85 : decode cX12_readItems 85 = .ok (.dup, 1) := by decide +kernel
theorem dX12_readItems_86 : decode cX12_readItems 86 = .ok (.getfield 123, 3) := by decide +kernel
theorem dX12_readItems_89 : decode cX12_readItems 89 = .ok (.iconst 1, 1) := by decide +kernel
theorem dX12_readItems_90 : decode cX12_readItems 90 = .ok (.iadd, 1) := by decide +kernel
theorem dX12_readItems_91 : decode cX12_readItems 91 = .ok (.putfield 123, 3) := by decide +kernel
theorem dX12_readItems_94 : decode cX12_readItems 94 = .ok (.aload_n 2, 1) := by decide +kernel
theorem dX12_readItems_95 : decode cX12_readItems 95 = .ok (.iload_n 3, 1) := by decide +kernel
theorem dX12_readItems_96 : decode cX12_readItems 96 = .ok (.iload 6, 2) := by decide +kernel
theorem dX12_readItems_98 : decode cX12_readItems 98 = .ok (.iadd, 1) := by decide +kernel
theorem dX12_readItems_99 : decode cX12_readItems 99 = .ok (.aload_n 0, 1) := by decide +kernel
theorem dX12_readItems_100 : decode cX12_readItems 100 = .ok (.iload_n 1, 1) := by decide +kernel
theorem dX12_readItems_101 : decode cX12_readItems 101 = .ok (.iload 6, 2) := by decide +kernel
theorem dX12_readItems_103 : decode cX12_readItems 103 = .ok (.invokestatic 237, 3) := by decide +kernel
theorem dX12_readItems_106 : decode cX12_readItems 106 = .ok (.iload_n 1, 1) := by decide +kernel
theorem dX12_readItems_107 : decode cX12_readItems 107 = .ok (.iload 6, 2) := by decide +kernel
theorem dX12_readItems_109 : decode cX12_readItems 109 = .ok (.invokestatic 240, 3) := by decide +kernel
theorem dX12_readItems_112 : decode cX12_readItems 112 = .ok (.invokevirtual 243, 3) := by decide +kernel
theorem dX12_readItems_115 : decode cX12_readItems 115 = .ok (.iastore, 1) := by decide +kernel
theorem dX12_readItems_116 : decode cX12_readItems 116 = .ok (.aload_n 0, 1) := by decide +kernel
theorem dX12_readItems_117 : decode cX12_readItems 117 = .ok (.getfield 132, 3) := by decide +kernel
theorem dX12_readItems_120 : decode cX12_readItems 120 = .ok (.iconst (-1), 1) := by decide +kernel
theorem dX12_readItems_121 : decode cX12_readItems 121 = .ok (.if_icmp .ne (-76), 3) := by decide +kernel
theorem dX12_readItems_124 : decode cX12_readItems 124 = .ok (.aload 4, 2) := by decide +kernel
theorem dX12_readItems_126 : decode cX12_readItems 126 = .ok (.aload_n 0, 1) := by decide +kernel
theorem dX12_readItems_127 : decode cX12_readItems 127 = .ok (.invokevirtual 142, 3) := by decide +kernel
theorem dX12_readItems_130 : decode cX12_readItems 130 = .ok (.invokestatic 229, 3) := by decide +kernel
theorem dX12_readItems_133 : decode cX12_readItems 133 = .ok (.istore 6, 2) := by decide +kernel
theorem dX12_readItems_135 : decode cX12_readItems 135 = .ok (.goto (-90), 3) := by decide +kernel
theorem dX12_readItems_138 : decode cX12_readItems 138 = .ok (.return_, 1) := by decide +kernel
theorem dX12_readClause_0 : decode cX12_readClause 0 = .ok (.aload_n 0, 1) := by decide +kernel
theorem dX12_readClause_1 : decode cX12_readClause 1 = .ok (.invokevirtual 142, 3) := by decide +kernel
theorem dX12_readClause_4 : decode cX12_readClause 4 = .ok (.istore_n 1, 1) := by decide +kernel
theorem dX12_readClause_5 : decode cX12_readClause 5 = .ok (.iload_n 1, 1) := by decide +kernel
theorem dX12_readClause_6 : decode cX12_readClause 6 = .ok (.bipush 115, 2) := by decide +kernel
theorem dX12_readClause_8 : decode cX12_readClause 8 = .ok (.if_icmp .ne 10, 3) := by decide +kernel
theorem dX12_readClause_11 : decode cX12_readClause 11 = .ok (.aload_n 0, 1) := by decide +kernel
theorem dX12_readClause_12 : decode cX12_readClause 12 = .ok (.getfield 246, 3) := by decide +kernel
theorem dX12_readClause_15 : decode cX12_readClause 15 = .ok (.ifCond .eq 18, 3) := by decide +kernel
theorem dX12_readClause_18 : decode cX12_readClause 18 = .ok (.iload_n 1, 1) := by decide +kernel
theorem dX12_readClause_19 : decode cX12_readClause 19 = .ok (.bipush 112, 2) := by decide +kernel
theorem dX12_readClause_21 : decode cX12_readClause 21 = .ok (.if_icmp .ne 16, 3) := by decide +kernel
theorem dX12_readClause_24 : decode cX12_readClause 24 = .ok (.aload_n 0, 1) := by decide +kernel
theorem dX12_readClause_25 : decode cX12_readClause 25 = .ok (.getfield 249, 3) := by decide +kernel
theorem dX12_readClause_28 : decode cX12_readClause 28 = .ok (.bipush 8, 2) := by decide +kernel
theorem dX12_readClause_30 : decode cX12_readClause 30 = .ok (.if_icmp .ge 7, 3) := by decide +kernel
theorem dX12_readClause_33 : decode cX12_readClause 33 = .ok (.iconst 1, 1) := by decide +kernel
theorem dX12_readClause_34 : decode cX12_readClause 34 = .ok (.goto 4, 3) := by decide +kernel
theorem dX12_readClause_37 : decode cX12_readClause 37 = .ok (.iconst 0, 1) := by decide +kernel
theorem dX12_readClause_38 : decode cX12_readClause 38 = .ok (.istore_n 2, 1) := by decide +kernel
theorem dX12_readClause_39 : decode cX12_readClause 39 = .ok (.iload_n 2, 1) := by decide +kernel
theorem dX12_readClause_40 : decode cX12_readClause 40 = .ok (.ifCond .ne 9, 3) := by decide +kernel
theorem dX12_readClause_43 : decode cX12_readClause 43 = .ok (.aload_n 0, 1) := by decide +kernel
theorem dX12_readClause_44 : decode cX12_readClause 44 = .ok (.invokevirtual 138, 3) := by decide +kernel
theorem dX12_readClause_47 : decode cX12_readClause 47 = .ok (.pop, 1) := by decide +kernel
theorem dX12_readClause_48 : decode cX12_readClause 48 = .ok (.return_, 1) := by decide +kernel
theorem dX12_readClause_49 : decode cX12_readClause 49 = .ok (.aload_n 0, 1) := by decide +kernel
theorem dX12_readClause_50 : decode cX12_readClause 50 = .ok (.dup, 1) := by decide +kernel
theorem dX12_readClause_51 : decode cX12_readClause 51 = .ok (.getfield 123, 3) := by decide +kernel
theorem dX12_readClause_54 : decode cX12_readClause 54 = .ok (.iconst 1, 1) := by decide +kernel
theorem dX12_readClause_55 : decode cX12_readClause 55 = .ok (.iadd, 1) := by decide +kernel
theorem dX12_readClause_56 : decode cX12_readClause 56 = .ok (.putfield 123, 3) := by decide +kernel
theorem dX12_readClause_59 : decode cX12_readClause 59 = .ok (.iload_n 1, 1) := by decide +kernel
theorem dX12_readClause_60 : decode cX12_readClause 60 = .ok (.bipush 115, 2) := by decide +kernel
theorem dX12_readClause_62 : decode cX12_readClause 62 = .ok (.if_icmp .ne 23, 3) := by decide +kernel
theorem dX12_readClause_65 : decode cX12_readClause 65 = .ok (.aload_n 0, 1) := by decide +kernel
theorem dX12_readClause_66 : decode cX12_readClause 66 = .ok (.iconst 1, 1) := by decide +kernel
theorem dX12_readClause_67 : decode cX12_readClause 67 = .ok (.putfield 246, 3) := by decide +kernel
theorem dX12_readClause_70 : decode cX12_readClause 70 = .ok (.aload_n 0, 1) := by decide +kernel
theorem dX12_readClause_71 : decode cX12_readClause 71 = .ok (.iload_n 1, 1) := by decide +kernel
theorem dX12_readClause_72 : decode cX12_readClause 72 = .ok (.aload_n 0, 1) := by decide +kernel
theorem dX12_readClause_73 : decode cX12_readClause 73 = .ok (.getfield 40, 3) := by decide +kernel
theorem dX12_readClause_76 : decode cX12_readClause 76 = .ok (.iconst 0, 1) := by decide +kernel
theorem dX12_readClause_77 : decode cX12_readClause 77 = .ok (.ldc 252, 2) := by decide +kernel
theorem dX12_readClause_79 : decode cX12_readClause 79 = .ok (.invokevirtual 254, 3) := by decide +kernel
theorem dX12_readClause_82 : decode cX12_readClause 82 = .ok (.goto 33, 3) := by decide +kernel
theorem dX12_readClause_85 : decode cX12_readClause 85 = .ok (.aload_n 0, 1) := by decide +kernel
theorem dX12_readClause_86 : decode cX12_readClause 86 = .ok (.dup, 1) := by decide +kernel
theorem dX12_readClause_87 : decode cX12_readClause 87 = .ok (.getfield 249, 3) := by decide +kernel
theorem dX12_readClause_90 : decode cX12_readClause 90 = .ok (.iconst 1, 1) := by decide +kernel
theorem dX12_readClause_91 : decode cX12_readClause 91 = .ok (.iadd, 1) := by decide +kernel
theorem dX12_readClause_92 : decode cX12_readClause 92 = .ok (.putfield 249, 3) := by decide +kernel
theorem dX12_readClause_95 : decode cX12_readClause 95 = .ok (.aload_n 0, 1) := by decide +kernel
theorem dX12_readClause_96 : decode cX12_readClause 96 = .ok (.iload_n 1, 1) := by decide +kernel
theorem dX12_readClause_97 : decode cX12_readClause 97 = .ok (.aload_n 0, 1) := by decide +kernel
theorem dX12_readClause_98 : decode cX12_readClause 98 = .ok (.getfield 46, 3) := by decide +kernel
theorem dX12_readClause_101 : decode cX12_readClause 101 = .ok (.iconst 5, 1) := by decide +kernel
theorem dX12_readClause_102 : decode cX12_readClause 102 = .ok (.aload_n 0, 1) := by decide +kernel
theorem dX12_readClause_103 : decode cX12_readClause 103 = .ok (.getfield 249, 3) := by decide +kernel
theorem dX12_readClause_106 : decode cX12_readClause 106 = .ok (.iconst 1, 1) := by decide +kernel
theorem dX12_readClause_107 : decode cX12_readClause 107 = .ok (.isub, 1) := by decide +kernel
theorem dX12_readClause_108 : decode cX12_readClause 108 = .ok (.imul, 1) := by decide +kernel
theorem dX12_readClause_109 : decode cX12_readClause 109 = .ok (.ldc_w 258, 3) := by decide +kernel
theorem dX12_readClause_112 : decode cX12_readClause 112 = .ok (.invokevirtual 254, 3) := by decide +kernel
theorem dX12_readClause_115 : decode cX12_readClause 115 = .ok (.return_, 1) := by decide +kernel
theorem dX12_isWhole_0 : decode cX12_isWhole 0 = .ok (.iconst 0, 1) := by decide +kernel
theorem dX12_isWhole_1 : decode cX12_isWhole 1 = .ok (.istore_n 1, 1) := by decide +kernel
theorem dX12_isWhole_2 : decode cX12_isWhole 2 = .ok (.iload_n 1, 1) := by decide +kernel
theorem dX12_isWhole_3 : decode cX12_isWhole 3 = .ok (.aload_n 0, 1) := by decide +kernel
theorem dX12_isWhole_4 : decode cX12_isWhole 4 = .ok (.getfield 249, 3) := by decide +kernel
theorem dX12_isWhole_7 : decode cX12_isWhole 7 = .ok (.if_icmp .ge 55, 3) := by decide +kernel
theorem dX12_isWhole_10 : decode cX12_isWhole 10 = .ok (.aload_n 0, 1) := by decide +kernel
theorem dX12_isWhole_11 : decode cX12_isWhole 11 = .ok (.getfield 46, 3) := by decide +kernel
theorem dX12_isWhole_14 : decode cX12_isWhole 14 = .ok (.iconst 5, 1) := by decide +kernel
theorem dX12_isWhole_15 : decode cX12_isWhole 15 = .ok (.iload_n 1, 1) := by decide +kernel
theorem dX12_isWhole_16 : decode cX12_isWhole 16 = .ok (.imul, 1) := by decide +kernel
theorem dX12_isWhole_17 : decode cX12_isWhole 17 = .ok (.iconst 4, 1) := by decide +kernel
theorem dX12_isWhole_18 : decode cX12_isWhole 18 = .ok (.iadd, 1) := by decide +kernel
theorem dX12_isWhole_19 : decode cX12_isWhole 19 = .ok (.iaload, 1) := by decide +kernel
theorem dX12_isWhole_20 : decode cX12_isWhole 20 = .ok (.istore_n 2, 1) := by decide +kernel
theorem dX12_isWhole_21 : decode cX12_isWhole 21 = .ok (.iload_n 2, 1) := by decide +kernel
theorem dX12_isWhole_22 : decode cX12_isWhole 22 = .ok (.bipush 8, 2) := by decide +kernel
theorem dX12_isWhole_24 : decode cX12_isWhole 24 = .ok (.if_icmp .eq 32, 3) := by decide +kernel
theorem dX12_isWhole_27 : decode cX12_isWhole 27 = .ok (.iload_n 2, 1) := by decide +kernel
theorem dX12_isWhole_28 : decode cX12_isWhole 28 = .ok (.aload_n 0, 1) := by decide +kernel
theorem dX12_isWhole_29 : decode cX12_isWhole 29 = .ok (.getfield 249, 3) := by decide +kernel
theorem dX12_isWhole_32 : decode cX12_isWhole 32 = .ok (.if_icmp .ge 22, 3) := by decide +kernel
theorem dX12_isWhole_35 : decode cX12_isWhole 35 = .ok (.iload_n 2, 1) := by decide +kernel
theorem dX12_isWhole_36 : decode cX12_isWhole 36 = .ok (.iload_n 1, 1) := by decide +kernel
theorem dX12_isWhole_37 : decode cX12_isWhole 37 = .ok (.if_icmp .eq 17, 3) := by decide +kernel
theorem dX12_isWhole_40 : decode cX12_isWhole 40 = .ok (.aload_n 0, 1) := by decide +kernel
theorem dX12_isWhole_41 : decode cX12_isWhole 41 = .ok (.getfield 46, 3) := by decide +kernel
theorem dX12_isWhole_44 : decode cX12_isWhole 44 = .ok (.iconst 5, 1) := by decide +kernel
theorem dX12_isWhole_45 : decode cX12_isWhole 45 = .ok (.iload_n 2, 1) := by decide +kernel
theorem dX12_isWhole_46 : decode cX12_isWhole 46 = .ok (.imul, 1) := by decide +kernel
theorem dX12_isWhole_47 : decode cX12_isWhole 47 = .ok (.iconst 4, 1) := by decide +kernel
theorem dX12_isWhole_48 : decode cX12_isWhole 48 = .ok (.iadd, 1) := by decide +kernel
theorem dX12_isWhole_49 : decode cX12_isWhole 49 = .ok (.iaload, 1) := by decide +kernel
theorem dX12_isWhole_50 : decode cX12_isWhole 50 = .ok (.iload_n 1, 1) := by decide +kernel
theorem dX12_isWhole_51 : decode cX12_isWhole 51 = .ok (.if_icmp .eq 5, 3) := by decide +kernel
theorem dX12_isWhole_54 : decode cX12_isWhole 54 = .ok (.iconst 0, 1) := by decide +kernel
theorem dX12_isWhole_55 : decode cX12_isWhole 55 = .ok (.ireturn, 1) := by decide +kernel
theorem dX12_isWhole_56 : decode cX12_isWhole 56 = .ok (.iinc 1 1, 3) := by decide +kernel
theorem dX12_isWhole_59 : decode cX12_isWhole 59 = .ok (.goto (-57), 3) := by decide +kernel
theorem dX12_isWhole_62 : decode cX12_isWhole 62 = .ok (.aload_n 0, 1) := by decide +kernel
theorem dX12_isWhole_63 : decode cX12_isWhole 63 = .ok (.getfield 249, 3) := by decide +kernel
theorem dX12_isWhole_66 : decode cX12_isWhole 66 = .ok (.ifCond .le 7, 3) := by decide +kernel
theorem dX12_isWhole_69 : decode cX12_isWhole 69 = .ok (.iconst 1, 1) := by decide +kernel
theorem dX12_isWhole_70 : decode cX12_isWhole 70 = .ok (.goto 4, 3) := by decide +kernel
theorem dX12_isWhole_73 : decode cX12_isWhole 73 = .ok (.iconst 0, 1) := by decide +kernel
theorem dX12_isWhole_74 : decode cX12_isWhole 74 = .ok (.ireturn, 1) := by decide +kernel
theorem dX12_readTown_0 : decode cX12_readTown 0 = .ok (.aload_n 0, 1) := by decide +kernel
theorem dX12_readTown_1 : decode cX12_readTown 1 = .ok (.aload_n 0, 1) := by decide +kernel
theorem dX12_readTown_2 : decode cX12_readTown 2 = .ok (.getfield 9, 3) := by decide +kernel
theorem dX12_readTown_5 : decode cX12_readTown 5 = .ok (.iconst 0, 1) := by decide +kernel
theorem dX12_readTown_6 : decode cX12_readTown 6 = .ok (.aload_n 0, 1) := by decide +kernel
theorem dX12_readTown_7 : decode cX12_readTown 7 = .ok (.getfield 113, 3) := by decide +kernel
theorem dX12_readTown_10 : decode cX12_readTown 10 = .ok (.invokevirtual 211, 3) := by decide +kernel
theorem dX12_readTown_13 : decode cX12_readTown 13 = .ok (.aload_n 0, 1) := by decide +kernel
theorem dX12_readTown_14 : decode cX12_readTown 14 = .ok (.iconst 0, 1) := by decide +kernel
theorem dX12_readTown_15 : decode cX12_readTown 15 = .ok (.putfield 249, 3) := by decide +kernel
theorem dX12_readTown_18 : decode cX12_readTown 18 = .ok (.aload_n 0, 1) := by decide +kernel
theorem dX12_readTown_19 : decode cX12_readTown 19 = .ok (.iconst 0, 1) := by decide +kernel
theorem dX12_readTown_20 : decode cX12_readTown 20 = .ok (.putfield 246, 3) := by decide +kernel
theorem dX12_readTown_23 : decode cX12_readTown 23 = .ok (.iconst 0, 1) := by decide +kernel
theorem dX12_readTown_24 : decode cX12_readTown 24 = .ok (.istore_n 1, 1) := by decide +kernel
theorem dX12_readTown_25 : decode cX12_readTown 25 = .ok (.iload_n 1, 1) := by decide +kernel
theorem dX12_readTown_26 : decode cX12_readTown 26 = .ok (.iconst 3, 1) := by decide +kernel
theorem dX12_readTown_27 : decode cX12_readTown 27 = .ok (.if_icmp .ge 21, 3) := by decide +kernel
theorem dX12_readTown_30 : decode cX12_readTown 30 = .ok (.aload_n 0, 1) := by decide +kernel
theorem dX12_readTown_31 : decode cX12_readTown 31 = .ok (.getfield 40, 3) := by decide +kernel
theorem dX12_readTown_34 : decode cX12_readTown 34 = .ok (.iload_n 1, 1) := by decide +kernel
theorem dX12_readTown_35 : decode cX12_readTown 35 = .ok (.bipush 115, 2) := by decide +kernel
theorem dX12_readTown_37 : decode cX12_readTown 37 = .ok (.iload_n 1, 1) := by decide +kernel
theorem dX12_readTown_38 : decode cX12_readTown 38 = .ok (.invokestatic 225, 3) := by decide +kernel
theorem dX12_readTown_41 : decode cX12_readTown 41 = .ok (.iastore, 1) := by decide +kernel
theorem dX12_readTown_42 : decode cX12_readTown 42 = .ok (.iinc 1 1, 3) := by decide +kernel
theorem dX12_readTown_45 : decode cX12_readTown 45 = .ok (.goto (-20), 3) := by decide +kernel
theorem dX12_readTown_48 : decode cX12_readTown 48 = .ok (.iconst 1, 1) := by decide +kernel
theorem dX12_readTown_49 : decode cX12_readTown 49 = .ok (.istore_n 1, 1) := by decide +kernel
theorem dX12_readTown_50 : decode cX12_readTown 50 = .ok (.iload_n 1, 1) := by decide +kernel
theorem dX12_readTown_51 : decode cX12_readTown 51 = .ok (.ifCond .eq 55, 3) := by decide +kernel
theorem dX12_readTown_54 : decode cX12_readTown 54 = .ok (.aload_n 0, 1) := by decide +kernel
theorem dX12_readTown_55 : decode cX12_readTown 55 = .ok (.getfield 132, 3) := by decide +kernel
theorem dX12_readTown_58 : decode cX12_readTown 58 = .ok (.iconst (-1), 1) := by decide +kernel
theorem dX12_readTown_59 : decode cX12_readTown 59 = .ok (.if_icmp .ne 47, 3) := by decide +kernel
theorem dX12_readTown_62 : decode cX12_readTown 62 = .ok (.aload_n 0, 1) := by decide +kernel
theorem dX12_readTown_63 : decode cX12_readTown 63 = .ok (.invokevirtual 260, 3) := by decide +kernel
theorem dX12_readTown_66 : decode cX12_readTown 66 = .ok (.aload_n 0, 1) := by decide +kernel
theorem dX12_readTown_67 : decode cX12_readTown 67 = .ok (.getfield 132, 3) := by decide +kernel
theorem dX12_readTown_70 : decode cX12_readTown 70 = .ok (.iconst (-1), 1) := by decide +kernel
theorem dX12_readTown_71 : decode cX12_readTown 71 = .ok (.if_icmp .ne 16, 3) := by decide +kernel
theorem dX12_readTown_74 : decode cX12_readTown 74 = .ok (.aload_n 0, 1) := by decide +kernel
theorem dX12_readTown_75 : decode cX12_readTown 75 = .ok (.invokevirtual 142, 3) := by decide +kernel
theorem dX12_readTown_78 : decode cX12_readTown 78 = .ok (.bipush 59, 2) := by decide +kernel
theorem dX12_readTown_80 : decode cX12_readTown 80 = .ok (.if_icmp .ne 7, 3) := by decide +kernel
theorem dX12_readTown_83 : decode cX12_readTown 83 = .ok (.iconst 1, 1) := by decide +kernel
theorem dX12_readTown_84 : decode cX12_readTown 84 = .ok (.goto 4, 3) := by decide +kernel
theorem dX12_readTown_87 : decode cX12_readTown 87 = .ok (.iconst 0, 1) := by decide +kernel
theorem dX12_readTown_88 : decode cX12_readTown 88 = .ok (.istore_n 1, 1) := by decide +kernel
theorem dX12_readTown_89 : decode cX12_readTown 89 = .ok (.iload_n 1, 1) := by decide +kernel
theorem dX12_readTown_90 : decode cX12_readTown 90 = .ok (.ifCond .eq (-40), 3) := by decide +kernel
theorem dX12_readTown_93 : decode cX12_readTown 93 = .ok (.aload_n 0, 1) := by decide +kernel
theorem dX12_readTown_94 : decode cX12_readTown 94 = .ok (.dup, 1) := by decide +kernel
theorem dX12_readTown_95 : decode cX12_readTown 95 = .ok (.getfield 123, 3) := by decide +kernel
theorem dX12_readTown_98 : decode cX12_readTown 98 = .ok (.iconst 1, 1) := by decide +kernel
theorem dX12_readTown_99 : decode cX12_readTown 99 = .ok (.iadd, 1) := by decide +kernel
theorem dX12_readTown_100 : decode cX12_readTown 100 = .ok (.putfield 123, 3) := by decide +kernel
theorem dX12_readTown_103 : decode cX12_readTown 103 = .ok (.goto (-53), 3) := by decide +kernel
theorem dX12_readTown_106 : decode cX12_readTown 106 = .ok (.aload_n 0, 1) := by decide +kernel
theorem dX12_readTown_107 : decode cX12_readTown 107 = .ok (.getfield 132, 3) := by decide +kernel
theorem dX12_readTown_110 : decode cX12_readTown 110 = .ok (.iconst (-1), 1) := by decide +kernel
theorem dX12_readTown_111 : decode cX12_readTown 111 = .ok (.if_icmp .ne 23, 3) := by decide +kernel
theorem dX12_readTown_114 : decode cX12_readTown 114 = .ok (.aload_n 0, 1) := by decide +kernel
theorem dX12_readTown_115 : decode cX12_readTown 115 = .ok (.invokevirtual 142, 3) := by decide +kernel
theorem dX12_readTown_118 : decode cX12_readTown 118 = .ok (.iconst (-1), 1) := by decide +kernel
theorem dX12_readTown_119 : decode cX12_readTown 119 = .ok (.if_icmp .ne 10, 3) := by decide +kernel
theorem dX12_readTown_122 : decode cX12_readTown 122 = .ok (.aload_n 0, 1) := by decide +kernel
theorem dX12_readTown_123 : decode cX12_readTown 123 = .ok (.invokevirtual 263, 3) := by decide +kernel
theorem dX12_readTown_126 : decode cX12_readTown 126 = .ok (.ifCond .ne 8, 3) := by decide +kernel
theorem dX12_readTown_129 : decode cX12_readTown 129 = .ok (.aload_n 0, 1) := by decide +kernel
theorem dX12_readTown_130 : decode cX12_readTown 130 = .ok (.invokevirtual 138, 3) := by decide +kernel
theorem dX12_readTown_133 : decode cX12_readTown 133 = .ok (.pop, 1) := by decide +kernel
theorem dX12_readTown_134 : decode cX12_readTown 134 = .ok (.return_, 1) := by decide +kernel
theorem dX12_readWatch_0 : decode cX12_readWatch 0 = .ok (.aload_n 0, 1) := by decide +kernel
theorem dX12_readWatch_1 : decode cX12_readWatch 1 = .ok (.aload_n 0, 1) := by decide +kernel
theorem dX12_readWatch_2 : decode cX12_readWatch 2 = .ok (.getfield 9, 3) := by decide +kernel
theorem dX12_readWatch_5 : decode cX12_readWatch 5 = .ok (.iconst 0, 1) := by decide +kernel
theorem dX12_readWatch_6 : decode cX12_readWatch 6 = .ok (.aload_n 0, 1) := by decide +kernel
theorem dX12_readWatch_7 : decode cX12_readWatch 7 = .ok (.getfield 113, 3) := by decide +kernel
theorem dX12_readWatch_10 : decode cX12_readWatch 10 = .ok (.invokevirtual 211, 3) := by decide +kernel
theorem dX12_readWatch_13 : decode cX12_readWatch 13 = .ok (.iconst 0, 1) := by decide +kernel
theorem dX12_readWatch_14 : decode cX12_readWatch 14 = .ok (.istore_n 1, 1) := by decide +kernel
theorem dX12_readWatch_15 : decode cX12_readWatch 15 = .ok (.aload_n 0, 1) := by decide +kernel
theorem dX12_readWatch_16 : decode cX12_readWatch 16 = .ok (.getfield 132, 3) := by decide +kernel
theorem dX12_readWatch_19 : decode cX12_readWatch 19 = .ok (.iconst (-1), 1) := by decide +kernel
theorem dX12_readWatch_20 : decode cX12_readWatch 20 = .ok (.if_icmp .ne 68, 3) := by decide +kernel
theorem dX12_readWatch_23 : decode cX12_readWatch 23 = .ok (.iload_n 1, 1) := by decide +kernel
theorem dX12_readWatch_24 : decode cX12_readWatch 24 = .ok (.ifCond .eq 11, 3) := by decide +kernel
theorem dX12_readWatch_27 : decode cX12_readWatch 27 = .ok (.aload_n 0, 1) := by decide +kernel
theorem dX12_readWatch_28 : decode cX12_readWatch 28 = .ok (.invokevirtual 142, 3) := by decide +kernel
theorem dX12_readWatch_31 : decode cX12_readWatch 31 = .ok (.iconst (-1), 1) := by decide +kernel
theorem dX12_readWatch_32 : decode cX12_readWatch 32 = .ok (.if_icmp .eq 56, 3) := by decide +kernel
theorem dX12_readWatch_35 : decode cX12_readWatch 35 = .ok (.aload_n 0, 1) := by decide +kernel
theorem dX12_readWatch_36 : decode cX12_readWatch 36 = .ok (.invokevirtual 142, 3) := by decide +kernel
theorem dX12_readWatch_39 : decode cX12_readWatch 39 = .ok (.istore_n 2, 1) := by decide +kernel
theorem dX12_readWatch_40 : decode cX12_readWatch 40 = .ok (.aload_n 0, 1) := by decide +kernel
theorem dX12_readWatch_41 : decode cX12_readWatch 41 = .ok (.invokevirtual 172, 3) := by decide +kernel
theorem dX12_readWatch_44 : decode cX12_readWatch 44 = .ok (.ifCond .eq 9, 3) := by decide +kernel
theorem dX12_readWatch_47 : decode cX12_readWatch 47 = .ok (.iload_n 1, 1) := by decide +kernel
theorem dX12_readWatch_48 : decode cX12_readWatch 48 = .ok (.bipush 9, 2) := by decide +kernel
theorem dX12_readWatch_50 : decode cX12_readWatch 50 = .ok (.if_icmp .ne 9, 3) := by decide +kernel
theorem dX12_readWatch_53 : decode cX12_readWatch 53 = .ok (.aload_n 0, 1) := by decide +kernel
theorem dX12_readWatch_54 : decode cX12_readWatch 54 = .ok (.invokevirtual 138, 3) := by decide +kernel
theorem dX12_readWatch_57 : decode cX12_readWatch 57 = .ok (.pop, 1) := by decide +kernel
theorem dX12_readWatch_58 : decode cX12_readWatch 58 = .ok (.return_, 1) := by decide +kernel
theorem dX12_readWatch_59 : decode cX12_readWatch 59 = .ok (.aload_n 0, 1) := by decide +kernel
theorem dX12_readWatch_60 : decode cX12_readWatch 60 = .ok (.getfield 49, 3) := by decide +kernel
theorem dX12_readWatch_63 : decode cX12_readWatch 63 = .ok (.bipush 36, 2) := by decide +kernel
theorem dX12_readWatch_65 : decode cX12_readWatch 65 = .ok (.iload_n 1, 1) := by decide +kernel
theorem dX12_readWatch_66 : decode cX12_readWatch 66 = .ok (.iadd, 1) := by decide +kernel
theorem dX12_readWatch_67 : decode cX12_readWatch 67 = .ok (.iload_n 2, 1) := by decide +kernel
theorem dX12_readWatch_68 : decode cX12_readWatch 68 = .ok (.bipush 48, 2) := by decide +kernel
theorem dX12_readWatch_70 : decode cX12_readWatch 70 = .ok (.isub, 1) := by decide +kernel
theorem dX12_readWatch_71 : decode cX12_readWatch 71 = .ok (.iastore, 1) := by decide +kernel
theorem dX12_readWatch_72 : decode cX12_readWatch 72 = .ok (.aload_n 0, 1) := by decide +kernel
theorem dX12_readWatch_73 : decode cX12_readWatch 73 = .ok (.dup, 1) := by decide +kernel
theorem dX12_readWatch_74 : decode cX12_readWatch 74 = .ok (.getfield 123, 3) := by decide +kernel
theorem dX12_readWatch_77 : decode cX12_readWatch 77 = .ok (.iconst 1, 1) := by decide +kernel
theorem dX12_readWatch_78 : decode cX12_readWatch 78 = .ok (.iadd, 1) := by decide +kernel
theorem dX12_readWatch_79 : decode cX12_readWatch 79 = .ok (.putfield 123, 3) := by decide +kernel
theorem dX12_readWatch_82 : decode cX12_readWatch 82 = .ok (.iinc 1 1, 3) := by decide +kernel
theorem dX12_readWatch_85 : decode cX12_readWatch 85 = .ok (.goto (-70), 3) := by decide +kernel
theorem dX12_readWatch_88 : decode cX12_readWatch 88 = .ok (.aload_n 0, 1) := by decide +kernel
theorem dX12_readWatch_89 : decode cX12_readWatch 89 = .ok (.getfield 52, 3) := by decide +kernel
theorem dX12_readWatch_92 : decode cX12_readWatch 92 = .ok (.iconst 4, 1) := by decide +kernel
theorem dX12_readWatch_93 : decode cX12_readWatch 93 = .ok (.iload_n 1, 1) := by decide +kernel
theorem dX12_readWatch_94 : decode cX12_readWatch 94 = .ok (.iastore, 1) := by decide +kernel
theorem dX12_readWatch_95 : decode cX12_readWatch 95 = .ok (.return_, 1) := by decide +kernel
theorem dX12_fault_0 : decode cX12_fault 0 = .ok (.aload_n 0, 1) := by decide +kernel
theorem dX12_fault_1 : decode cX12_fault 1 = .ok (.iconst 0, 1) := by decide +kernel
theorem dX12_fault_2 : decode cX12_fault 2 = .ok (.putfield 100, 3) := by decide +kernel
theorem dX12_fault_5 : decode cX12_fault 5 = .ok (.iload_n 1, 1) := by decide +kernel
theorem dX12_fault_6 : decode cX12_fault 6 = .ok (.i2l, 1) := by decide +kernel
theorem dX12_fault_7 : decode cX12_fault 7 = .ok (.lconst 0, 1) := by decide +kernel
theorem dX12_fault_8 : decode cX12_fault 8 = .ok (.ldc2_w 266, 3) := by decide +kernel
theorem dX12_fault_11 : decode cX12_fault 11 = .ok (.invokestatic 221, 3) := by decide +kernel
theorem dX12_fault_14 : decode cX12_fault 14 = .ok (.ifCond .ne 6, 3) := by decide +kernel
theorem dX12_fault_17 : decode cX12_fault 17 = .ok (.bipush (-2), 2) := by decide +kernel
theorem dX12_fault_19 : decode cX12_fault 19 = .ok (.ireturn, 1) := by decide +kernel
theorem dX12_fault_20 : decode cX12_fault 20 = .ok (.iload_n 1, 1) := by decide +kernel
theorem dX12_fault_21 : decode cX12_fault 21 = .ok (.ifCond .ne 7, 3) := by decide +kernel
theorem dX12_fault_24 : decode cX12_fault 24 = .ok (.aload_n 0, 1) := by decide +kernel
theorem dX12_fault_25 : decode cX12_fault 25 = .ok (.invokevirtual 268, 3) := by decide +kernel
theorem dX12_fault_28 : decode cX12_fault 28 = .ok (.iload_n 1, 1) := by decide +kernel
theorem dX12_fault_29 : decode cX12_fault 29 = .ok (.iconst 1, 1) := by decide +kernel
theorem dX12_fault_30 : decode cX12_fault 30 = .ok (.if_icmp .ne 18, 3) := by decide +kernel
theorem dX12_fault_33 : decode cX12_fault 33 = .ok (.aload_n 0, 1) := by decide +kernel
theorem dX12_fault_34 : decode cX12_fault 34 = .ok (.aload_n 0, 1) := by decide +kernel
theorem dX12_fault_35 : decode cX12_fault 35 = .ok (.getfield 9, 3) := by decide +kernel
theorem dX12_fault_38 : decode cX12_fault 38 = .ok (.iconst 0, 1) := by decide +kernel
theorem dX12_fault_39 : decode cX12_fault 39 = .ok (.aload_n 0, 1) := by decide +kernel
theorem dX12_fault_40 : decode cX12_fault 40 = .ok (.getfield 113, 3) := by decide +kernel
theorem dX12_fault_43 : decode cX12_fault 43 = .ok (.bipush 121, 2) := by decide +kernel
theorem dX12_fault_45 : decode cX12_fault 45 = .ok (.invokevirtual 271, 3) := by decide +kernel
theorem dX12_fault_48 : decode cX12_fault 48 = .ok (.iload_n 1, 1) := by decide +kernel
theorem dX12_fault_49 : decode cX12_fault 49 = .ok (.iconst 2, 1) := by decide +kernel
theorem dX12_fault_50 : decode cX12_fault 50 = .ok (.if_icmp .ne 7, 3) := by decide +kernel
theorem dX12_fault_53 : decode cX12_fault 53 = .ok (.aload_n 0, 1) := by decide +kernel
theorem dX12_fault_54 : decode cX12_fault 54 = .ok (.invokevirtual 275, 3) := by decide +kernel
theorem dX12_fault_57 : decode cX12_fault 57 = .ok (.aload_n 0, 1) := by decide +kernel
theorem dX12_fault_58 : decode cX12_fault 58 = .ok (.getfield 132, 3) := by decide +kernel
theorem dX12_fault_61 : decode cX12_fault 61 = .ok (.ireturn, 1) := by decide +kernel
theorem dX12_text_0 : decode cX12_text 0 = .ok (.aload_n 0, 1) := by decide +kernel
theorem dX12_text_1 : decode cX12_text 1 = .ok (.iconst 0, 1) := by decide +kernel
theorem dX12_text_2 : decode cX12_text 2 = .ok (.putfield 100, 3) := by decide +kernel
theorem dX12_text_5 : decode cX12_text 5 = .ok (.iload_n 1, 1) := by decide +kernel
theorem dX12_text_6 : decode cX12_text 6 = .ok (.i2l, 1) := by decide +kernel
theorem dX12_text_7 : decode cX12_text 7 = .ok (.lconst 0, 1) := by decide +kernel
theorem dX12_text_8 : decode cX12_text 8 = .ok (.ldc2_w 266, 3) := by decide +kernel
theorem dX12_text_11 : decode cX12_text 11 = .ok (.invokestatic 221, 3) := by decide +kernel
theorem dX12_text_14 : decode cX12_text 14 = .ok (.ifCond .eq 38, 3) := by decide +kernel
theorem dX12_text_17 : decode cX12_text 17 = .ok (.iload_n 1, 1) := by decide +kernel
theorem dX12_text_18 : decode cX12_text 18 = .ok (.iconst 1, 1) := by decide +kernel
theorem dX12_text_19 : decode cX12_text 19 = .ok (.if_icmp .ne 11, 3) := by decide +kernel
theorem dX12_text_22 : decode cX12_text 22 = .ok (.aload_n 0, 1) := by decide +kernel
theorem dX12_text_23 : decode cX12_text 23 = .ok (.getfield 278, 3) := by decide +kernel
theorem dX12_text_26 : decode cX12_text 26 = .ok (.iconst 4, 1) := by decide +kernel
theorem dX12_text_27 : decode cX12_text 27 = .ok (.if_icmp .eq 25, 3) := by decide +kernel
theorem dX12_text_30 : decode cX12_text 30 = .ok (.iload_n 1, 1) := by decide +kernel
theorem dX12_text_31 : decode cX12_text 31 = .ok (.iconst 2, 1) := by decide +kernel
theorem dX12_text_32 : decode cX12_text 32 = .ok (.if_icmp .ne 11, 3) := by decide +kernel
theorem dX12_text_35 : decode cX12_text 35 = .ok (.aload_n 0, 1) := by decide +kernel
theorem dX12_text_36 : decode cX12_text 36 = .ok (.getfield 281, 3) := by decide +kernel
theorem dX12_text_39 : decode cX12_text 39 = .ok (.iconst 4, 1) := by decide +kernel
theorem dX12_text_40 : decode cX12_text 40 = .ok (.if_icmp .eq 12, 3) := by decide +kernel
theorem dX12_text_43 : decode cX12_text 43 = .ok (.aload_n 0, 1) := by decide +kernel
theorem dX12_text_44 : decode cX12_text 44 = .ok (.iload_n 1, 1) := by decide +kernel
theorem dX12_text_45 : decode cX12_text 45 = .ok (.invokevirtual 284, 3) := by decide +kernel
theorem dX12_text_48 : decode cX12_text 48 = .ok (.iconst (-1), 1) := by decide +kernel
theorem dX12_text_49 : decode cX12_text 49 = .ok (.if_icmp .eq 5, 3) := by decide +kernel
theorem dX12_text_52 : decode cX12_text 52 = .ok (.iconst (-1), 1) := by decide +kernel
theorem dX12_text_53 : decode cX12_text 53 = .ok (.ireturn, 1) := by decide +kernel
theorem dX12_text_54 : decode cX12_text 54 = .ok (.aload_n 0, 1) := by decide +kernel
theorem dX12_text_55 : decode cX12_text 55 = .ok (.getfield 113, 3) := by decide +kernel
theorem dX12_text_58 : decode cX12_text 58 = .ok (.istore_n 2, 1) := by decide +kernel
theorem dX12_text_59 : decode cX12_text 59 = .ok (.aload_n 0, 1) := by decide +kernel
theorem dX12_text_60 : decode cX12_text 60 = .ok (.iconst 0, 1) := by decide +kernel
theorem dX12_text_61 : decode cX12_text 61 = .ok (.putfield 113, 3) := by decide +kernel
theorem dX12_text_64 : decode cX12_text 64 = .ok (.iload_n 1, 1) := by decide +kernel
theorem dX12_text_65 : decode cX12_text 65 = .ok (.iconst 1, 1) := by decide +kernel
theorem dX12_text_66 : decode cX12_text 66 = .ok (.if_icmp .ne 64, 3) := by decide +kernel
theorem dX12_text_69 : decode cX12_text 69 = .ok (.iconst 0, 1) := by decide +kernel
theorem dX12_text_70 : decode cX12_text 70 = .ok (.istore_n 3, 1) := by decide +kernel
theorem dX12_text_71 : decode cX12_text 71 = .ok (.iload_n 3, 1) := by decide +kernel
theorem dX12_text_72 : decode cX12_text 72 = .ok (.iload_n 2, 1) := by decide +kernel
theorem dX12_text_73 : decode cX12_text 73 = .ok (.if_icmp .ge 30, 3) := by decide +kernel
theorem dX12_text_76 : decode cX12_text 76 = .ok (.aload_n 0, 1) := by decide +kernel
theorem dX12_text_77 : decode cX12_text 77 = .ok (.getfield 13, 3) := by decide +kernel
theorem dX12_text_80 : decode cX12_text 80 = .ok (.sipush 240, 3) := by decide +kernel
theorem dX12_text_83 : decode cX12_text 83 = .ok (.aload_n 0, 1) := by decide +kernel
theorem dX12_text_84 : decode cX12_text 84 = .ok (.getfield 278, 3) := by decide +kernel
theorem dX12_text_87 : decode cX12_text 87 = .ok (.imul, 1) := by decide +kernel
theorem dX12_text_88 : decode cX12_text 88 = .ok (.iload_n 3, 1) := by decide +kernel
theorem dX12_text_89 : decode cX12_text 89 = .ok (.iadd, 1) := by decide +kernel
theorem dX12_text_90 : decode cX12_text 90 = .ok (.aload_n 0, 1) := by decide +kernel
theorem dX12_text_91 : decode cX12_text 91 = .ok (.getfield 9, 3) := by decide +kernel
theorem dX12_text_94 : decode cX12_text 94 = .ok (.iload_n 3, 1) := by decide +kernel
theorem dX12_text_95 : decode cX12_text 95 = .ok (.baload, 1) := by decide +kernel
theorem dX12_text_96 : decode cX12_text 96 = .ok (.bastore, 1) := by decide +kernel
theorem dX12_text_97 : decode cX12_text 97 = .ok (.iinc 3 1, 3) := by decide +kernel
theorem dX12_text_100 : decode cX12_text 100 = .ok (.goto (-29), 3) := by decide +kernel
theorem dX12_text_103 : decode cX12_text 103 = .ok (.aload_n 0, 1) := by decide +kernel
theorem dX12_text_104 : decode cX12_text 104 = .ok (.getfield 16, 3) := by decide +kernel
theorem dX12_text_107 : decode cX12_text 107 = .ok (.aload_n 0, 1) := by decide +kernel
theorem dX12_text_108 : decode cX12_text 108 = .ok (.getfield 278, 3) := by decide +kernel
theorem dX12_text_111 : decode cX12_text 111 = .ok (.iload_n 2, 1) := by decide +kernel
theorem dX12_text_112 : decode cX12_text 112 = .ok (.iastore, 1) := by decide +kernel
theorem dX12_text_113 : decode cX12_text 113 = .ok (.aload_n 0, 1) := by decide +kernel
theorem dX12_text_114 : decode cX12_text 114 = .ok (.dup, 1) := by decide +kernel
theorem dX12_text_115 : decode cX12_text 115 = .ok (.getfield 278, 3) := by decide +kernel
theorem dX12_text_118 : decode cX12_text 118 = .ok (.iconst 1, 1) := by decide +kernel
theorem dX12_text_119 : decode cX12_text 119 = .ok (.iadd, 1) := by decide +kernel
theorem dX12_text_120 : decode cX12_text 120 = .ok (.putfield 278, 3) := by decide +kernel
theorem dX12_text_123 : decode cX12_text 123 = .ok (.aload_n 0, 1) := by decide +kernel
theorem dX12_text_124 : decode cX12_text 124 = .ok (.getfield 278, 3) := by decide +kernel
theorem dX12_text_127 : decode cX12_text 127 = .ok (.iconst 1, 1) := by decide +kernel
theorem dX12_text_128 : decode cX12_text 128 = .ok (.isub, 1) := by decide +kernel
theorem dX12_text_129 : decode cX12_text 129 = .ok (.ireturn, 1) := by decide +kernel
theorem dX12_text_130 : decode cX12_text 130 = .ok (.iload_n 1, 1) := by decide +kernel
theorem dX12_text_131 : decode cX12_text 131 = .ok (.iconst 2, 1) := by decide +kernel
theorem dX12_text_132 : decode cX12_text 132 = .ok (.if_icmp .ne 72, 3) := by decide +kernel
theorem dX12_text_135 : decode cX12_text 135 = .ok (.iconst 0, 1) := by decide +kernel
theorem dX12_text_136 : decode cX12_text 136 = .ok (.istore_n 3, 1) := by decide +kernel
theorem dX12_text_137 : decode cX12_text 137 = .ok (.iload_n 3, 1) := by decide +kernel
theorem dX12_text_138 : decode cX12_text 138 = .ok (.bipush 9, 2) := by decide +kernel
theorem dX12_text_140 : decode cX12_text 140 = .ok (.if_icmp .ge 32, 3) := by decide +kernel
theorem dX12_text_143 : decode cX12_text 143 = .ok (.aload_n 0, 1) := by decide +kernel
theorem dX12_text_144 : decode cX12_text 144 = .ok (.getfield 49, 3) := by decide +kernel
theorem dX12_text_147 : decode cX12_text 147 = .ok (.bipush 9, 2) := by decide +kernel
theorem dX12_text_149 : decode cX12_text 149 = .ok (.aload_n 0, 1) := by decide +kernel
theorem dX12_text_150 : decode cX12_text 150 = .ok (.getfield 281, 3) := by decide +kernel
theorem dX12_text_153 : decode cX12_text 153 = .ok (.imul, 1) := by decide +kernel
theorem dX12_text_154 : decode cX12_text 154 = .ok (.iload_n 3, 1) := by decide +kernel
theorem dX12_text_155 : decode cX12_text 155 = .ok (.iadd, 1) := by decide +kernel
theorem dX12_text_156 : decode cX12_text 156 = .ok (.aload_n 0, 1) := by decide +kernel
theorem dX12_text_157 : decode cX12_text 157 = .ok (.getfield 49, 3) := by decide +kernel
theorem dX12_text_160 : decode cX12_text 160 = .ok (.bipush 36, 2) := by decide +kernel
theorem dX12_text_162 : decode cX12_text 162 = .ok (.iload_n 3, 1) := by decide +kernel
theorem dX12_text_163 : decode cX12_text 163 = .ok (.iadd, 1) := by decide +kernel
theorem dX12_text_164 : decode cX12_text 164 = .ok (.iaload, 1) := by decide +kernel
theorem dX12_text_165 : decode cX12_text 165 = .ok (.iastore, 1) := by decide +kernel
theorem dX12_text_166 : decode cX12_text 166 = .ok (.iinc 3 1, 3) := by decide +kernel
theorem dX12_text_169 : decode cX12_text 169 = .ok (.goto (-32), 3) := by decide +kernel
theorem dX12_text_172 : decode cX12_text 172 = .ok (.aload_n 0, 1) := by decide +kernel
theorem dX12_text_173 : decode cX12_text 173 = .ok (.getfield 52, 3) := by decide +kernel
theorem dX12_text_176 : decode cX12_text 176 = .ok (.aload_n 0, 1) := by decide +kernel
theorem dX12_text_177 : decode cX12_text 177 = .ok (.getfield 281, 3) := by decide +kernel
theorem dX12_text_180 : decode cX12_text 180 = .ok (.aload_n 0, 1) := by decide +kernel
theorem dX12_text_181 : decode cX12_text 181 = .ok (.getfield 52, 3) := by decide +kernel
theorem dX12_text_184 : decode cX12_text 184 = .ok (.iconst 4, 1) := by decide +kernel
theorem dX12_text_185 : decode cX12_text 185 = .ok (.iaload, 1) := by decide +kernel
theorem dX12_text_186 : decode cX12_text 186 = .ok (.iastore, 1) := by decide +kernel
theorem dX12_text_187 : decode cX12_text 187 = .ok (.aload_n 0, 1) := by decide +kernel
theorem dX12_text_188 : decode cX12_text 188 = .ok (.dup, 1) := by decide +kernel
theorem dX12_text_189 : decode cX12_text 189 = .ok (.getfield 281, 3) := by decide +kernel
theorem dX12_text_192 : decode cX12_text 192 = .ok (.iconst 1, 1) := by decide +kernel
theorem dX12_text_193 : decode cX12_text 193 = .ok (.iadd, 1) := by decide +kernel
theorem dX12_text_194 : decode cX12_text 194 = .ok (.putfield 281, 3) := by decide +kernel
theorem dX12_text_197 : decode cX12_text 197 = .ok (.aload_n 0, 1) := by decide +kernel
theorem dX12_text_198 : decode cX12_text 198 = .ok (.getfield 281, 3) := by decide +kernel
theorem dX12_text_201 : decode cX12_text 201 = .ok (.iconst 1, 1) := by decide +kernel
theorem dX12_text_202 : decode cX12_text 202 = .ok (.isub, 1) := by decide +kernel
theorem dX12_text_203 : decode cX12_text 203 = .ok (.ireturn, 1) := by decide +kernel
theorem dX12_text_204 : decode cX12_text 204 = .ok (.aload_n 0, 1) := by decide +kernel
theorem dX12_text_205 : decode cX12_text 205 = .ok (.aload_n 0, 1) := by decide +kernel
theorem dX12_text_206 : decode cX12_text 206 = .ok (.getfield 249, 3) := by decide +kernel
theorem dX12_text_209 : decode cX12_text 209 = .ok (.putfield 286, 3) := by decide +kernel
theorem dX12_text_212 : decode cX12_text 212 = .ok (.iconst 0, 1) := by decide +kernel
theorem dX12_text_213 : decode cX12_text 213 = .ok (.istore_n 3, 1) := by decide +kernel
theorem dX12_text_214 : decode cX12_text 214 = .ok (.iload_n 3, 1) := by decide +kernel
theorem dX12_text_215 : decode cX12_text 215 = .ok (.iconst 3, 1) := by decide +kernel
theorem dX12_text_216 : decode cX12_text 216 = .ok (.if_icmp .ge 21, 3) := by decide +kernel
theorem dX12_text_219 : decode cX12_text 219 = .ok (.aload_n 0, 1) := by decide +kernel
theorem dX12_text_220 : decode cX12_text 220 = .ok (.getfield 37, 3) := by decide +kernel
theorem dX12_text_223 : decode cX12_text 223 = .ok (.iload_n 3, 1) := by decide +kernel
theorem dX12_text_224 : decode cX12_text 224 = .ok (.aload_n 0, 1) := by decide +kernel
theorem dX12_text_225 : decode cX12_text 225 = .ok (.getfield 40, 3) := by decide +kernel
theorem dX12_text_228 : decode cX12_text 228 = .ok (.iload_n 3, 1) := by decide +kernel
theorem dX12_text_229 : decode cX12_text 229 = .ok (.iaload, 1) := by decide +kernel
theorem dX12_text_230 : decode cX12_text 230 = .ok (.iastore, 1) := by decide +kernel
theorem dX12_text_231 : decode cX12_text 231 = .ok (.iinc 3 1, 3) := by decide +kernel
theorem dX12_text_234 : decode cX12_text 234 = .ok (.goto (-20), 3) := by decide +kernel
theorem dX12_text_237 : decode cX12_text 237 = .ok (.iconst 0, 1) := by decide +kernel
theorem dX12_text_238 : decode cX12_text 238 = .ok (.istore_n 3, 1) := by decide +kernel
theorem dX12_text_239 : decode cX12_text 239 = .ok (.iload_n 3, 1) := by decide +kernel
theorem dX12_text_240 : decode cX12_text 240 = .ok (.bipush 40, 2) := by decide +kernel
theorem dX12_text_242 : decode cX12_text 242 = .ok (.if_icmp .ge 21, 3) := by decide +kernel
theorem dX12_text_245 : decode cX12_text 245 = .ok (.aload_n 0, 1) := by decide +kernel
theorem dX12_text_246 : decode cX12_text 246 = .ok (.getfield 43, 3) := by decide +kernel
theorem dX12_text_249 : decode cX12_text 249 = .ok (.iload_n 3, 1) := by decide +kernel
theorem dX12_text_250 : decode cX12_text 250 = .ok (.aload_n 0, 1) := by decide +kernel
theorem dX12_text_251 : decode cX12_text 251 = .ok (.getfield 46, 3) := by decide +kernel
theorem dX12_text_254 : decode cX12_text 254 = .ok (.iload_n 3, 1) := by decide +kernel
theorem dX12_text_255 : decode cX12_text 255 = .ok (.iaload, 1) := by decide +kernel
theorem dX12_text_256 : decode cX12_text 256 = .ok (.iastore, 1) := by decide +kernel
theorem dX12_text_257 : decode cX12_text 257 = .ok (.iinc 3 1, 3) := by decide +kernel
theorem dX12_text_260 : decode cX12_text 260 = .ok (.goto (-21), 3) := by decide +kernel
theorem dX12_text_263 : decode cX12_text 263 = .ok (.iconst 0, 1) := by decide +kernel
theorem dX12_text_264 : decode cX12_text 264 = .ok (.istore_n 3, 1) := by decide +kernel
theorem dX12_text_265 : decode cX12_text 265 = .ok (.iload_n 3, 1) := by decide +kernel
theorem dX12_text_266 : decode cX12_text 266 = .ok (.sipush 533, 3) := by decide +kernel
theorem dX12_text_269 : decode cX12_text 269 = .ok (.if_icmp .ge 16, 3) := by decide +kernel
theorem dX12_text_272 : decode cX12_text 272 = .ok (.aload_n 0, 1) := by decide +kernel
theorem dX12_text_273 : decode cX12_text 273 = .ok (.getfield 55, 3) := by decide +kernel
theorem dX12_text_276 : decode cX12_text 276 = .ok (.iload_n 3, 1) := by decide +kernel
theorem dX12_text_277 : decode cX12_text 277 = .ok (.iconst 0, 1) := by decide +kernel
theorem dX12_text_278 : decode cX12_text 278 = .ok (.iastore, 1) := by decide +kernel
theorem dX12_text_279 : decode cX12_text 279 = .ok (.iinc 3 1, 3) := by decide +kernel
theorem dX12_text_282 : decode cX12_text 282 = .ok (.goto (-17), 3) := by decide +kernel
theorem dX12_text_285 : decode cX12_text 285 = .ok (.iconst 0, 1) := by decide +kernel
theorem dX12_text_286 : decode cX12_text 286 = .ok (.istore_n 3, 1) := by decide +kernel
theorem dX12_text_287 : decode cX12_text 287 = .ok (.iload_n 3, 1) := by decide +kernel
theorem dX12_text_288 : decode cX12_text 288 = .ok (.aload_n 0, 1) := by decide +kernel
theorem dX12_text_289 : decode cX12_text 289 = .ok (.getfield 286, 3) := by decide +kernel
theorem dX12_text_292 : decode cX12_text 292 = .ok (.if_icmp .ge 70, 3) := by decide +kernel
theorem dX12_text_295 : decode cX12_text 295 = .ok (.aload_n 0, 1) := by decide +kernel
theorem dX12_text_296 : decode cX12_text 296 = .ok (.getfield 55, 3) := by decide +kernel
theorem dX12_text_299 : decode cX12_text 299 = .ok (.bipush 6, 2) := by decide +kernel
theorem dX12_text_301 : decode cX12_text 301 = .ok (.iload_n 3, 1) := by decide +kernel
theorem dX12_text_302 : decode cX12_text 302 = .ok (.imul, 1) := by decide +kernel
theorem dX12_text_303 : decode cX12_text 303 = .ok (.iconst 0, 1) := by decide +kernel
theorem dX12_text_304 : decode cX12_text 304 = .ok (.iadd, 1) := by decide +kernel
theorem dX12_text_305 : decode cX12_text 305 = .ok (.aload_n 0, 1) := by decide +kernel
theorem dX12_text_306 : decode cX12_text 306 = .ok (.getfield 43, 3) := by decide +kernel
theorem dX12_text_309 : decode cX12_text 309 = .ok (.iconst 5, 1) := by decide +kernel
theorem dX12_text_310 : decode cX12_text 310 = .ok (.iload_n 3, 1) := by decide +kernel
theorem dX12_text_311 : decode cX12_text 311 = .ok (.imul, 1) := by decide +kernel
theorem dX12_text_312 : decode cX12_text 312 = .ok (.iaload, 1) := by decide +kernel
theorem dX12_text_313 : decode cX12_text 313 = .ok (.iastore, 1) := by decide +kernel
theorem dX12_text_314 : decode cX12_text 314 = .ok (.aload_n 0, 1) := by decide +kernel
theorem dX12_text_315 : decode cX12_text 315 = .ok (.getfield 55, 3) := by decide +kernel
theorem dX12_text_318 : decode cX12_text 318 = .ok (.bipush 6, 2) := by decide +kernel
theorem dX12_text_320 : decode cX12_text 320 = .ok (.iload_n 3, 1) := by decide +kernel
theorem dX12_text_321 : decode cX12_text 321 = .ok (.imul, 1) := by decide +kernel
theorem dX12_text_322 : decode cX12_text 322 = .ok (.iconst 1, 1) := by decide +kernel
theorem dX12_text_323 : decode cX12_text 323 = .ok (.iadd, 1) := by decide +kernel
theorem dX12_text_324 : decode cX12_text 324 = .ok (.aload_n 0, 1) := by decide +kernel
theorem dX12_text_325 : decode cX12_text 325 = .ok (.getfield 43, 3) := by decide +kernel
theorem dX12_text_328 : decode cX12_text 328 = .ok (.iconst 5, 1) := by decide +kernel
theorem dX12_text_329 : decode cX12_text 329 = .ok (.iload_n 3, 1) := by decide +kernel
theorem dX12_text_330 : decode cX12_text 330 = .ok (.imul, 1) := by decide +kernel
theorem dX12_text_331 : decode cX12_text 331 = .ok (.iconst 2, 1) := by decide +kernel
theorem dX12_text_332 : decode cX12_text 332 = .ok (.iadd, 1) := by decide +kernel
theorem dX12_text_333 : decode cX12_text 333 = .ok (.iaload, 1) := by decide +kernel
theorem dX12_text_334 : decode cX12_text 334 = .ok (.iastore, 1) := by decide +kernel
theorem dX12_text_335 : decode cX12_text 335 = .ok (.aload_n 0, 1) := by decide +kernel
theorem dX12_text_336 : decode cX12_text 336 = .ok (.getfield 55, 3) := by decide +kernel
theorem dX12_text_339 : decode cX12_text 339 = .ok (.bipush 6, 2) := by decide +kernel
theorem dX12_text_341 : decode cX12_text 341 = .ok (.iload_n 3, 1) := by decide +kernel
theorem dX12_text_342 : decode cX12_text 342 = .ok (.imul, 1) := by decide +kernel
theorem dX12_text_343 : decode cX12_text 343 = .ok (.iconst 2, 1) := by decide +kernel
theorem dX12_text_344 : decode cX12_text 344 = .ok (.iadd, 1) := by decide +kernel
theorem dX12_text_345 : decode cX12_text 345 = .ok (.aload_n 0, 1) := by decide +kernel
theorem dX12_text_346 : decode cX12_text 346 = .ok (.getfield 43, 3) := by decide +kernel
theorem dX12_text_349 : decode cX12_text 349 = .ok (.iconst 5, 1) := by decide +kernel
theorem dX12_text_350 : decode cX12_text 350 = .ok (.iload_n 3, 1) := by decide +kernel
theorem dX12_text_351 : decode cX12_text 351 = .ok (.imul, 1) := by decide +kernel
theorem dX12_text_352 : decode cX12_text 352 = .ok (.iconst 3, 1) := by decide +kernel
theorem dX12_text_353 : decode cX12_text 353 = .ok (.iadd, 1) := by decide +kernel
theorem dX12_text_354 : decode cX12_text 354 = .ok (.iaload, 1) := by decide +kernel
theorem dX12_text_355 : decode cX12_text 355 = .ok (.iastore, 1) := by decide +kernel
theorem dX12_text_356 : decode cX12_text 356 = .ok (.iinc 3 1, 3) := by decide +kernel
theorem dX12_text_359 : decode cX12_text 359 = .ok (.goto (-72), 3) := by decide +kernel
theorem dX12_text_362 : decode cX12_text 362 = .ok (.aload_n 0, 1) := by decide +kernel
theorem dX12_text_363 : decode cX12_text 363 = .ok (.iconst 0, 1) := by decide +kernel
theorem dX12_text_364 : decode cX12_text 364 = .ok (.putfield 289, 3) := by decide +kernel
theorem dX12_text_367 : decode cX12_text 367 = .ok (.aload_n 0, 1) := by decide +kernel
theorem dX12_text_368 : decode cX12_text 368 = .ok (.iconst 0, 1) := by decide +kernel
theorem dX12_text_369 : decode cX12_text 369 = .ok (.putfield 292, 3) := by decide +kernel
theorem dX12_text_372 : decode cX12_text 372 = .ok (.aload_n 0, 1) := by decide +kernel
theorem dX12_text_373 : decode cX12_text 373 = .ok (.iconst 0, 1) := by decide +kernel
theorem dX12_text_374 : decode cX12_text 374 = .ok (.putfield 295, 3) := by decide +kernel
theorem dX12_text_377 : decode cX12_text 377 = .ok (.aload_n 0, 1) := by decide +kernel
theorem dX12_text_378 : decode cX12_text 378 = .ok (.getfield 286, 3) := by decide +kernel
theorem dX12_text_381 : decode cX12_text 381 = .ok (.ireturn, 1) := by decide +kernel
theorem dX12_isPerson_0 : decode cX12_isPerson 0 = .ok (.iload_n 1, 1) := by decide +kernel
theorem dX12_isPerson_1 : decode cX12_isPerson 1 = .ok (.ifCond .lt 15, 3) := by decide +kernel
theorem dX12_isPerson_4 : decode cX12_isPerson 4 = .ok (.iload_n 1, 1) := by decide +kernel
theorem dX12_isPerson_5 : decode cX12_isPerson 5 = .ok (.aload_n 0, 1) := by decide +kernel
theorem dX12_isPerson_6 : decode cX12_isPerson 6 = .ok (.getfield 286, 3) := by decide +kernel
theorem dX12_isPerson_9 : decode cX12_isPerson 9 = .ok (.if_icmp .ge 7, 3) := by decide +kernel
theorem dX12_isPerson_12 : decode cX12_isPerson 12 = .ok (.iconst 1, 1) := by decide +kernel
theorem dX12_isPerson_13 : decode cX12_isPerson 13 = .ok (.goto 4, 3) := by decide +kernel
theorem dX12_isPerson_16 : decode cX12_isPerson 16 = .ok (.iconst 0, 1) := by decide +kernel
theorem dX12_isPerson_17 : decode cX12_isPerson 17 = .ok (.ireturn, 1) := by decide +kernel
theorem dX12_of_0 : decode cX12_of 0 = .ok (.aload_n 0, 1) := by decide +kernel
theorem dX12_of_1 : decode cX12_of 1 = .ok (.getfield 55, 3) := by decide +kernel
theorem dX12_of_4 : decode cX12_of 4 = .ok (.bipush 6, 2) := by decide +kernel
theorem dX12_of_6 : decode cX12_of 6 = .ok (.iload_n 1, 1) := by decide +kernel
theorem dX12_of_7 : decode cX12_of 7 = .ok (.imul, 1) := by decide +kernel
theorem dX12_of_8 : decode cX12_of 8 = .ok (.iload_n 2, 1) := by decide +kernel
theorem dX12_of_9 : decode cX12_of 9 = .ok (.iadd, 1) := by decide +kernel
theorem dX12_of_10 : decode cX12_of 10 = .ok (.iaload, 1) := by decide +kernel
theorem dX12_of_11 : decode cX12_of 11 = .ok (.ireturn, 1) := by decide +kernel
theorem dX12_conscience_0 : decode cX12_conscience 0 = .ok (.aload_n 0, 1) := by decide +kernel
theorem dX12_conscience_1 : decode cX12_conscience 1 = .ok (.getfield 43, 3) := by decide +kernel
theorem dX12_conscience_4 : decode cX12_conscience 4 = .ok (.iconst 5, 1) := by decide +kernel
theorem dX12_conscience_5 : decode cX12_conscience 5 = .ok (.iload_n 1, 1) := by decide +kernel
theorem dX12_conscience_6 : decode cX12_conscience 6 = .ok (.imul, 1) := by decide +kernel
theorem dX12_conscience_7 : decode cX12_conscience 7 = .ok (.iconst 1, 1) := by decide +kernel
theorem dX12_conscience_8 : decode cX12_conscience 8 = .ok (.iadd, 1) := by decide +kernel
theorem dX12_conscience_9 : decode cX12_conscience 9 = .ok (.iaload, 1) := by decide +kernel
theorem dX12_conscience_10 : decode cX12_conscience 10 = .ok (.ireturn, 1) := by decide +kernel
theorem dX12_married_0 : decode cX12_married 0 = .ok (.aload_n 0, 1) := by decide +kernel
theorem dX12_married_1 : decode cX12_married 1 = .ok (.getfield 43, 3) := by decide +kernel
theorem dX12_married_4 : decode cX12_married 4 = .ok (.iconst 5, 1) := by decide +kernel
theorem dX12_married_5 : decode cX12_married 5 = .ok (.iload_n 1, 1) := by decide +kernel
theorem dX12_married_6 : decode cX12_married 6 = .ok (.imul, 1) := by decide +kernel
theorem dX12_married_7 : decode cX12_married 7 = .ok (.iconst 4, 1) := by decide +kernel
theorem dX12_married_8 : decode cX12_married 8 = .ok (.iadd, 1) := by decide +kernel
theorem dX12_married_9 : decode cX12_married 9 = .ok (.iaload, 1) := by decide +kernel
theorem dX12_married_10 : decode cX12_married 10 = .ok (.istore_n 2, 1) := by decide +kernel
theorem dX12_married_11 : decode cX12_married 11 = .ok (.iload_n 2, 1) := by decide +kernel
theorem dX12_married_12 : decode cX12_married 12 = .ok (.bipush 8, 2) := by decide +kernel
theorem dX12_married_14 : decode cX12_married 14 = .ok (.if_icmp .ne 7, 3) := by decide +kernel
theorem dX12_married_17 : decode cX12_married 17 = .ok (.iconst (-1), 1) := by decide +kernel
theorem dX12_married_18 : decode cX12_married 18 = .ok (.goto 4, 3) := by decide +kernel
theorem dX12_married_21 : decode cX12_married 21 = .ok (.iload_n 2, 1) := by decide +kernel
theorem dX12_married_22 : decode cX12_married 22 = .ok (.ireturn, 1) := by decide +kernel
theorem dX12_isHour_0 : decode cX12_isHour 0 = .ok (.aload_n 0, 1) := by decide +kernel
theorem dX12_isHour_1 : decode cX12_isHour 1 = .ok (.getfield 286, 3) := by decide +kernel
theorem dX12_isHour_4 : decode cX12_isHour 4 = .ok (.ifCond .le 21, 3) := by decide +kernel
theorem dX12_isHour_7 : decode cX12_isHour 7 = .ok (.iload_n 1, 1) := by decide +kernel
theorem dX12_isHour_8 : decode cX12_isHour 8 = .ok (.ifCond .lt 17, 3) := by decide +kernel
theorem dX12_isHour_11 : decode cX12_isHour 11 = .ok (.iload_n 1, 1) := by decide +kernel
theorem dX12_isHour_12 : decode cX12_isHour 12 = .ok (.aload_n 0, 1) := by decide +kernel
theorem dX12_isHour_13 : decode cX12_isHour 13 = .ok (.getfield 37, 3) := by decide +kernel
theorem dX12_isHour_16 : decode cX12_isHour 16 = .ok (.iconst 0, 1) := by decide +kernel
theorem dX12_isHour_17 : decode cX12_isHour 17 = .ok (.iaload, 1) := by decide +kernel
theorem dX12_isHour_18 : decode cX12_isHour 18 = .ok (.if_icmp .ge 7, 3) := by decide +kernel
theorem dX12_isHour_21 : decode cX12_isHour 21 = .ok (.iconst 1, 1) := by decide +kernel
theorem dX12_isHour_22 : decode cX12_isHour 22 = .ok (.goto 4, 3) := by decide +kernel
theorem dX12_isHour_25 : decode cX12_isHour 25 = .ok (.iconst 0, 1) := by decide +kernel
theorem dX12_isHour_26 : decode cX12_isHour 26 = .ok (.ireturn, 1) := by decide +kernel
theorem dX12_lay_0 : decode cX12_lay 0 = .ok (.aload_n 0, 1) := by decide +kernel
theorem dX12_lay_1 : decode cX12_lay 1 = .ok (.getfield 20, 3) := by decide +kernel
theorem dX12_lay_4 : decode cX12_lay 4 = .ok (.bipush 103, 2) := by decide +kernel
theorem dX12_lay_6 : decode cX12_lay 6 = .ok (.iload_n 1, 1) := by decide +kernel
theorem dX12_lay_7 : decode cX12_lay 7 = .ok (.iastore, 1) := by decide +kernel
theorem dX12_lay_8 : decode cX12_lay 8 = .ok (.aload_n 0, 1) := by decide +kernel
theorem dX12_lay_9 : decode cX12_lay 9 = .ok (.getfield 20, 3) := by decide +kernel
theorem dX12_lay_12 : decode cX12_lay 12 = .ok (.bipush 99, 2) := by decide +kernel
theorem dX12_lay_14 : decode cX12_lay 14 = .ok (.aload_n 0, 1) := by decide +kernel
theorem dX12_lay_15 : decode cX12_lay 15 = .ok (.iload_n 2, 1) := by decide +kernel
theorem dX12_lay_16 : decode cX12_lay 16 = .ok (.invokevirtual 298, 3) := by decide +kernel
theorem dX12_lay_19 : decode cX12_lay 19 = .ok (.iastore, 1) := by decide +kernel
theorem dX12_lay_20 : decode cX12_lay 20 = .ok (.aload_n 0, 1) := by decide +kernel
theorem dX12_lay_21 : decode cX12_lay 21 = .ok (.getfield 20, 3) := by decide +kernel
theorem dX12_lay_24 : decode cX12_lay 24 = .ok (.bipush 119, 2) := by decide +kernel
theorem dX12_lay_26 : decode cX12_lay 26 = .ok (.aload_n 0, 1) := by decide +kernel
theorem dX12_lay_27 : decode cX12_lay 27 = .ok (.iload_n 2, 1) := by decide +kernel
theorem dX12_lay_28 : decode cX12_lay 28 = .ok (.iconst 1, 1) := by decide +kernel
theorem dX12_lay_29 : decode cX12_lay 29 = .ok (.invokevirtual 301, 3) := by decide +kernel
theorem dX12_lay_32 : decode cX12_lay 32 = .ok (.iastore, 1) := by decide +kernel
theorem dX12_lay_33 : decode cX12_lay 33 = .ok (.aload_n 0, 1) := by decide +kernel
theorem dX12_lay_34 : decode cX12_lay 34 = .ok (.getfield 20, 3) := by decide +kernel
theorem dX12_lay_37 : decode cX12_lay 37 = .ok (.bipush 116, 2) := by decide +kernel
theorem dX12_lay_39 : decode cX12_lay 39 = .ok (.iload_n 3, 1) := by decide +kernel
theorem dX12_lay_40 : decode cX12_lay 40 = .ok (.iastore, 1) := by decide +kernel
theorem dX12_lay_41 : decode cX12_lay 41 = .ok (.aload_n 0, 1) := by decide +kernel
theorem dX12_lay_42 : decode cX12_lay 42 = .ok (.getfield 20, 3) := by decide +kernel
theorem dX12_lay_45 : decode cX12_lay 45 = .ok (.bipush 104, 2) := by decide +kernel
theorem dX12_lay_47 : decode cX12_lay 47 = .ok (.iload 4, 2) := by decide +kernel
theorem dX12_lay_49 : decode cX12_lay 49 = .ok (.iastore, 1) := by decide +kernel
theorem dX12_lay_50 : decode cX12_lay 50 = .ok (.aload_n 0, 1) := by decide +kernel
theorem dX12_lay_51 : decode cX12_lay 51 = .ok (.getfield 20, 3) := by decide +kernel
theorem dX12_lay_54 : decode cX12_lay 54 = .ok (.bipush 97, 2) := by decide +kernel
theorem dX12_lay_56 : decode cX12_lay 56 = .ok (.iload 5, 2) := by decide +kernel
theorem dX12_lay_58 : decode cX12_lay 58 = .ok (.iastore, 1) := by decide +kernel
theorem dX12_lay_59 : decode cX12_lay 59 = .ok (.return_, 1) := by decide +kernel
theorem dX12_wakesBy_0 : decode cX12_wakesBy 0 = .ok (.aload_n 0, 1) := by decide +kernel
theorem dX12_wakesBy_1 : decode cX12_wakesBy 1 = .ok (.iload_n 2, 1) := by decide +kernel
theorem dX12_wakesBy_2 : decode cX12_wakesBy 2 = .ok (.invokevirtual 298, 3) := by decide +kernel
theorem dX12_wakesBy_5 : decode cX12_wakesBy 5 = .ok (.aload_n 0, 1) := by decide +kernel
theorem dX12_wakesBy_6 : decode cX12_wakesBy 6 = .ok (.iload_n 2, 1) := by decide +kernel
theorem dX12_wakesBy_7 : decode cX12_wakesBy 7 = .ok (.iconst 1, 1) := by decide +kernel
theorem dX12_wakesBy_8 : decode cX12_wakesBy 8 = .ok (.invokevirtual 301, 3) := by decide +kernel
theorem dX12_wakesBy_11 : decode cX12_wakesBy 11 = .ok (.iadd, 1) := by decide +kernel
theorem dX12_wakesBy_12 : decode cX12_wakesBy 12 = .ok (.iload_n 1, 1) := by decide +kernel
theorem dX12_wakesBy_13 : decode cX12_wakesBy 13 = .ok (.isub, 1) := by decide +kernel
theorem dX12_wakesBy_14 : decode cX12_wakesBy 14 = .ok (.aload_n 0, 1) := by decide +kernel
theorem dX12_wakesBy_15 : decode cX12_wakesBy 15 = .ok (.iload_n 2, 1) := by decide +kernel
theorem dX12_wakesBy_16 : decode cX12_wakesBy 16 = .ok (.iconst 2, 1) := by decide +kernel
theorem dX12_wakesBy_17 : decode cX12_wakesBy 17 = .ok (.invokevirtual 301, 3) := by decide +kernel
theorem dX12_wakesBy_20 : decode cX12_wakesBy 20 = .ok (.isub, 1) := by decide +kernel
theorem dX12_wakesBy_21 : decode cX12_wakesBy 21 = .ok (.istore 4, 2) := by decide +kernel
theorem dX12_wakesBy_23 : decode cX12_wakesBy 23 = .ok (.aload_n 0, 1) := by decide +kernel
theorem dX12_wakesBy_24 : decode cX12_wakesBy 24 = .ok (.getfield 58, 3) := by decide +kernel
theorem dX12_wakesBy_27 : decode cX12_wakesBy 27 = .ok (.iconst (-1), 1) := by decide +kernel
theorem dX12_wakesBy_28 : decode cX12_wakesBy 28 = .ok (.if_icmp .eq 50, 3) := by decide +kernel
theorem dX12_wakesBy_31 : decode cX12_wakesBy 31 = .ok (.aload_n 0, 1) := by decide +kernel
theorem dX12_wakesBy_32 : decode cX12_wakesBy 32 = .ok (.iload_n 1, 1) := by decide +kernel
theorem dX12_wakesBy_33 : decode cX12_wakesBy 33 = .ok (.iload_n 2, 1) := by decide +kernel
theorem dX12_wakesBy_34 : decode cX12_wakesBy 34 = .ok (.aload_n 0, 1) := by decide +kernel
theorem dX12_wakesBy_35 : decode cX12_wakesBy 35 = .ok (.iload_n 2, 1) := by decide +kernel
theorem dX12_wakesBy_36 : decode cX12_wakesBy 36 = .ok (.iconst 2, 1) := by decide +kernel
theorem dX12_wakesBy_37 : decode cX12_wakesBy 37 = .ok (.invokevirtual 301, 3) := by decide +kernel
theorem dX12_wakesBy_40 : decode cX12_wakesBy 40 = .ok (.iload_n 3, 1) := by decide +kernel
theorem dX12_wakesBy_41 : decode cX12_wakesBy 41 = .ok (.iconst 0, 1) := by decide +kernel
theorem dX12_wakesBy_42 : decode cX12_wakesBy 42 = .ok (.invokevirtual 304, 3) := by decide +kernel
theorem dX12_wakesBy_45 : decode cX12_wakesBy 45 = .ok (.aload_n 0, 1) := by decide +kernel
theorem dX12_wakesBy_46 : decode cX12_wakesBy 46 = .ok (.aload_n 0, 1) := by decide +kernel
theorem dX12_wakesBy_47 : decode cX12_wakesBy 47 = .ok (.getfield 13, 3) := by decide +kernel
theorem dX12_wakesBy_50 : decode cX12_wakesBy 50 = .ok (.sipush 240, 3) := by decide +kernel
theorem dX12_wakesBy_53 : decode cX12_wakesBy 53 = .ok (.aload_n 0, 1) := by decide +kernel
theorem dX12_wakesBy_54 : decode cX12_wakesBy 54 = .ok (.getfield 58, 3) := by decide +kernel
theorem dX12_wakesBy_57 : decode cX12_wakesBy 57 = .ok (.imul, 1) := by decide +kernel
theorem dX12_wakesBy_58 : decode cX12_wakesBy 58 = .ok (.aload_n 0, 1) := by decide +kernel
theorem dX12_wakesBy_59 : decode cX12_wakesBy 59 = .ok (.getfield 16, 3) := by decide +kernel
theorem dX12_wakesBy_62 : decode cX12_wakesBy 62 = .ok (.aload_n 0, 1) := by decide +kernel
theorem dX12_wakesBy_63 : decode cX12_wakesBy 63 = .ok (.getfield 58, 3) := by decide +kernel
theorem dX12_wakesBy_66 : decode cX12_wakesBy 66 = .ok (.iaload, 1) := by decide +kernel
theorem dX12_wakesBy_67 : decode cX12_wakesBy 67 = .ok (.bipush 121, 2) := by decide +kernel
theorem dX12_wakesBy_69 : decode cX12_wakesBy 69 = .ok (.invokevirtual 271, 3) := by decide +kernel
theorem dX12_wakesBy_72 : decode cX12_wakesBy 72 = .ok (.aload_n 0, 1) := by decide +kernel
theorem dX12_wakesBy_73 : decode cX12_wakesBy 73 = .ok (.getfield 208, 3) := by decide +kernel
theorem dX12_wakesBy_76 : decode cX12_wakesBy 76 = .ok (.istore 4, 2) := by decide +kernel
theorem dX12_wakesBy_78 : decode cX12_wakesBy 78 = .ok (.iconst 0, 1) := by decide +kernel
theorem dX12_wakesBy_79 : decode cX12_wakesBy 79 = .ok (.bipush 10, 2) := by decide +kernel
theorem dX12_wakesBy_81 : decode cX12_wakesBy 81 = .ok (.iload 4, 2) := by decide +kernel
theorem dX12_wakesBy_83 : decode cX12_wakesBy 83 = .ok (.aload_n 0, 1) := by decide +kernel
theorem dX12_wakesBy_84 : decode cX12_wakesBy 84 = .ok (.iload_n 2, 1) := by decide +kernel
theorem dX12_wakesBy_85 : decode cX12_wakesBy 85 = .ok (.iconst 3, 1) := by decide +kernel
theorem dX12_wakesBy_86 : decode cX12_wakesBy 86 = .ok (.invokevirtual 301, 3) := by decide +kernel
theorem dX12_wakesBy_89 : decode cX12_wakesBy 89 = .ok (.aload_n 0, 1) := by decide +kernel
theorem dX12_wakesBy_90 : decode cX12_wakesBy 90 = .ok (.getfield 37, 3) := by decide +kernel
theorem dX12_wakesBy_93 : decode cX12_wakesBy 93 = .ok (.iconst 2, 1) := by decide +kernel
theorem dX12_wakesBy_94 : decode cX12_wakesBy 94 = .ok (.iaload, 1) := by decide +kernel
theorem dX12_wakesBy_95 : decode cX12_wakesBy 95 = .ok (.imul, 1) := by decide +kernel
theorem dX12_wakesBy_96 : decode cX12_wakesBy 96 = .ok (.iadd, 1) := by decide +kernel
theorem dX12_wakesBy_97 : decode cX12_wakesBy 97 = .ok (.invokestatic 308, 3) := by decide +kernel
theorem dX12_wakesBy_100 : decode cX12_wakesBy 100 = .ok (.invokestatic 310, 3) := by decide +kernel
theorem dX12_wakesBy_103 : decode cX12_wakesBy 103 = .ok (.ireturn, 1) := by decide +kernel
theorem dX12_wakesNow_0 : decode cX12_wakesNow 0 = .ok (.aload_n 0, 1) := by decide +kernel
theorem dX12_wakesNow_1 : decode cX12_wakesNow 1 = .ok (.aload_n 0, 1) := by decide +kernel
theorem dX12_wakesNow_2 : decode cX12_wakesNow 2 = .ok (.iload_n 1, 1) := by decide +kernel
theorem dX12_wakesNow_3 : decode cX12_wakesNow 3 = .ok (.iconst 0, 1) := by decide +kernel
theorem dX12_wakesNow_4 : decode cX12_wakesNow 4 = .ok (.invokevirtual 301, 3) := by decide +kernel
theorem dX12_wakesNow_7 : decode cX12_wakesNow 7 = .ok (.iload_n 1, 1) := by decide +kernel
theorem dX12_wakesNow_8 : decode cX12_wakesNow 8 = .ok (.iload_n 2, 1) := by decide +kernel
theorem dX12_wakesNow_9 : decode cX12_wakesNow 9 = .ok (.invokevirtual 312, 3) := by decide +kernel
theorem dX12_wakesNow_12 : decode cX12_wakesNow 12 = .ok (.ireturn, 1) := by decide +kernel
theorem dX12_pointsBy_0 : decode cX12_pointsBy 0 = .ok (.iload_n 1, 1) := by decide +kernel
theorem dX12_pointsBy_1 : decode cX12_pointsBy 1 = .ok (.iconst (-1), 1) := by decide +kernel
theorem dX12_pointsBy_2 : decode cX12_pointsBy 2 = .ok (.if_icmp .ne 15, 3) := by decide +kernel
theorem dX12_pointsBy_5 : decode cX12_pointsBy 5 = .ok (.iload 5, 2) := by decide +kernel
theorem dX12_pointsBy_7 : decode cX12_pointsBy 7 = .ok (.iconst 1, 1) := by decide +kernel
theorem dX12_pointsBy_8 : decode cX12_pointsBy 8 = .ok (.if_icmp .ne 7, 3) := by decide +kernel
theorem dX12_pointsBy_11 : decode cX12_pointsBy 11 = .ok (.iconst (-1), 1) := by decide +kernel
theorem dX12_pointsBy_12 : decode cX12_pointsBy 12 = .ok (.goto 4, 3) := by decide +kernel
theorem dX12_pointsBy_15 : decode cX12_pointsBy 15 = .ok (.iconst 1, 1) := by decide +kernel
theorem dX12_pointsBy_16 : decode cX12_pointsBy 16 = .ok (.ireturn, 1) := by decide +kernel
theorem dX12_pointsBy_17 : decode cX12_pointsBy 17 = .ok (.aload_n 0, 1) := by decide +kernel
theorem dX12_pointsBy_18 : decode cX12_pointsBy 18 = .ok (.aload_n 0, 1) := by decide +kernel
theorem dX12_pointsBy_19 : decode cX12_pointsBy 19 = .ok (.iload_n 2, 1) := by decide +kernel
theorem dX12_pointsBy_20 : decode cX12_pointsBy 20 = .ok (.iconst 0, 1) := by decide +kernel
theorem dX12_pointsBy_21 : decode cX12_pointsBy 21 = .ok (.invokevirtual 301, 3) := by decide +kernel
theorem dX12_pointsBy_24 : decode cX12_pointsBy 24 = .ok (.iload_n 2, 1) := by decide +kernel
theorem dX12_pointsBy_25 : decode cX12_pointsBy 25 = .ok (.iload_n 3, 1) := by decide +kernel
theorem dX12_pointsBy_26 : decode cX12_pointsBy 26 = .ok (.iload 4, 2) := by decide +kernel
theorem dX12_pointsBy_28 : decode cX12_pointsBy 28 = .ok (.iload 5, 2) := by decide +kernel
theorem dX12_pointsBy_30 : decode cX12_pointsBy 30 = .ok (.invokevirtual 304, 3) := by decide +kernel
theorem dX12_pointsBy_33 : decode cX12_pointsBy 33 = .ok (.aload_n 0, 1) := by decide +kernel
theorem dX12_pointsBy_34 : decode cX12_pointsBy 34 = .ok (.aload_n 0, 1) := by decide +kernel
theorem dX12_pointsBy_35 : decode cX12_pointsBy 35 = .ok (.getfield 13, 3) := by decide +kernel
theorem dX12_pointsBy_38 : decode cX12_pointsBy 38 = .ok (.sipush 240, 3) := by decide +kernel
theorem dX12_pointsBy_41 : decode cX12_pointsBy 41 = .ok (.iload_n 1, 1) := by decide +kernel
theorem dX12_pointsBy_42 : decode cX12_pointsBy 42 = .ok (.imul, 1) := by decide +kernel
theorem dX12_pointsBy_43 : decode cX12_pointsBy 43 = .ok (.aload_n 0, 1) := by decide +kernel
theorem dX12_pointsBy_44 : decode cX12_pointsBy 44 = .ok (.getfield 16, 3) := by decide +kernel
theorem dX12_pointsBy_47 : decode cX12_pointsBy 47 = .ok (.iload_n 1, 1) := by decide +kernel
theorem dX12_pointsBy_48 : decode cX12_pointsBy 48 = .ok (.iaload, 1) := by decide +kernel
theorem dX12_pointsBy_49 : decode cX12_pointsBy 49 = .ok (.bipush 118, 2) := by decide +kernel
theorem dX12_pointsBy_51 : decode cX12_pointsBy 51 = .ok (.invokevirtual 271, 3) := by decide +kernel
theorem dX12_pointsBy_54 : decode cX12_pointsBy 54 = .ok (.bipush (-9), 2) := by decide +kernel
theorem dX12_pointsBy_56 : decode cX12_pointsBy 56 = .ok (.bipush 9, 2) := by decide +kernel
theorem dX12_pointsBy_58 : decode cX12_pointsBy 58 = .ok (.aload_n 0, 1) := by decide +kernel
theorem dX12_pointsBy_59 : decode cX12_pointsBy 59 = .ok (.getfield 208, 3) := by decide +kernel
theorem dX12_pointsBy_62 : decode cX12_pointsBy 62 = .ok (.invokestatic 308, 3) := by decide +kernel
theorem dX12_pointsBy_65 : decode cX12_pointsBy 65 = .ok (.invokestatic 310, 3) := by decide +kernel
theorem dX12_pointsBy_68 : decode cX12_pointsBy 68 = .ok (.ireturn, 1) := by decide +kernel
theorem dX12_page_0 : decode cX12_page 0 = .ok (.aload_n 0, 1) := by decide +kernel
theorem dX12_page_1 : decode cX12_page 1 = .ok (.getfield 55, 3) := by decide +kernel
theorem dX12_page_4 : decode cX12_page 4 = .ok (.bipush 52, 2) := by decide +kernel
theorem dX12_page_6 : decode cX12_page 6 = .ok (.iconst 5, 1) := by decide +kernel
theorem dX12_page_7 : decode cX12_page 7 = .ok (.iload_n 1, 1) := by decide +kernel
theorem dX12_page_8 : decode cX12_page 8 = .ok (.imul, 1) := by decide +kernel
theorem dX12_page_9 : decode cX12_page 9 = .ok (.iadd, 1) := by decide +kernel
theorem dX12_page_10 : decode cX12_page 10 = .ok (.iload_n 2, 1) := by decide +kernel
theorem dX12_page_11 : decode cX12_page 11 = .ok (.iadd, 1) := by decide +kernel
theorem dX12_page_12 : decode cX12_page 12 = .ok (.iaload, 1) := by decide +kernel
theorem dX12_page_13 : decode cX12_page 13 = .ok (.ireturn, 1) := by decide +kernel
theorem dX12_caseBy_0 : decode cX12_caseBy 0 = .ok (.iconst 0, 1) := by decide +kernel
theorem dX12_caseBy_1 : decode cX12_caseBy 1 = .ok (.istore_n 3, 1) := by decide +kernel
theorem dX12_caseBy_2 : decode cX12_caseBy 2 = .ok (.iconst 0, 1) := by decide +kernel
theorem dX12_caseBy_3 : decode cX12_caseBy 3 = .ok (.istore 4, 2) := by decide +kernel
theorem dX12_caseBy_5 : decode cX12_caseBy 5 = .ok (.iload 4, 2) := by decide +kernel
theorem dX12_caseBy_7 : decode cX12_caseBy 7 = .ok (.aload_n 0, 1) := by decide +kernel
theorem dX12_caseBy_8 : decode cX12_caseBy 8 = .ok (.getfield 55, 3) := by decide +kernel
theorem dX12_caseBy_11 : decode cX12_caseBy 11 = .ok (.bipush 51, 2) := by decide +kernel
theorem dX12_caseBy_13 : decode cX12_caseBy 13 = .ok (.iaload, 1) := by decide +kernel
theorem dX12_caseBy_14 : decode cX12_caseBy 14 = .ok (.if_icmp .ge 50, 3) := by decide +kernel
theorem dX12_caseBy_17 : decode cX12_caseBy 17 = .ok (.aload_n 0, 1) := by decide +kernel
theorem dX12_caseBy_18 : decode cX12_caseBy 18 = .ok (.iload 4, 2) := by decide +kernel
theorem dX12_caseBy_20 : decode cX12_caseBy 20 = .ok (.iconst 2, 1) := by decide +kernel
theorem dX12_caseBy_21 : decode cX12_caseBy 21 = .ok (.invokevirtual 316, 3) := by decide +kernel
theorem dX12_caseBy_24 : decode cX12_caseBy 24 = .ok (.iload_n 2, 1) := by decide +kernel
theorem dX12_caseBy_25 : decode cX12_caseBy 25 = .ok (.if_icmp .ne 33, 3) := by decide +kernel
theorem dX12_caseBy_28 : decode cX12_caseBy 28 = .ok (.iload_n 3, 1) := by decide +kernel
theorem dX12_caseBy_29 : decode cX12_caseBy 29 = .ok (.aload_n 0, 1) := by decide +kernel
theorem dX12_caseBy_30 : decode cX12_caseBy 30 = .ok (.iload_n 1, 1) := by decide +kernel
theorem dX12_caseBy_31 : decode cX12_caseBy 31 = .ok (.iload_n 2, 1) := by decide +kernel
theorem dX12_caseBy_32 : decode cX12_caseBy 32 = .ok (.aload_n 0, 1) := by decide +kernel
theorem dX12_caseBy_33 : decode cX12_caseBy 33 = .ok (.iload 4, 2) := by decide +kernel
theorem dX12_caseBy_35 : decode cX12_caseBy 35 = .ok (.iconst 4, 1) := by decide +kernel
theorem dX12_caseBy_36 : decode cX12_caseBy 36 = .ok (.invokevirtual 316, 3) := by decide +kernel
theorem dX12_caseBy_39 : decode cX12_caseBy 39 = .ok (.aload_n 0, 1) := by decide +kernel
theorem dX12_caseBy_40 : decode cX12_caseBy 40 = .ok (.iload 4, 2) := by decide +kernel
theorem dX12_caseBy_42 : decode cX12_caseBy 42 = .ok (.iconst 1, 1) := by decide +kernel
theorem dX12_caseBy_43 : decode cX12_caseBy 43 = .ok (.invokevirtual 316, 3) := by decide +kernel
theorem dX12_caseBy_46 : decode cX12_caseBy 46 = .ok (.aload_n 0, 1) := by decide +kernel
theorem dX12_caseBy_47 : decode cX12_caseBy 47 = .ok (.iload 4, 2) := by decide +kernel
theorem dX12_caseBy_49 : decode cX12_caseBy 49 = .ok (.iconst 3, 1) := by decide +kernel
theorem dX12_caseBy_50 : decode cX12_caseBy 50 = .ok (.invokevirtual 316, 3) := by decide +kernel
theorem dX12_caseBy_53 : decode cX12_caseBy 53 = .ok (.invokevirtual 319, 3) := by decide +kernel
theorem dX12_caseBy_56 : decode cX12_caseBy 56 = .ok (.iadd, 1) := by decide +kernel
theorem dX12_caseBy_57 : decode cX12_caseBy 57 = .ok (.istore_n 3, 1) := by decide +kernel
theorem dX12_caseBy_58 : decode cX12_caseBy 58 = .ok (.iinc 4 1, 3) := by decide +kernel
theorem dX12_caseBy_61 : decode cX12_caseBy 61 = .ok (.goto (-56), 3) := by decide +kernel
theorem dX12_caseBy_64 : decode cX12_caseBy 64 = .ok (.iload_n 3, 1) := by decide +kernel
theorem dX12_caseBy_65 : decode cX12_caseBy 65 = .ok (.ireturn, 1) := by decide +kernel
theorem dX12_caseOf_0 : decode cX12_caseOf 0 = .ok (.aload_n 0, 1) := by decide +kernel
theorem dX12_caseOf_1 : decode cX12_caseOf 1 = .ok (.aload_n 0, 1) := by decide +kernel
theorem dX12_caseOf_2 : decode cX12_caseOf 2 = .ok (.getfield 58, 3) := by decide +kernel
theorem dX12_caseOf_5 : decode cX12_caseOf 5 = .ok (.iload_n 1, 1) := by decide +kernel
theorem dX12_caseOf_6 : decode cX12_caseOf 6 = .ok (.invokevirtual 323, 3) := by decide +kernel
theorem dX12_caseOf_9 : decode cX12_caseOf 9 = .ok (.ireturn, 1) := by decide +kernel
theorem dX12_pagesOf_0 : decode cX12_pagesOf 0 = .ok (.iconst 0, 1) := by decide +kernel
theorem dX12_pagesOf_1 : decode cX12_pagesOf 1 = .ok (.istore_n 2, 1) := by decide +kernel
theorem dX12_pagesOf_2 : decode cX12_pagesOf 2 = .ok (.iconst 0, 1) := by decide +kernel
theorem dX12_pagesOf_3 : decode cX12_pagesOf 3 = .ok (.istore_n 3, 1) := by decide +kernel
theorem dX12_pagesOf_4 : decode cX12_pagesOf 4 = .ok (.iload_n 3, 1) := by decide +kernel
theorem dX12_pagesOf_5 : decode cX12_pagesOf 5 = .ok (.aload_n 0, 1) := by decide +kernel
theorem dX12_pagesOf_6 : decode cX12_pagesOf 6 = .ok (.getfield 55, 3) := by decide +kernel
theorem dX12_pagesOf_9 : decode cX12_pagesOf 9 = .ok (.bipush 51, 2) := by decide +kernel
theorem dX12_pagesOf_11 : decode cX12_pagesOf 11 = .ok (.iaload, 1) := by decide +kernel
theorem dX12_pagesOf_12 : decode cX12_pagesOf 12 = .ok (.if_icmp .ge 27, 3) := by decide +kernel
theorem dX12_pagesOf_15 : decode cX12_pagesOf 15 = .ok (.iload_n 2, 1) := by decide +kernel
theorem dX12_pagesOf_16 : decode cX12_pagesOf 16 = .ok (.aload_n 0, 1) := by decide +kernel
theorem dX12_pagesOf_17 : decode cX12_pagesOf 17 = .ok (.iload_n 3, 1) := by decide +kernel
theorem dX12_pagesOf_18 : decode cX12_pagesOf 18 = .ok (.iconst 2, 1) := by decide +kernel
theorem dX12_pagesOf_19 : decode cX12_pagesOf 19 = .ok (.invokevirtual 316, 3) := by decide +kernel
theorem dX12_pagesOf_22 : decode cX12_pagesOf 22 = .ok (.iload_n 1, 1) := by decide +kernel
theorem dX12_pagesOf_23 : decode cX12_pagesOf 23 = .ok (.if_icmp .ne 7, 3) := by decide +kernel
theorem dX12_pagesOf_26 : decode cX12_pagesOf 26 = .ok (.iconst 1, 1) := by decide +kernel
theorem dX12_pagesOf_27 : decode cX12_pagesOf 27 = .ok (.goto 4, 3) := by decide +kernel
theorem dX12_pagesOf_30 : decode cX12_pagesOf 30 = .ok (.iconst 0, 1) := by decide +kernel
theorem dX12_pagesOf_31 : decode cX12_pagesOf 31 = .ok (.iadd, 1) := by decide +kernel
theorem dX12_pagesOf_32 : decode cX12_pagesOf 32 = .ok (.istore_n 2, 1) := by decide +kernel
theorem dX12_pagesOf_33 : decode cX12_pagesOf 33 = .ok (.iinc 3 1, 3) := by decide +kernel
theorem dX12_pagesOf_36 : decode cX12_pagesOf 36 = .ok (.goto (-32), 3) := by decide +kernel
theorem dX12_pagesOf_39 : decode cX12_pagesOf 39 = .ok (.iload_n 2, 1) := by decide +kernel
theorem dX12_pagesOf_40 : decode cX12_pagesOf 40 = .ok (.ireturn, 1) := by decide +kernel
theorem dX12_watchedBy_0 : decode cX12_watchedBy 0 = .ok (.iload_n 1, 1) := by decide +kernel
theorem dX12_watchedBy_1 : decode cX12_watchedBy 1 = .ok (.iconst (-1), 1) := by decide +kernel
theorem dX12_watchedBy_2 : decode cX12_watchedBy 2 = .ok (.if_icmp .eq 13, 3) := by decide +kernel
theorem dX12_watchedBy_5 : decode cX12_watchedBy 5 = .ok (.iload_n 2, 1) := by decide +kernel
theorem dX12_watchedBy_6 : decode cX12_watchedBy 6 = .ok (.aload_n 0, 1) := by decide +kernel
theorem dX12_watchedBy_7 : decode cX12_watchedBy 7 = .ok (.getfield 52, 3) := by decide +kernel
theorem dX12_watchedBy_10 : decode cX12_watchedBy 10 = .ok (.iload_n 1, 1) := by decide +kernel
theorem dX12_watchedBy_11 : decode cX12_watchedBy 11 = .ok (.iaload, 1) := by decide +kernel
theorem dX12_watchedBy_12 : decode cX12_watchedBy 12 = .ok (.if_icmp .lt 5, 3) := by decide +kernel
theorem dX12_watchedBy_15 : decode cX12_watchedBy 15 = .ok (.iconst (-1), 1) := by decide +kernel
theorem dX12_watchedBy_16 : decode cX12_watchedBy 16 = .ok (.ireturn, 1) := by decide +kernel
theorem dX12_watchedBy_17 : decode cX12_watchedBy 17 = .ok (.aload_n 0, 1) := by decide +kernel
theorem dX12_watchedBy_18 : decode cX12_watchedBy 18 = .ok (.getfield 49, 3) := by decide +kernel
theorem dX12_watchedBy_21 : decode cX12_watchedBy 21 = .ok (.bipush 9, 2) := by decide +kernel
theorem dX12_watchedBy_23 : decode cX12_watchedBy 23 = .ok (.iload_n 1, 1) := by decide +kernel
theorem dX12_watchedBy_24 : decode cX12_watchedBy 24 = .ok (.imul, 1) := by decide +kernel
theorem dX12_watchedBy_25 : decode cX12_watchedBy 25 = .ok (.iload_n 2, 1) := by decide +kernel
theorem dX12_watchedBy_26 : decode cX12_watchedBy 26 = .ok (.iadd, 1) := by decide +kernel
theorem dX12_watchedBy_27 : decode cX12_watchedBy 27 = .ok (.iaload, 1) := by decide +kernel
theorem dX12_watchedBy_28 : decode cX12_watchedBy 28 = .ok (.istore_n 3, 1) := by decide +kernel
theorem dX12_watchedBy_29 : decode cX12_watchedBy 29 = .ok (.iload_n 3, 1) := by decide +kernel
theorem dX12_watchedBy_30 : decode cX12_watchedBy 30 = .ok (.bipush 9, 2) := by decide +kernel
theorem dX12_watchedBy_32 : decode cX12_watchedBy 32 = .ok (.if_icmp .ne 7, 3) := by decide +kernel
theorem dX12_watchedBy_35 : decode cX12_watchedBy 35 = .ok (.iconst (-1), 1) := by decide +kernel
theorem dX12_watchedBy_36 : decode cX12_watchedBy 36 = .ok (.goto 4, 3) := by decide +kernel
theorem dX12_watchedBy_39 : decode cX12_watchedBy 39 = .ok (.iload_n 3, 1) := by decide +kernel
theorem dX12_watchedBy_40 : decode cX12_watchedBy 40 = .ok (.ireturn, 1) := by decide +kernel
theorem dX12_draw_0 : decode cX12_draw 0 = .ok (.aload_n 0, 1) := by decide +kernel
theorem dX12_draw_1 : decode cX12_draw 1 = .ok (.aload_n 0, 1) := by decide +kernel
theorem dX12_draw_2 : decode cX12_draw 2 = .ok (.getfield 326, 3) := by decide +kernel
theorem dX12_draw_5 : decode cX12_draw 5 = .ok (.ldc2_w 330, 3) := by decide +kernel
theorem dX12_draw_8 : decode cX12_draw 8 = .ok (.lmul, 1) := by decide +kernel
theorem dX12_draw_9 : decode cX12_draw 9 = .ok (.ldc2_w 332, 3) := by decide +kernel
theorem dX12_draw_12 : decode cX12_draw 12 = .ok (.ladd, 1) := by decide +kernel
theorem dX12_draw_13 : decode cX12_draw 13 = .ok (.putfield 326, 3) := by decide +kernel
theorem dX12_draw_16 : decode cX12_draw 16 = .ok (.aload_n 0, 1) := by decide +kernel
theorem dX12_draw_17 : decode cX12_draw 17 = .ok (.getfield 326, 3) := by decide +kernel
theorem dX12_draw_20 : decode cX12_draw 20 = .ok (.bipush 33, 2) := by decide +kernel
theorem dX12_draw_22 : decode cX12_draw 22 = .ok (.lushr, 1) := by decide +kernel
theorem dX12_draw_23 : decode cX12_draw 23 = .ok (.iload_n 1, 1) := by decide +kernel
theorem dX12_draw_24 : decode cX12_draw 24 = .ok (.i2l, 1) := by decide +kernel
theorem dX12_draw_25 : decode cX12_draw 25 = .ok (.lrem, 1) := by decide +kernel
theorem dX12_draw_26 : decode cX12_draw 26 = .ok (.l2i, 1) := by decide +kernel
theorem dX12_draw_27 : decode cX12_draw 27 = .ok (.ireturn, 1) := by decide +kernel
theorem dX12_write_0 : decode cX12_write 0 = .ok (.aload_n 0, 1) := by decide +kernel
theorem dX12_write_1 : decode cX12_write 1 = .ok (.getfield 55, 3) := by decide +kernel
theorem dX12_write_4 : decode cX12_write 4 = .ok (.bipush 51, 2) := by decide +kernel
theorem dX12_write_6 : decode cX12_write 6 = .ok (.iaload, 1) := by decide +kernel
theorem dX12_write_7 : decode cX12_write 7 = .ok (.bipush 60, 2) := by decide +kernel
theorem dX12_write_9 : decode cX12_write 9 = .ok (.if_icmp .ne 53, 3) := by decide +kernel
theorem dX12_write_12 : decode cX12_write 12 = .ok (.iconst 1, 1) := by decide +kernel
theorem dX12_write_13 : decode cX12_write 13 = .ok (.istore 4, 2) := by decide +kernel
theorem dX12_write_15 : decode cX12_write 15 = .ok (.iload 4, 2) := by decide +kernel
theorem dX12_write_17 : decode cX12_write 17 = .ok (.sipush 295, 3) := by decide +kernel
theorem dX12_write_20 : decode cX12_write 20 = .ok (.if_icmp .gt 31, 3) := by decide +kernel
theorem dX12_write_23 : decode cX12_write 23 = .ok (.aload_n 0, 1) := by decide +kernel
theorem dX12_write_24 : decode cX12_write 24 = .ok (.getfield 55, 3) := by decide +kernel
theorem dX12_write_27 : decode cX12_write 27 = .ok (.bipush 51, 2) := by decide +kernel
theorem dX12_write_29 : decode cX12_write 29 = .ok (.iload 4, 2) := by decide +kernel
theorem dX12_write_31 : decode cX12_write 31 = .ok (.iadd, 1) := by decide +kernel
theorem dX12_write_32 : decode cX12_write 32 = .ok (.aload_n 0, 1) := by decide +kernel
theorem dX12_write_33 : decode cX12_write 33 = .ok (.getfield 55, 3) := by decide +kernel
theorem dX12_write_36 : decode cX12_write 36 = .ok (.bipush 51, 2) := by decide +kernel
theorem dX12_write_38 : decode cX12_write 38 = .ok (.iload 4, 2) := by decide +kernel
theorem dX12_write_40 : decode cX12_write 40 = .ok (.iadd, 1) := by decide +kernel
theorem dX12_write_41 : decode cX12_write 41 = .ok (.iconst 5, 1) := by decide +kernel
theorem dX12_write_42 : decode cX12_write 42 = .ok (.iadd, 1) := by decide +kernel
theorem dX12_write_43 : decode cX12_write 43 = .ok (.iaload, 1) := by decide +kernel
theorem dX12_write_44 : decode cX12_write 44 = .ok (.iastore, 1) := by decide +kernel
theorem dX12_write_45 : decode cX12_write 45 = .ok (.iinc 4 1, 3) := by decide +kernel
theorem dX12_write_48 : decode cX12_write 48 = .ok (.goto (-33), 3) := by decide +kernel
theorem dX12_write_51 : decode cX12_write 51 = .ok (.aload_n 0, 1) := by decide +kernel
theorem dX12_write_52 : decode cX12_write 52 = .ok (.getfield 55, 3) := by decide +kernel
theorem dX12_write_55 : decode cX12_write 55 = .ok (.bipush 51, 2) := by decide +kernel
theorem dX12_write_57 : decode cX12_write 57 = .ok (.dup2, 1) := by decide +kernel
theorem dX12_write_58 : decode cX12_write 58 = .ok (.iaload, 1) := by decide +kernel
theorem dX12_write_59 : decode cX12_write 59 = .ok (.iconst 1, 1) := by decide +kernel
theorem dX12_write_60 : decode cX12_write 60 = .ok (.isub, 1) := by decide +kernel
theorem dX12_write_61 : decode cX12_write 61 = .ok (.iastore, 1) := by decide +kernel
theorem dX12_write_62 : decode cX12_write 62 = .ok (.bipush 52, 2) := by decide +kernel
theorem dX12_write_64 : decode cX12_write 64 = .ok (.iconst 5, 1) := by decide +kernel
theorem dX12_write_65 : decode cX12_write 65 = .ok (.aload_n 0, 1) := by decide +kernel
theorem dX12_write_66 : decode cX12_write 66 = .ok (.getfield 55, 3) := by decide +kernel
theorem dX12_write_69 : decode cX12_write 69 = .ok (.bipush 51, 2) := by decide +kernel
theorem dX12_write_71 : decode cX12_write 71 = .ok (.iaload, 1) := by decide +kernel
theorem dX12_write_72 : decode cX12_write 72 = .ok (.imul, 1) := by decide +kernel
theorem dX12_write_73 : decode cX12_write 73 = .ok (.iadd, 1) := by decide +kernel
theorem dX12_write_74 : decode cX12_write 74 = .ok (.istore 4, 2) := by decide +kernel
theorem dX12_write_76 : decode cX12_write 76 = .ok (.aload_n 0, 1) := by decide +kernel
theorem dX12_write_77 : decode cX12_write 77 = .ok (.getfield 55, 3) := by decide +kernel
theorem dX12_write_80 : decode cX12_write 80 = .ok (.iload 4, 2) := by decide +kernel
theorem dX12_write_82 : decode cX12_write 82 = .ok (.aload_n 0, 1) := by decide +kernel
theorem dX12_write_83 : decode cX12_write 83 = .ok (.getfield 55, 3) := by decide +kernel
theorem dX12_write_86 : decode cX12_write 86 = .ok (.bipush 48, 2) := by decide +kernel
theorem dX12_write_88 : decode cX12_write 88 = .ok (.iaload, 1) := by decide +kernel
theorem dX12_write_89 : decode cX12_write 89 = .ok (.iastore, 1) := by decide +kernel
theorem dX12_write_90 : decode cX12_write 90 = .ok (.aload_n 0, 1) := by decide +kernel
theorem dX12_write_91 : decode cX12_write 91 = .ok (.getfield 55, 3) := by decide +kernel
theorem dX12_write_94 : decode cX12_write 94 = .ok (.iload 4, 2) := by decide +kernel
theorem dX12_write_96 : decode cX12_write 96 = .ok (.iconst 1, 1) := by decide +kernel
theorem dX12_write_97 : decode cX12_write 97 = .ok (.iadd, 1) := by decide +kernel
theorem dX12_write_98 : decode cX12_write 98 = .ok (.iload_n 1, 1) := by decide +kernel
theorem dX12_write_99 : decode cX12_write 99 = .ok (.iastore, 1) := by decide +kernel
theorem dX12_write_100 : decode cX12_write 100 = .ok (.aload_n 0, 1) := by decide +kernel
theorem dX12_write_101 : decode cX12_write 101 = .ok (.getfield 55, 3) := by decide +kernel
theorem dX12_write_104 : decode cX12_write 104 = .ok (.iload 4, 2) := by decide +kernel
theorem dX12_write_106 : decode cX12_write 106 = .ok (.iconst 2, 1) := by decide +kernel
theorem dX12_write_107 : decode cX12_write 107 = .ok (.iadd, 1) := by decide +kernel
theorem dX12_write_108 : decode cX12_write 108 = .ok (.iload_n 2, 1) := by decide +kernel
theorem dX12_write_109 : decode cX12_write 109 = .ok (.iastore, 1) := by decide +kernel
theorem dX12_write_110 : decode cX12_write 110 = .ok (.aload_n 0, 1) := by decide +kernel
theorem dX12_write_111 : decode cX12_write 111 = .ok (.getfield 55, 3) := by decide +kernel
theorem dX12_write_114 : decode cX12_write 114 = .ok (.iload 4, 2) := by decide +kernel
theorem dX12_write_116 : decode cX12_write 116 = .ok (.iconst 3, 1) := by decide +kernel
theorem dX12_write_117 : decode cX12_write 117 = .ok (.iadd, 1) := by decide +kernel
theorem dX12_write_118 : decode cX12_write 118 = .ok (.iload_n 3, 1) := by decide +kernel
theorem dX12_write_119 : decode cX12_write 119 = .ok (.iastore, 1) := by decide +kernel
theorem dX12_write_120 : decode cX12_write 120 = .ok (.aload_n 0, 1) := by decide +kernel
theorem dX12_write_121 : decode cX12_write 121 = .ok (.getfield 55, 3) := by decide +kernel
theorem dX12_write_124 : decode cX12_write 124 = .ok (.iload 4, 2) := by decide +kernel
theorem dX12_write_126 : decode cX12_write 126 = .ok (.iconst 4, 1) := by decide +kernel
theorem dX12_write_127 : decode cX12_write 127 = .ok (.iadd, 1) := by decide +kernel
theorem dX12_write_128 : decode cX12_write 128 = .ok (.aload_n 0, 1) := by decide +kernel
theorem dX12_write_129 : decode cX12_write 129 = .ok (.iload_n 2, 1) := by decide +kernel
theorem dX12_write_130 : decode cX12_write 130 = .ok (.iconst 2, 1) := by decide +kernel
theorem dX12_write_131 : decode cX12_write 131 = .ok (.invokevirtual 301, 3) := by decide +kernel
theorem dX12_write_134 : decode cX12_write 134 = .ok (.iastore, 1) := by decide +kernel
theorem dX12_write_135 : decode cX12_write 135 = .ok (.aload_n 0, 1) := by decide +kernel
theorem dX12_write_136 : decode cX12_write 136 = .ok (.getfield 55, 3) := by decide +kernel
theorem dX12_write_139 : decode cX12_write 139 = .ok (.bipush 51, 2) := by decide +kernel
theorem dX12_write_141 : decode cX12_write 141 = .ok (.dup2, 1) := by decide +kernel
theorem dX12_write_142 : decode cX12_write 142 = .ok (.iaload, 1) := by decide +kernel
theorem dX12_write_143 : decode cX12_write 143 = .ok (.iconst 1, 1) := by decide +kernel
theorem dX12_write_144 : decode cX12_write 144 = .ok (.iadd, 1) := by decide +kernel
theorem dX12_write_145 : decode cX12_write 145 = .ok (.iastore, 1) := by decide +kernel
theorem dX12_write_146 : decode cX12_write 146 = .ok (.return_, 1) := by decide +kernel
theorem dX12_goNight_0 : decode cX12_goNight 0 = .ok (.iconst 0, 1) := by decide +kernel
theorem dX12_goNight_1 : decode cX12_goNight 1 = .ok (.istore_n 1, 1) := by decide +kernel
theorem dX12_goNight_2 : decode cX12_goNight 2 = .ok (.iload_n 1, 1) := by decide +kernel
theorem dX12_goNight_3 : decode cX12_goNight 3 = .ok (.aload_n 0, 1) := by decide +kernel
theorem dX12_goNight_4 : decode cX12_goNight 4 = .ok (.getfield 286, 3) := by decide +kernel
theorem dX12_goNight_7 : decode cX12_goNight 7 = .ok (.if_icmp .ge 16, 3) := by decide +kernel
theorem dX12_goNight_10 : decode cX12_goNight 10 = .ok (.aload_n 0, 1) := by decide +kernel
theorem dX12_goNight_11 : decode cX12_goNight 11 = .ok (.getfield 65, 3) := by decide +kernel
theorem dX12_goNight_14 : decode cX12_goNight 14 = .ok (.iload_n 1, 1) := by decide +kernel
theorem dX12_goNight_15 : decode cX12_goNight 15 = .ok (.iconst 0, 1) := by decide +kernel
theorem dX12_goNight_16 : decode cX12_goNight 16 = .ok (.iastore, 1) := by decide +kernel
theorem dX12_goNight_17 : decode cX12_goNight 17 = .ok (.iinc 1 1, 3) := by decide +kernel
theorem dX12_goNight_20 : decode cX12_goNight 20 = .ok (.goto (-18), 3) := by decide +kernel
theorem dX12_goNight_23 : decode cX12_goNight 23 = .ok (.iconst 0, 1) := by decide +kernel
theorem dX12_goNight_24 : decode cX12_goNight 24 = .ok (.istore_n 1, 1) := by decide +kernel
theorem dX12_goNight_25 : decode cX12_goNight 25 = .ok (.iload_n 1, 1) := by decide +kernel
theorem dX12_goNight_26 : decode cX12_goNight 26 = .ok (.aload_n 0, 1) := by decide +kernel
theorem dX12_goNight_27 : decode cX12_goNight 27 = .ok (.getfield 37, 3) := by decide +kernel
theorem dX12_goNight_30 : decode cX12_goNight 30 = .ok (.iconst 0, 1) := by decide +kernel
theorem dX12_goNight_31 : decode cX12_goNight 31 = .ok (.iaload, 1) := by decide +kernel
theorem dX12_goNight_32 : decode cX12_goNight 32 = .ok (.if_icmp .ge 116, 3) := by decide +kernel
theorem dX12_goNight_35 : decode cX12_goNight 35 = .ok (.aload_n 0, 1) := by decide +kernel
theorem dX12_goNight_36 : decode cX12_goNight 36 = .ok (.aload_n 0, 1) := by decide +kernel
theorem dX12_goNight_37 : decode cX12_goNight 37 = .ok (.getfield 62, 3) := by decide +kernel
theorem dX12_goNight_40 : decode cX12_goNight 40 = .ok (.iload_n 1, 1) := by decide +kernel
theorem dX12_goNight_41 : decode cX12_goNight 41 = .ok (.invokevirtual 334, 3) := by decide +kernel
theorem dX12_goNight_44 : decode cX12_goNight 44 = .ok (.istore_n 2, 1) := by decide +kernel
theorem dX12_goNight_45 : decode cX12_goNight 45 = .ok (.iconst 0, 1) := by decide +kernel
theorem dX12_goNight_46 : decode cX12_goNight 46 = .ok (.istore_n 3, 1) := by decide +kernel
theorem dX12_goNight_47 : decode cX12_goNight 47 = .ok (.iload_n 3, 1) := by decide +kernel
theorem dX12_goNight_48 : decode cX12_goNight 48 = .ok (.aload_n 0, 1) := by decide +kernel
theorem dX12_goNight_49 : decode cX12_goNight 49 = .ok (.getfield 286, 3) := by decide +kernel
theorem dX12_goNight_52 : decode cX12_goNight 52 = .ok (.if_icmp .ge 90, 3) := by decide +kernel
theorem dX12_goNight_55 : decode cX12_goNight 55 = .ok (.aload_n 0, 1) := by decide +kernel
theorem dX12_goNight_56 : decode cX12_goNight 56 = .ok (.bipush 10, 2) := by decide +kernel
theorem dX12_goNight_58 : decode cX12_goNight 58 = .ok (.invokevirtual 337, 3) := by decide +kernel
theorem dX12_goNight_61 : decode cX12_goNight 61 = .ok (.aload_n 0, 1) := by decide +kernel
theorem dX12_goNight_62 : decode cX12_goNight 62 = .ok (.iload_n 3, 1) := by decide +kernel
theorem dX12_goNight_63 : decode cX12_goNight 63 = .ok (.iload_n 1, 1) := by decide +kernel
theorem dX12_goNight_64 : decode cX12_goNight 64 = .ok (.invokevirtual 340, 3) := by decide +kernel
theorem dX12_goNight_67 : decode cX12_goNight 67 = .ok (.if_icmp .ge 7, 3) := by decide +kernel
theorem dX12_goNight_70 : decode cX12_goNight 70 = .ok (.iconst 1, 1) := by decide +kernel
theorem dX12_goNight_71 : decode cX12_goNight 71 = .ok (.goto 4, 3) := by decide +kernel
theorem dX12_goNight_74 : decode cX12_goNight 74 = .ok (.iconst 0, 1) := by decide +kernel
theorem dX12_goNight_75 : decode cX12_goNight 75 = .ok (.istore 4, 2) := by decide +kernel
theorem dX12_goNight_77 : decode cX12_goNight 77 = .ok (.aload_n 0, 1) := by decide +kernel
theorem dX12_goNight_78 : decode cX12_goNight 78 = .ok (.getfield 65, 3) := by decide +kernel
theorem dX12_goNight_81 : decode cX12_goNight 81 = .ok (.iload_n 3, 1) := by decide +kernel
theorem dX12_goNight_82 : decode cX12_goNight 82 = .ok (.dup2, 1) := by decide +kernel
theorem dX12_goNight_83 : decode cX12_goNight 83 = .ok (.iaload, 1) := by decide +kernel
theorem dX12_goNight_84 : decode cX12_goNight 84 = .ok (.iload 4, 2) := by decide +kernel
theorem dX12_goNight_86 : decode cX12_goNight 86 = .ok (.ifCond .eq 7, 3) := by decide +kernel
theorem dX12_goNight_89 : decode cX12_goNight 89 = .ok (.iconst 1, 1) := by decide +kernel
theorem dX12_goNight_90 : decode cX12_goNight 90 = .ok (.goto 4, 3) := by decide +kernel
theorem dX12_goNight_93 : decode cX12_goNight 93 = .ok (.iconst 0, 1) := by decide +kernel
theorem dX12_goNight_94 : decode cX12_goNight 94 = .ok (.iadd, 1) := by decide +kernel
theorem dX12_goNight_95 : decode cX12_goNight 95 = .ok (.iastore, 1) := by decide +kernel
theorem dX12_goNight_96 : decode cX12_goNight 96 = .ok (.iload_n 3, 1) := by decide +kernel
theorem dX12_goNight_97 : decode cX12_goNight 97 = .ok (.iload_n 2, 1) := by decide +kernel
theorem dX12_goNight_98 : decode cX12_goNight 98 = .ok (.if_icmp .ne 38, 3) := by decide +kernel
theorem dX12_goNight_101 : decode cX12_goNight 101 = .ok (.aload_n 0, 1) := by decide +kernel
theorem dX12_goNight_102 : decode cX12_goNight 102 = .ok (.iload_n 3, 1) := by decide +kernel
theorem dX12_goNight_103 : decode cX12_goNight 103 = .ok (.iconst 5, 1) := by decide +kernel
theorem dX12_goNight_104 : decode cX12_goNight 104 = .ok (.invokevirtual 301, 3) := by decide +kernel
theorem dX12_goNight_107 : decode cX12_goNight 107 = .ok (.ifCond .ne 29, 3) := by decide +kernel
theorem dX12_goNight_110 : decode cX12_goNight 110 = .ok (.aload_n 0, 1) := by decide +kernel
theorem dX12_goNight_111 : decode cX12_goNight 111 = .ok (.iload_n 1, 1) := by decide +kernel
theorem dX12_goNight_112 : decode cX12_goNight 112 = .ok (.iload_n 3, 1) := by decide +kernel
theorem dX12_goNight_113 : decode cX12_goNight 113 = .ok (.iload 4, 2) := by decide +kernel
theorem dX12_goNight_115 : decode cX12_goNight 115 = .ok (.ifCond .ne 13, 3) := by decide +kernel
theorem dX12_goNight_118 : decode cX12_goNight 118 = .ok (.aload_n 0, 1) := by decide +kernel
theorem dX12_goNight_119 : decode cX12_goNight 119 = .ok (.iload_n 3, 1) := by decide +kernel
theorem dX12_goNight_120 : decode cX12_goNight 120 = .ok (.iconst 4, 1) := by decide +kernel
theorem dX12_goNight_121 : decode cX12_goNight 121 = .ok (.invokevirtual 301, 3) := by decide +kernel
theorem dX12_goNight_124 : decode cX12_goNight 124 = .ok (.iconst 1, 1) := by decide +kernel
theorem dX12_goNight_125 : decode cX12_goNight 125 = .ok (.if_icmp .ne 7, 3) := by decide +kernel
theorem dX12_goNight_128 : decode cX12_goNight 128 = .ok (.iconst 1, 1) := by decide +kernel
theorem dX12_goNight_129 : decode cX12_goNight 129 = .ok (.goto 4, 3) := by decide +kernel
theorem dX12_goNight_132 : decode cX12_goNight 132 = .ok (.iconst 0, 1) := by decide +kernel
theorem dX12_goNight_133 : decode cX12_goNight 133 = .ok (.invokevirtual 343, 3) := by decide +kernel
theorem dX12_goNight_136 : decode cX12_goNight 136 = .ok (.iinc 3 1, 3) := by decide +kernel
theorem dX12_goNight_139 : decode cX12_goNight 139 = .ok (.goto (-92), 3) := by decide +kernel
theorem dX12_goNight_142 : decode cX12_goNight 142 = .ok (.iinc 1 1, 3) := by decide +kernel
theorem dX12_goNight_145 : decode cX12_goNight 145 = .ok (.goto (-120), 3) := by decide +kernel
theorem dX12_goNight_148 : decode cX12_goNight 148 = .ok (.iconst 0, 1) := by decide +kernel
theorem dX12_goNight_149 : decode cX12_goNight 149 = .ok (.istore_n 1, 1) := by decide +kernel
theorem dX12_goNight_150 : decode cX12_goNight 150 = .ok (.iload_n 1, 1) := by decide +kernel
theorem dX12_goNight_151 : decode cX12_goNight 151 = .ok (.aload_n 0, 1) := by decide +kernel
theorem dX12_goNight_152 : decode cX12_goNight 152 = .ok (.getfield 286, 3) := by decide +kernel
theorem dX12_goNight_155 : decode cX12_goNight 155 = .ok (.if_icmp .ge 55, 3) := by decide +kernel
theorem dX12_goNight_158 : decode cX12_goNight 158 = .ok (.aload_n 0, 1) := by decide +kernel
theorem dX12_goNight_159 : decode cX12_goNight 159 = .ok (.getfield 55, 3) := by decide +kernel
theorem dX12_goNight_162 : decode cX12_goNight 162 = .ok (.bipush 6, 2) := by decide +kernel
theorem dX12_goNight_164 : decode cX12_goNight 164 = .ok (.iload_n 1, 1) := by decide +kernel
theorem dX12_goNight_165 : decode cX12_goNight 165 = .ok (.imul, 1) := by decide +kernel
theorem dX12_goNight_166 : decode cX12_goNight 166 = .ok (.iconst 2, 1) := by decide +kernel
theorem dX12_goNight_167 : decode cX12_goNight 167 = .ok (.iadd, 1) := by decide +kernel
theorem dX12_goNight_168 : decode cX12_goNight 168 = .ok (.bipush 9, 2) := by decide +kernel
theorem dX12_goNight_170 : decode cX12_goNight 170 = .ok (.aload_n 0, 1) := by decide +kernel
theorem dX12_goNight_171 : decode cX12_goNight 171 = .ok (.getfield 65, 3) := by decide +kernel
theorem dX12_goNight_174 : decode cX12_goNight 174 = .ok (.iload_n 1, 1) := by decide +kernel
theorem dX12_goNight_175 : decode cX12_goNight 175 = .ok (.iaload, 1) := by decide +kernel
theorem dX12_goNight_176 : decode cX12_goNight 176 = .ok (.invokestatic 308, 3) := by decide +kernel
theorem dX12_goNight_179 : decode cX12_goNight 179 = .ok (.iastore, 1) := by decide +kernel
theorem dX12_goNight_180 : decode cX12_goNight 180 = .ok (.aload_n 0, 1) := by decide +kernel
theorem dX12_goNight_181 : decode cX12_goNight 181 = .ok (.getfield 55, 3) := by decide +kernel
theorem dX12_goNight_184 : decode cX12_goNight 184 = .ok (.bipush 6, 2) := by decide +kernel
theorem dX12_goNight_186 : decode cX12_goNight 186 = .ok (.iload_n 1, 1) := by decide +kernel
theorem dX12_goNight_187 : decode cX12_goNight 187 = .ok (.imul, 1) := by decide +kernel
theorem dX12_goNight_188 : decode cX12_goNight 188 = .ok (.iconst 3, 1) := by decide +kernel
theorem dX12_goNight_189 : decode cX12_goNight 189 = .ok (.iadd, 1) := by decide +kernel
theorem dX12_goNight_190 : decode cX12_goNight 190 = .ok (.iconst 0, 1) := by decide +kernel
theorem dX12_goNight_191 : decode cX12_goNight 191 = .ok (.iastore, 1) := by decide +kernel
theorem dX12_goNight_192 : decode cX12_goNight 192 = .ok (.aload_n 0, 1) := by decide +kernel
theorem dX12_goNight_193 : decode cX12_goNight 193 = .ok (.getfield 55, 3) := by decide +kernel
theorem dX12_goNight_196 : decode cX12_goNight 196 = .ok (.bipush 6, 2) := by decide +kernel
theorem dX12_goNight_198 : decode cX12_goNight 198 = .ok (.iload_n 1, 1) := by decide +kernel
theorem dX12_goNight_199 : decode cX12_goNight 199 = .ok (.imul, 1) := by decide +kernel
theorem dX12_goNight_200 : decode cX12_goNight 200 = .ok (.iconst 4, 1) := by decide +kernel
theorem dX12_goNight_201 : decode cX12_goNight 201 = .ok (.iadd, 1) := by decide +kernel
theorem dX12_goNight_202 : decode cX12_goNight 202 = .ok (.iconst 0, 1) := by decide +kernel
theorem dX12_goNight_203 : decode cX12_goNight 203 = .ok (.iastore, 1) := by decide +kernel
theorem dX12_goNight_204 : decode cX12_goNight 204 = .ok (.iinc 1 1, 3) := by decide +kernel
theorem dX12_goNight_207 : decode cX12_goNight 207 = .ok (.goto (-57), 3) := by decide +kernel
theorem dX12_goNight_210 : decode cX12_goNight 210 = .ok (.aload_n 0, 1) := by decide +kernel
theorem dX12_goNight_211 : decode cX12_goNight 211 = .ok (.getfield 55, 3) := by decide +kernel
theorem dX12_goNight_214 : decode cX12_goNight 214 = .ok (.bipush 48, 2) := by decide +kernel
theorem dX12_goNight_216 : decode cX12_goNight 216 = .ok (.dup2, 1) := by decide +kernel
theorem dX12_goNight_217 : decode cX12_goNight 217 = .ok (.iaload, 1) := by decide +kernel
theorem dX12_goNight_218 : decode cX12_goNight 218 = .ok (.iconst 1, 1) := by decide +kernel
theorem dX12_goNight_219 : decode cX12_goNight 219 = .ok (.iadd, 1) := by decide +kernel
theorem dX12_goNight_220 : decode cX12_goNight 220 = .ok (.iastore, 1) := by decide +kernel
theorem dX12_goNight_221 : decode cX12_goNight 221 = .ok (.return_, 1) := by decide +kernel
theorem dX12_rule_0 : decode cX12_rule 0 = .ok (.aload_n 0, 1) := by decide +kernel
theorem dX12_rule_1 : decode cX12_rule 1 = .ok (.iconst 0, 1) := by decide +kernel
theorem dX12_rule_2 : decode cX12_rule 2 = .ok (.putfield 100, 3) := by decide +kernel
theorem dX12_rule_5 : decode cX12_rule 5 = .ok (.aload_n 0, 1) := by decide +kernel
theorem dX12_rule_6 : decode cX12_rule 6 = .ok (.getfield 286, 3) := by decide +kernel
theorem dX12_rule_9 : decode cX12_rule 9 = .ok (.ifCond .le 24, 3) := by decide +kernel
theorem dX12_rule_12 : decode cX12_rule 12 = .ok (.iload_n 1, 1) := by decide +kernel
theorem dX12_rule_13 : decode cX12_rule 13 = .ok (.i2l, 1) := by decide +kernel
theorem dX12_rule_14 : decode cX12_rule 14 = .ok (.lconst 0, 1) := by decide +kernel
theorem dX12_rule_15 : decode cX12_rule 15 = .ok (.ldc2_w 266, 3) := by decide +kernel
theorem dX12_rule_18 : decode cX12_rule 18 = .ok (.invokestatic 221, 3) := by decide +kernel
theorem dX12_rule_21 : decode cX12_rule 21 = .ok (.ifCond .eq 12, 3) := by decide +kernel
theorem dX12_rule_24 : decode cX12_rule 24 = .ok (.aload_n 0, 1) := by decide +kernel
theorem dX12_rule_25 : decode cX12_rule 25 = .ok (.getfield 37, 3) := by decide +kernel
theorem dX12_rule_28 : decode cX12_rule 28 = .ok (.iload_n 1, 1) := by decide +kernel
theorem dX12_rule_29 : decode cX12_rule 29 = .ok (.iaload, 1) := by decide +kernel
theorem dX12_rule_30 : decode cX12_rule 30 = .ok (.goto 4, 3) := by decide +kernel
theorem dX12_rule_33 : decode cX12_rule 33 = .ok (.iconst (-1), 1) := by decide +kernel
theorem dX12_rule_34 : decode cX12_rule 34 = .ok (.ireturn, 1) := by decide +kernel
theorem dX12_person_0 : decode cX12_person 0 = .ok (.aload_n 0, 1) := by decide +kernel
theorem dX12_person_1 : decode cX12_person 1 = .ok (.aload_n 0, 1) := by decide +kernel
theorem dX12_person_2 : decode cX12_person 2 = .ok (.iload_n 1, 1) := by decide +kernel
theorem dX12_person_3 : decode cX12_person 3 = .ok (.invokevirtual 347, 3) := by decide +kernel
theorem dX12_person_6 : decode cX12_person 6 = .ok (.ifCond .eq 19, 3) := by decide +kernel
theorem dX12_person_9 : decode cX12_person 9 = .ok (.iload_n 2, 1) := by decide +kernel
theorem dX12_person_10 : decode cX12_person 10 = .ok (.i2l, 1) := by decide +kernel
theorem dX12_person_11 : decode cX12_person 11 = .ok (.lconst 0, 1) := by decide +kernel
theorem dX12_person_12 : decode cX12_person 12 = .ok (.ldc2_w 350, 3) := by decide +kernel
theorem dX12_person_15 : decode cX12_person 15 = .ok (.invokestatic 221, 3) := by decide +kernel
theorem dX12_person_18 : decode cX12_person 18 = .ok (.ifCond .eq 7, 3) := by decide +kernel
theorem dX12_person_21 : decode cX12_person 21 = .ok (.iconst 0, 1) := by decide +kernel
theorem dX12_person_22 : decode cX12_person 22 = .ok (.goto 4, 3) := by decide +kernel
theorem dX12_person_25 : decode cX12_person 25 = .ok (.iconst 1, 1) := by decide +kernel
theorem dX12_person_26 : decode cX12_person 26 = .ok (.putfield 100, 3) := by decide +kernel
theorem dX12_person_29 : decode cX12_person 29 = .ok (.aload_n 0, 1) := by decide +kernel
theorem dX12_person_30 : decode cX12_person 30 = .ok (.getfield 100, 3) := by decide +kernel
theorem dX12_person_33 : decode cX12_person 33 = .ok (.ifCond .le 5, 3) := by decide +kernel
theorem dX12_person_36 : decode cX12_person 36 = .ok (.iconst 0, 1) := by decide +kernel
theorem dX12_person_37 : decode cX12_person 37 = .ok (.ireturn, 1) := by decide +kernel
theorem dX12_person_38 : decode cX12_person 38 = .ok (.iload_n 2, 1) := by decide +kernel
theorem dX12_person_39 : decode cX12_person 39 = .ok (.tableswitch 66 0 4 #[33, 40, 46, 53, 60], 33) := by decide +kernel
theorem dX12_person_72 : decode cX12_person 72 = .ok (.aload_n 0, 1) := by decide +kernel
theorem dX12_person_73 : decode cX12_person 73 = .ok (.iload_n 1, 1) := by decide +kernel
theorem dX12_person_74 : decode cX12_person 74 = .ok (.iconst 0, 1) := by decide +kernel
theorem dX12_person_75 : decode cX12_person 75 = .ok (.invokevirtual 301, 3) := by decide +kernel
theorem dX12_person_78 : decode cX12_person 78 = .ok (.ireturn, 1) := by decide +kernel
theorem dX12_person_79 : decode cX12_person 79 = .ok (.aload_n 0, 1) := by decide +kernel
theorem dX12_person_80 : decode cX12_person 80 = .ok (.iload_n 1, 1) := by decide +kernel
theorem dX12_person_81 : decode cX12_person 81 = .ok (.invokevirtual 298, 3) := by decide +kernel
theorem dX12_person_84 : decode cX12_person 84 = .ok (.ireturn, 1) := by decide +kernel
theorem dX12_person_85 : decode cX12_person 85 = .ok (.aload_n 0, 1) := by decide +kernel
theorem dX12_person_86 : decode cX12_person 86 = .ok (.iload_n 1, 1) := by decide +kernel
theorem dX12_person_87 : decode cX12_person 87 = .ok (.iconst 1, 1) := by decide +kernel
theorem dX12_person_88 : decode cX12_person 88 = .ok (.invokevirtual 301, 3) := by decide +kernel
theorem dX12_person_91 : decode cX12_person 91 = .ok (.ireturn, 1) := by decide +kernel
theorem dX12_person_92 : decode cX12_person 92 = .ok (.aload_n 0, 1) := by decide +kernel
theorem dX12_person_93 : decode cX12_person 93 = .ok (.iload_n 1, 1) := by decide +kernel
theorem dX12_person_94 : decode cX12_person 94 = .ok (.iconst 2, 1) := by decide +kernel
theorem dX12_person_95 : decode cX12_person 95 = .ok (.invokevirtual 301, 3) := by decide +kernel
theorem dX12_person_98 : decode cX12_person 98 = .ok (.ireturn, 1) := by decide +kernel
theorem dX12_person_99 : decode cX12_person 99 = .ok (.aload_n 0, 1) := by decide +kernel
theorem dX12_person_100 : decode cX12_person 100 = .ok (.iload_n 1, 1) := by decide +kernel
theorem dX12_person_101 : decode cX12_person 101 = .ok (.invokevirtual 352, 3) := by decide +kernel
theorem dX12_person_104 : decode cX12_person 104 = .ok (.ireturn, 1) := by decide +kernel
theorem dX12_person_105 : decode cX12_person 105 = .ok (.aload_n 0, 1) := by decide +kernel
theorem dX12_person_106 : decode cX12_person 106 = .ok (.iload_n 1, 1) := by decide +kernel
theorem dX12_person_107 : decode cX12_person 107 = .ok (.iload_n 2, 1) := by decide +kernel
theorem dX12_person_108 : decode cX12_person 108 = .ok (.iconst 2, 1) := by decide +kernel
theorem dX12_person_109 : decode cX12_person 109 = .ok (.isub, 1) := by decide +kernel
theorem dX12_person_110 : decode cX12_person 110 = .ok (.invokevirtual 301, 3) := by decide +kernel
theorem dX12_person_113 : decode cX12_person 113 = .ok (.ireturn, 1) := by decide +kernel
theorem dX12_law_0 : decode cX12_law 0 = .ok (.aload_n 0, 1) := by decide +kernel
theorem dX12_law_1 : decode cX12_law 1 = .ok (.iconst 0, 1) := by decide +kernel
theorem dX12_law_2 : decode cX12_law 2 = .ok (.putfield 100, 3) := by decide +kernel
theorem dX12_law_5 : decode cX12_law 5 = .ok (.iload_n 1, 1) := by decide +kernel
theorem dX12_law_6 : decode cX12_law 6 = .ok (.iconst (-1), 1) := by decide +kernel
theorem dX12_law_7 : decode cX12_law 7 = .ok (.if_icmp .eq 21, 3) := by decide +kernel
theorem dX12_law_10 : decode cX12_law 10 = .ok (.iload_n 1, 1) := by decide +kernel
theorem dX12_law_11 : decode cX12_law 11 = .ok (.i2l, 1) := by decide +kernel
theorem dX12_law_12 : decode cX12_law 12 = .ok (.lconst 0, 1) := by decide +kernel
theorem dX12_law_13 : decode cX12_law 13 = .ok (.aload_n 0, 1) := by decide +kernel
theorem dX12_law_14 : decode cX12_law 14 = .ok (.getfield 278, 3) := by decide +kernel
theorem dX12_law_17 : decode cX12_law 17 = .ok (.iconst 1, 1) := by decide +kernel
theorem dX12_law_18 : decode cX12_law 18 = .ok (.isub, 1) := by decide +kernel
theorem dX12_law_19 : decode cX12_law 19 = .ok (.i2l, 1) := by decide +kernel
theorem dX12_law_20 : decode cX12_law 20 = .ok (.invokestatic 221, 3) := by decide +kernel
theorem dX12_law_23 : decode cX12_law 23 = .ok (.ifCond .ne 5, 3) := by decide +kernel
theorem dX12_law_26 : decode cX12_law 26 = .ok (.iconst 0, 1) := by decide +kernel
theorem dX12_law_27 : decode cX12_law 27 = .ok (.ireturn, 1) := by decide +kernel
theorem dX12_law_28 : decode cX12_law 28 = .ok (.aload_n 0, 1) := by decide +kernel
theorem dX12_law_29 : decode cX12_law 29 = .ok (.iload_n 1, 1) := by decide +kernel
theorem dX12_law_30 : decode cX12_law 30 = .ok (.putfield 58, 3) := by decide +kernel
theorem dX12_law_33 : decode cX12_law 33 = .ok (.iconst 1, 1) := by decide +kernel
theorem dX12_law_34 : decode cX12_law 34 = .ok (.ireturn, 1) := by decide +kernel
theorem dX12_watch_0 : decode cX12_watch 0 = .ok (.aload_n 0, 1) := by decide +kernel
theorem dX12_watch_1 : decode cX12_watch 1 = .ok (.iconst 0, 1) := by decide +kernel
theorem dX12_watch_2 : decode cX12_watch 2 = .ok (.putfield 100, 3) := by decide +kernel
theorem dX12_watch_5 : decode cX12_watch 5 = .ok (.iload_n 1, 1) := by decide +kernel
theorem dX12_watch_6 : decode cX12_watch 6 = .ok (.iconst (-1), 1) := by decide +kernel
theorem dX12_watch_7 : decode cX12_watch 7 = .ok (.if_icmp .eq 21, 3) := by decide +kernel
theorem dX12_watch_10 : decode cX12_watch 10 = .ok (.iload_n 1, 1) := by decide +kernel
theorem dX12_watch_11 : decode cX12_watch 11 = .ok (.i2l, 1) := by decide +kernel
theorem dX12_watch_12 : decode cX12_watch 12 = .ok (.lconst 0, 1) := by decide +kernel
theorem dX12_watch_13 : decode cX12_watch 13 = .ok (.aload_n 0, 1) := by decide +kernel
theorem dX12_watch_14 : decode cX12_watch 14 = .ok (.getfield 281, 3) := by decide +kernel
theorem dX12_watch_17 : decode cX12_watch 17 = .ok (.iconst 1, 1) := by decide +kernel
theorem dX12_watch_18 : decode cX12_watch 18 = .ok (.isub, 1) := by decide +kernel
theorem dX12_watch_19 : decode cX12_watch 19 = .ok (.i2l, 1) := by decide +kernel
theorem dX12_watch_20 : decode cX12_watch 20 = .ok (.invokestatic 221, 3) := by decide +kernel
theorem dX12_watch_23 : decode cX12_watch 23 = .ok (.ifCond .ne 5, 3) := by decide +kernel
theorem dX12_watch_26 : decode cX12_watch 26 = .ok (.iconst 0, 1) := by decide +kernel
theorem dX12_watch_27 : decode cX12_watch 27 = .ok (.ireturn, 1) := by decide +kernel
theorem dX12_watch_28 : decode cX12_watch 28 = .ok (.aload_n 0, 1) := by decide +kernel
theorem dX12_watch_29 : decode cX12_watch 29 = .ok (.iload_n 1, 1) := by decide +kernel
theorem dX12_watch_30 : decode cX12_watch 30 = .ok (.putfield 62, 3) := by decide +kernel
theorem dX12_watch_33 : decode cX12_watch 33 = .ok (.iconst 1, 1) := by decide +kernel
theorem dX12_watch_34 : decode cX12_watch 34 = .ok (.ireturn, 1) := by decide +kernel
theorem dX12_isWatch_0 : decode cX12_isWatch 0 = .ok (.iload_n 1, 1) := by decide +kernel
theorem dX12_isWatch_1 : decode cX12_isWatch 1 = .ok (.ifCond .lt 15, 3) := by decide +kernel
theorem dX12_isWatch_4 : decode cX12_isWatch 4 = .ok (.iload_n 1, 1) := by decide +kernel
theorem dX12_isWatch_5 : decode cX12_isWatch 5 = .ok (.aload_n 0, 1) := by decide +kernel
theorem dX12_isWatch_6 : decode cX12_isWatch 6 = .ok (.getfield 281, 3) := by decide +kernel
theorem dX12_isWatch_9 : decode cX12_isWatch 9 = .ok (.if_icmp .ge 7, 3) := by decide +kernel
theorem dX12_isWatch_12 : decode cX12_isWatch 12 = .ok (.iconst 1, 1) := by decide +kernel
theorem dX12_isWatch_13 : decode cX12_isWatch 13 = .ok (.goto 4, 3) := by decide +kernel
theorem dX12_isWatch_16 : decode cX12_isWatch 16 = .ok (.iconst 0, 1) := by decide +kernel
theorem dX12_isWatch_17 : decode cX12_isWatch 17 = .ok (.ireturn, 1) := by decide +kernel
theorem dX12_watched_0 : decode cX12_watched 0 = .ok (.aload_n 0, 1) := by decide +kernel
theorem dX12_watched_1 : decode cX12_watched 1 = .ok (.iconst 0, 1) := by decide +kernel
theorem dX12_watched_2 : decode cX12_watched 2 = .ok (.putfield 100, 3) := by decide +kernel
theorem dX12_watched_5 : decode cX12_watched 5 = .ok (.aload_n 0, 1) := by decide +kernel
theorem dX12_watched_6 : decode cX12_watched 6 = .ok (.iload_n 1, 1) := by decide +kernel
theorem dX12_watched_7 : decode cX12_watched 7 = .ok (.invokevirtual 355, 3) := by decide +kernel
theorem dX12_watched_10 : decode cX12_watched 10 = .ok (.ifCond .eq 24, 3) := by decide +kernel
theorem dX12_watched_13 : decode cX12_watched 13 = .ok (.iload_n 2, 1) := by decide +kernel
theorem dX12_watched_14 : decode cX12_watched 14 = .ok (.i2l, 1) := by decide +kernel
theorem dX12_watched_15 : decode cX12_watched 15 = .ok (.lconst 0, 1) := by decide +kernel
theorem dX12_watched_16 : decode cX12_watched 16 = .ok (.ldc2_w 358, 3) := by decide +kernel
theorem dX12_watched_19 : decode cX12_watched 19 = .ok (.invokestatic 221, 3) := by decide +kernel
theorem dX12_watched_22 : decode cX12_watched 22 = .ok (.ifCond .eq 12, 3) := by decide +kernel
theorem dX12_watched_25 : decode cX12_watched 25 = .ok (.aload_n 0, 1) := by decide +kernel
theorem dX12_watched_26 : decode cX12_watched 26 = .ok (.iload_n 1, 1) := by decide +kernel
theorem dX12_watched_27 : decode cX12_watched 27 = .ok (.iload_n 2, 1) := by decide +kernel
theorem dX12_watched_28 : decode cX12_watched 28 = .ok (.invokevirtual 334, 3) := by decide +kernel
theorem dX12_watched_31 : decode cX12_watched 31 = .ok (.goto 6, 3) := by decide +kernel
theorem dX12_watched_34 : decode cX12_watched 34 = .ok (.ldc_w 360, 3) := by decide +kernel
theorem dX12_watched_37 : decode cX12_watched 37 = .ok (.ireturn, 1) := by decide +kernel
theorem dX12_crimes_0 : decode cX12_crimes 0 = .ok (.aload_n 0, 1) := by decide +kernel
theorem dX12_crimes_1 : decode cX12_crimes 1 = .ok (.iconst 0, 1) := by decide +kernel
theorem dX12_crimes_2 : decode cX12_crimes 2 = .ok (.putfield 100, 3) := by decide +kernel
theorem dX12_crimes_5 : decode cX12_crimes 5 = .ok (.iload_n 1, 1) := by decide +kernel
theorem dX12_crimes_6 : decode cX12_crimes 6 = .ok (.i2l, 1) := by decide +kernel
theorem dX12_crimes_7 : decode cX12_crimes 7 = .ok (.lconst 0, 1) := by decide +kernel
theorem dX12_crimes_8 : decode cX12_crimes 8 = .ok (.ldc2_w 361, 3) := by decide +kernel
theorem dX12_crimes_11 : decode cX12_crimes 11 = .ok (.invokestatic 221, 3) := by decide +kernel
theorem dX12_crimes_14 : decode cX12_crimes 14 = .ok (.ifCond .eq 11, 3) := by decide +kernel
theorem dX12_crimes_17 : decode cX12_crimes 17 = .ok (.iload_n 1, 1) := by decide +kernel
theorem dX12_crimes_18 : decode cX12_crimes 18 = .ok (.aload_n 0, 1) := by decide +kernel
theorem dX12_crimes_19 : decode cX12_crimes 19 = .ok (.getfield 363, 3) := by decide +kernel
theorem dX12_crimes_22 : decode cX12_crimes 22 = .ok (.if_icmp .ne 5, 3) := by decide +kernel
theorem dX12_crimes_25 : decode cX12_crimes 25 = .ok (.iconst 0, 1) := by decide +kernel
theorem dX12_crimes_26 : decode cX12_crimes 26 = .ok (.ireturn, 1) := by decide +kernel
theorem dX12_crimes_27 : decode cX12_crimes 27 = .ok (.aload_n 0, 1) := by decide +kernel
theorem dX12_crimes_28 : decode cX12_crimes 28 = .ok (.iload_n 1, 1) := by decide +kernel
theorem dX12_crimes_29 : decode cX12_crimes 29 = .ok (.putfield 363, 3) := by decide +kernel
theorem dX12_crimes_32 : decode cX12_crimes 32 = .ok (.iconst 1, 1) := by decide +kernel
theorem dX12_crimes_33 : decode cX12_crimes 33 = .ok (.ireturn, 1) := by decide +kernel
theorem dX12_wakes_0 : decode cX12_wakes 0 = .ok (.aload_n 0, 1) := by decide +kernel
theorem dX12_wakes_1 : decode cX12_wakes 1 = .ok (.iconst 0, 1) := by decide +kernel
theorem dX12_wakes_2 : decode cX12_wakes 2 = .ok (.putfield 100, 3) := by decide +kernel
theorem dX12_wakes_5 : decode cX12_wakes 5 = .ok (.aload_n 0, 1) := by decide +kernel
theorem dX12_wakes_6 : decode cX12_wakes 6 = .ok (.iload_n 1, 1) := by decide +kernel
theorem dX12_wakes_7 : decode cX12_wakes 7 = .ok (.invokevirtual 347, 3) := by decide +kernel
theorem dX12_wakes_10 : decode cX12_wakes 10 = .ok (.ifCond .eq 20, 3) := by decide +kernel
theorem dX12_wakes_13 : decode cX12_wakes 13 = .ok (.aload_n 0, 1) := by decide +kernel
theorem dX12_wakes_14 : decode cX12_wakes 14 = .ok (.iload_n 2, 1) := by decide +kernel
theorem dX12_wakes_15 : decode cX12_wakes 15 = .ok (.invokevirtual 366, 3) := by decide +kernel
theorem dX12_wakes_18 : decode cX12_wakes 18 = .ok (.ifCond .eq 12, 3) := by decide +kernel
theorem dX12_wakes_21 : decode cX12_wakes 21 = .ok (.aload_n 0, 1) := by decide +kernel
theorem dX12_wakes_22 : decode cX12_wakes 22 = .ok (.iload_n 1, 1) := by decide +kernel
theorem dX12_wakes_23 : decode cX12_wakes 23 = .ok (.iload_n 2, 1) := by decide +kernel
theorem dX12_wakes_24 : decode cX12_wakes 24 = .ok (.invokevirtual 340, 3) := by decide +kernel
theorem dX12_wakes_27 : decode cX12_wakes 27 = .ok (.goto 4, 3) := by decide +kernel
theorem dX12_wakes_30 : decode cX12_wakes 30 = .ok (.iconst (-1), 1) := by decide +kernel
theorem dX12_wakes_31 : decode cX12_wakes 31 = .ok (.ireturn, 1) := by decide +kernel
theorem dX12_remember_0 : decode cX12_remember 0 = .ok (.aload_n 0, 1) := by decide +kernel
theorem dX12_remember_1 : decode cX12_remember 1 = .ok (.getfield 292, 3) := by decide +kernel
theorem dX12_remember_4 : decode cX12_remember 4 = .ok (.bipush 40, 2) := by decide +kernel
theorem dX12_remember_6 : decode cX12_remember 6 = .ok (.if_icmp .ne 44, 3) := by decide +kernel
theorem dX12_remember_9 : decode cX12_remember 9 = .ok (.iconst 0, 1) := by decide +kernel
theorem dX12_remember_10 : decode cX12_remember 10 = .ok (.istore_n 1, 1) := by decide +kernel
theorem dX12_remember_11 : decode cX12_remember 11 = .ok (.iload_n 1, 1) := by decide +kernel
theorem dX12_remember_12 : decode cX12_remember 12 = .ok (.sipush 20787, 3) := by decide +kernel
theorem dX12_remember_15 : decode cX12_remember 15 = .ok (.if_icmp .ge 25, 3) := by decide +kernel
theorem dX12_remember_18 : decode cX12_remember 18 = .ok (.aload_n 0, 1) := by decide +kernel
theorem dX12_remember_19 : decode cX12_remember 19 = .ok (.getfield 68, 3) := by decide +kernel
theorem dX12_remember_22 : decode cX12_remember 22 = .ok (.iload_n 1, 1) := by decide +kernel
theorem dX12_remember_23 : decode cX12_remember 23 = .ok (.aload_n 0, 1) := by decide +kernel
theorem dX12_remember_24 : decode cX12_remember 24 = .ok (.getfield 68, 3) := by decide +kernel
theorem dX12_remember_27 : decode cX12_remember 27 = .ok (.iload_n 1, 1) := by decide +kernel
theorem dX12_remember_28 : decode cX12_remember 28 = .ok (.sipush 533, 3) := by decide +kernel
theorem dX12_remember_31 : decode cX12_remember 31 = .ok (.iadd, 1) := by decide +kernel
theorem dX12_remember_32 : decode cX12_remember 32 = .ok (.iaload, 1) := by decide +kernel
theorem dX12_remember_33 : decode cX12_remember 33 = .ok (.iastore, 1) := by decide +kernel
theorem dX12_remember_34 : decode cX12_remember 34 = .ok (.iinc 1 1, 3) := by decide +kernel
theorem dX12_remember_37 : decode cX12_remember 37 = .ok (.goto (-26), 3) := by decide +kernel
theorem dX12_remember_40 : decode cX12_remember 40 = .ok (.aload_n 0, 1) := by decide +kernel
theorem dX12_remember_41 : decode cX12_remember 41 = .ok (.dup, 1) := by decide +kernel
theorem dX12_remember_42 : decode cX12_remember 42 = .ok (.getfield 292, 3) := by decide +kernel
theorem dX12_remember_45 : decode cX12_remember 45 = .ok (.iconst 1, 1) := by decide +kernel
theorem dX12_remember_46 : decode cX12_remember 46 = .ok (.isub, 1) := by decide +kernel
theorem dX12_remember_47 : decode cX12_remember 47 = .ok (.putfield 292, 3) := by decide +kernel
theorem dX12_remember_50 : decode cX12_remember 50 = .ok (.iconst 0, 1) := by decide +kernel
theorem dX12_remember_51 : decode cX12_remember 51 = .ok (.istore_n 1, 1) := by decide +kernel
theorem dX12_remember_52 : decode cX12_remember 52 = .ok (.iload_n 1, 1) := by decide +kernel
theorem dX12_remember_53 : decode cX12_remember 53 = .ok (.sipush 533, 3) := by decide +kernel
theorem dX12_remember_56 : decode cX12_remember 56 = .ok (.if_icmp .ge 30, 3) := by decide +kernel
theorem dX12_remember_59 : decode cX12_remember 59 = .ok (.aload_n 0, 1) := by decide +kernel
theorem dX12_remember_60 : decode cX12_remember 60 = .ok (.getfield 68, 3) := by decide +kernel
theorem dX12_remember_63 : decode cX12_remember 63 = .ok (.sipush 533, 3) := by decide +kernel
theorem dX12_remember_66 : decode cX12_remember 66 = .ok (.aload_n 0, 1) := by decide +kernel
theorem dX12_remember_67 : decode cX12_remember 67 = .ok (.getfield 292, 3) := by decide +kernel
theorem dX12_remember_70 : decode cX12_remember 70 = .ok (.imul, 1) := by decide +kernel
theorem dX12_remember_71 : decode cX12_remember 71 = .ok (.iload_n 1, 1) := by decide +kernel
theorem dX12_remember_72 : decode cX12_remember 72 = .ok (.iadd, 1) := by decide +kernel
theorem dX12_remember_73 : decode cX12_remember 73 = .ok (.aload_n 0, 1) := by decide +kernel
theorem dX12_remember_74 : decode cX12_remember 74 = .ok (.getfield 55, 3) := by decide +kernel
theorem dX12_remember_77 : decode cX12_remember 77 = .ok (.iload_n 1, 1) := by decide +kernel
theorem dX12_remember_78 : decode cX12_remember 78 = .ok (.iaload, 1) := by decide +kernel
theorem dX12_remember_79 : decode cX12_remember 79 = .ok (.iastore, 1) := by decide +kernel
theorem dX12_remember_80 : decode cX12_remember 80 = .ok (.iinc 1 1, 3) := by decide +kernel
theorem dX12_remember_83 : decode cX12_remember 83 = .ok (.goto (-31), 3) := by decide +kernel
theorem dX12_remember_86 : decode cX12_remember 86 = .ok (.aload_n 0, 1) := by decide +kernel
theorem dX12_remember_87 : decode cX12_remember 87 = .ok (.dup, 1) := by decide +kernel
theorem dX12_remember_88 : decode cX12_remember 88 = .ok (.getfield 292, 3) := by decide +kernel
theorem dX12_remember_91 : decode cX12_remember 91 = .ok (.iconst 1, 1) := by decide +kernel
theorem dX12_remember_92 : decode cX12_remember 92 = .ok (.iadd, 1) := by decide +kernel
theorem dX12_remember_93 : decode cX12_remember 93 = .ok (.putfield 292, 3) := by decide +kernel
theorem dX12_remember_96 : decode cX12_remember 96 = .ok (.return_, 1) := by decide +kernel
theorem dX12_deed_0 : decode cX12_deed 0 = .ok (.aload_n 0, 1) := by decide +kernel
theorem dX12_deed_1 : decode cX12_deed 1 = .ok (.iconst 0, 1) := by decide +kernel
theorem dX12_deed_2 : decode cX12_deed 2 = .ok (.putfield 100, 3) := by decide +kernel
theorem dX12_deed_5 : decode cX12_deed 5 = .ok (.aload_n 0, 1) := by decide +kernel
theorem dX12_deed_6 : decode cX12_deed 6 = .ok (.iload_n 1, 1) := by decide +kernel
theorem dX12_deed_7 : decode cX12_deed 7 = .ok (.invokevirtual 347, 3) := by decide +kernel
theorem dX12_deed_10 : decode cX12_deed 10 = .ok (.ifCond .eq 40, 3) := by decide +kernel
theorem dX12_deed_13 : decode cX12_deed 13 = .ok (.iload_n 2, 1) := by decide +kernel
theorem dX12_deed_14 : decode cX12_deed 14 = .ok (.i2l, 1) := by decide +kernel
theorem dX12_deed_15 : decode cX12_deed 15 = .ok (.ldc2_w 369, 3) := by decide +kernel
theorem dX12_deed_18 : decode cX12_deed 18 = .ok (.ldc2_w 361, 3) := by decide +kernel
theorem dX12_deed_21 : decode cX12_deed 21 = .ok (.invokestatic 221, 3) := by decide +kernel
theorem dX12_deed_24 : decode cX12_deed 24 = .ok (.ifCond .eq 26, 3) := by decide +kernel
theorem dX12_deed_27 : decode cX12_deed 27 = .ok (.iload_n 2, 1) := by decide +kernel
theorem dX12_deed_28 : decode cX12_deed 28 = .ok (.ifCond .eq 22, 3) := by decide +kernel
theorem dX12_deed_31 : decode cX12_deed 31 = .ok (.aload_n 0, 1) := by decide +kernel
theorem dX12_deed_32 : decode cX12_deed 32 = .ok (.iload_n 1, 1) := by decide +kernel
theorem dX12_deed_33 : decode cX12_deed 33 = .ok (.iconst 0, 1) := by decide +kernel
theorem dX12_deed_34 : decode cX12_deed 34 = .ok (.invokevirtual 301, 3) := by decide +kernel
theorem dX12_deed_37 : decode cX12_deed 37 = .ok (.iload_n 2, 1) := by decide +kernel
theorem dX12_deed_38 : decode cX12_deed 38 = .ok (.iadd, 1) := by decide +kernel
theorem dX12_deed_39 : decode cX12_deed 39 = .ok (.i2l, 1) := by decide +kernel
theorem dX12_deed_40 : decode cX12_deed 40 = .ok (.lconst 0, 1) := by decide +kernel
theorem dX12_deed_41 : decode cX12_deed 41 = .ok (.ldc2_w 361, 3) := by decide +kernel
theorem dX12_deed_44 : decode cX12_deed 44 = .ok (.invokestatic 221, 3) := by decide +kernel
theorem dX12_deed_47 : decode cX12_deed 47 = .ok (.ifCond .ne 5, 3) := by decide +kernel
theorem dX12_deed_50 : decode cX12_deed 50 = .ok (.iconst (-1), 1) := by decide +kernel
theorem dX12_deed_51 : decode cX12_deed 51 = .ok (.ireturn, 1) := by decide +kernel
theorem dX12_deed_52 : decode cX12_deed 52 = .ok (.aload_n 0, 1) := by decide +kernel
theorem dX12_deed_53 : decode cX12_deed 53 = .ok (.invokevirtual 371, 3) := by decide +kernel
theorem dX12_deed_56 : decode cX12_deed 56 = .ok (.aload_n 0, 1) := by decide +kernel
theorem dX12_deed_57 : decode cX12_deed 57 = .ok (.getfield 55, 3) := by decide +kernel
theorem dX12_deed_60 : decode cX12_deed 60 = .ok (.bipush 6, 2) := by decide +kernel
theorem dX12_deed_62 : decode cX12_deed 62 = .ok (.iload_n 1, 1) := by decide +kernel
theorem dX12_deed_63 : decode cX12_deed 63 = .ok (.imul, 1) := by decide +kernel
theorem dX12_deed_64 : decode cX12_deed 64 = .ok (.iconst 0, 1) := by decide +kernel
theorem dX12_deed_65 : decode cX12_deed 65 = .ok (.iadd, 1) := by decide +kernel
theorem dX12_deed_66 : decode cX12_deed 66 = .ok (.dup2, 1) := by decide +kernel
theorem dX12_deed_67 : decode cX12_deed 67 = .ok (.iaload, 1) := by decide +kernel
theorem dX12_deed_68 : decode cX12_deed 68 = .ok (.iload_n 2, 1) := by decide +kernel
theorem dX12_deed_69 : decode cX12_deed 69 = .ok (.iadd, 1) := by decide +kernel
theorem dX12_deed_70 : decode cX12_deed 70 = .ok (.iastore, 1) := by decide +kernel
theorem dX12_deed_71 : decode cX12_deed 71 = .ok (.aload_n 0, 1) := by decide +kernel
theorem dX12_deed_72 : decode cX12_deed 72 = .ok (.iload_n 1, 1) := by decide +kernel
theorem dX12_deed_73 : decode cX12_deed 73 = .ok (.iconst 0, 1) := by decide +kernel
theorem dX12_deed_74 : decode cX12_deed 74 = .ok (.invokevirtual 301, 3) := by decide +kernel
theorem dX12_deed_77 : decode cX12_deed 77 = .ok (.ireturn, 1) := by decide +kernel
theorem dX12_marks_0 : decode cX12_marks 0 = .ok (.aload_n 0, 1) := by decide +kernel
theorem dX12_marks_1 : decode cX12_marks 1 = .ok (.iload_n 1, 1) := by decide +kernel
theorem dX12_marks_2 : decode cX12_marks 2 = .ok (.invokevirtual 347, 3) := by decide +kernel
theorem dX12_marks_5 : decode cX12_marks 5 = .ok (.ifCond .eq 13, 3) := by decide +kernel
theorem dX12_marks_8 : decode cX12_marks 8 = .ok (.aload_n 0, 1) := by decide +kernel
theorem dX12_marks_9 : decode cX12_marks 9 = .ok (.iload_n 1, 1) := by decide +kernel
theorem dX12_marks_10 : decode cX12_marks 10 = .ok (.iload_n 2, 1) := by decide +kernel
theorem dX12_marks_11 : decode cX12_marks 11 = .ok (.invokevirtual 301, 3) := by decide +kernel
theorem dX12_marks_14 : decode cX12_marks 14 = .ok (.iconst 1, 1) := by decide +kernel
theorem dX12_marks_15 : decode cX12_marks 15 = .ok (.if_icmp .ne 5, 3) := by decide +kernel
theorem dX12_marks_18 : decode cX12_marks 18 = .ok (.iconst 0, 1) := by decide +kernel
theorem dX12_marks_19 : decode cX12_marks 19 = .ok (.ireturn, 1) := by decide +kernel
theorem dX12_marks_20 : decode cX12_marks 20 = .ok (.aload_n 0, 1) := by decide +kernel
theorem dX12_marks_21 : decode cX12_marks 21 = .ok (.invokevirtual 371, 3) := by decide +kernel
theorem dX12_marks_24 : decode cX12_marks 24 = .ok (.aload_n 0, 1) := by decide +kernel
theorem dX12_marks_25 : decode cX12_marks 25 = .ok (.getfield 55, 3) := by decide +kernel
theorem dX12_marks_28 : decode cX12_marks 28 = .ok (.bipush 6, 2) := by decide +kernel
theorem dX12_marks_30 : decode cX12_marks 30 = .ok (.iload_n 1, 1) := by decide +kernel
theorem dX12_marks_31 : decode cX12_marks 31 = .ok (.imul, 1) := by decide +kernel
theorem dX12_marks_32 : decode cX12_marks 32 = .ok (.iload_n 2, 1) := by decide +kernel
theorem dX12_marks_33 : decode cX12_marks 33 = .ok (.iadd, 1) := by decide +kernel
theorem dX12_marks_34 : decode cX12_marks 34 = .ok (.iconst 1, 1) := by decide +kernel
theorem dX12_marks_35 : decode cX12_marks 35 = .ok (.iastore, 1) := by decide +kernel
theorem dX12_marks_36 : decode cX12_marks 36 = .ok (.iconst 1, 1) := by decide +kernel
theorem dX12_marks_37 : decode cX12_marks 37 = .ok (.ireturn, 1) := by decide +kernel
theorem dX12_coffee_0 : decode cX12_coffee 0 = .ok (.aload_n 0, 1) := by decide +kernel
theorem dX12_coffee_1 : decode cX12_coffee 1 = .ok (.iconst 0, 1) := by decide +kernel
theorem dX12_coffee_2 : decode cX12_coffee 2 = .ok (.putfield 100, 3) := by decide +kernel
theorem dX12_coffee_5 : decode cX12_coffee 5 = .ok (.aload_n 0, 1) := by decide +kernel
theorem dX12_coffee_6 : decode cX12_coffee 6 = .ok (.iload_n 1, 1) := by decide +kernel
theorem dX12_coffee_7 : decode cX12_coffee 7 = .ok (.iconst 3, 1) := by decide +kernel
theorem dX12_coffee_8 : decode cX12_coffee 8 = .ok (.invokevirtual 374, 3) := by decide +kernel
theorem dX12_coffee_11 : decode cX12_coffee 11 = .ok (.ireturn, 1) := by decide +kernel
theorem dX12_forge_0 : decode cX12_forge 0 = .ok (.aload_n 0, 1) := by decide +kernel
theorem dX12_forge_1 : decode cX12_forge 1 = .ok (.iconst 0, 1) := by decide +kernel
theorem dX12_forge_2 : decode cX12_forge 2 = .ok (.putfield 100, 3) := by decide +kernel
theorem dX12_forge_5 : decode cX12_forge 5 = .ok (.aload_n 0, 1) := by decide +kernel
theorem dX12_forge_6 : decode cX12_forge 6 = .ok (.iload_n 1, 1) := by decide +kernel
theorem dX12_forge_7 : decode cX12_forge 7 = .ok (.iconst 4, 1) := by decide +kernel
theorem dX12_forge_8 : decode cX12_forge 8 = .ok (.invokevirtual 374, 3) := by decide +kernel
theorem dX12_forge_11 : decode cX12_forge 11 = .ok (.ireturn, 1) := by decide +kernel
theorem dX12_worry_0 : decode cX12_worry 0 = .ok (.aload_n 0, 1) := by decide +kernel
theorem dX12_worry_1 : decode cX12_worry 1 = .ok (.iconst 0, 1) := by decide +kernel
theorem dX12_worry_2 : decode cX12_worry 2 = .ok (.putfield 100, 3) := by decide +kernel
theorem dX12_worry_5 : decode cX12_worry 5 = .ok (.aload_n 0, 1) := by decide +kernel
theorem dX12_worry_6 : decode cX12_worry 6 = .ok (.iload_n 1, 1) := by decide +kernel
theorem dX12_worry_7 : decode cX12_worry 7 = .ok (.invokevirtual 347, 3) := by decide +kernel
theorem dX12_worry_10 : decode cX12_worry 10 = .ok (.ifCond .eq 25, 3) := by decide +kernel
theorem dX12_worry_13 : decode cX12_worry 13 = .ok (.iload_n 2, 1) := by decide +kernel
theorem dX12_worry_14 : decode cX12_worry 14 = .ok (.i2l, 1) := by decide +kernel
theorem dX12_worry_15 : decode cX12_worry 15 = .ok (.lconst 0, 1) := by decide +kernel
theorem dX12_worry_16 : decode cX12_worry 16 = .ok (.ldc2_w 361, 3) := by decide +kernel
theorem dX12_worry_19 : decode cX12_worry 19 = .ok (.invokestatic 221, 3) := by decide +kernel
theorem dX12_worry_22 : decode cX12_worry 22 = .ok (.ifCond .eq 13, 3) := by decide +kernel
theorem dX12_worry_25 : decode cX12_worry 25 = .ok (.aload_n 0, 1) := by decide +kernel
theorem dX12_worry_26 : decode cX12_worry 26 = .ok (.iload_n 1, 1) := by decide +kernel
theorem dX12_worry_27 : decode cX12_worry 27 = .ok (.iconst 1, 1) := by decide +kernel
theorem dX12_worry_28 : decode cX12_worry 28 = .ok (.invokevirtual 301, 3) := by decide +kernel
theorem dX12_worry_31 : decode cX12_worry 31 = .ok (.iload_n 2, 1) := by decide +kernel
theorem dX12_worry_32 : decode cX12_worry 32 = .ok (.if_icmp .ne 5, 3) := by decide +kernel
theorem dX12_worry_35 : decode cX12_worry 35 = .ok (.iconst (-1), 1) := by decide +kernel
theorem dX12_worry_36 : decode cX12_worry 36 = .ok (.ireturn, 1) := by decide +kernel
theorem dX12_worry_37 : decode cX12_worry 37 = .ok (.aload_n 0, 1) := by decide +kernel
theorem dX12_worry_38 : decode cX12_worry 38 = .ok (.invokevirtual 371, 3) := by decide +kernel
theorem dX12_worry_41 : decode cX12_worry 41 = .ok (.aload_n 0, 1) := by decide +kernel
theorem dX12_worry_42 : decode cX12_worry 42 = .ok (.iload_n 1, 1) := by decide +kernel
theorem dX12_worry_43 : decode cX12_worry 43 = .ok (.iconst 1, 1) := by decide +kernel
theorem dX12_worry_44 : decode cX12_worry 44 = .ok (.invokevirtual 301, 3) := by decide +kernel
theorem dX12_worry_47 : decode cX12_worry 47 = .ok (.istore_n 3, 1) := by decide +kernel
theorem dX12_worry_48 : decode cX12_worry 48 = .ok (.aload_n 0, 1) := by decide +kernel
theorem dX12_worry_49 : decode cX12_worry 49 = .ok (.getfield 55, 3) := by decide +kernel
theorem dX12_worry_52 : decode cX12_worry 52 = .ok (.bipush 6, 2) := by decide +kernel
theorem dX12_worry_54 : decode cX12_worry 54 = .ok (.iload_n 1, 1) := by decide +kernel
theorem dX12_worry_55 : decode cX12_worry 55 = .ok (.imul, 1) := by decide +kernel
theorem dX12_worry_56 : decode cX12_worry 56 = .ok (.iconst 1, 1) := by decide +kernel
theorem dX12_worry_57 : decode cX12_worry 57 = .ok (.iadd, 1) := by decide +kernel
theorem dX12_worry_58 : decode cX12_worry 58 = .ok (.iload_n 2, 1) := by decide +kernel
theorem dX12_worry_59 : decode cX12_worry 59 = .ok (.iastore, 1) := by decide +kernel
theorem dX12_worry_60 : decode cX12_worry 60 = .ok (.iload_n 3, 1) := by decide +kernel
theorem dX12_worry_61 : decode cX12_worry 61 = .ok (.ireturn, 1) := by decide +kernel
theorem dX12_night_0 : decode cX12_night 0 = .ok (.aload_n 0, 1) := by decide +kernel
theorem dX12_night_1 : decode cX12_night 1 = .ok (.iconst 0, 1) := by decide +kernel
theorem dX12_night_2 : decode cX12_night 2 = .ok (.putfield 100, 3) := by decide +kernel
theorem dX12_night_5 : decode cX12_night 5 = .ok (.aload_n 0, 1) := by decide +kernel
theorem dX12_night_6 : decode cX12_night 6 = .ok (.getfield 286, 3) := by decide +kernel
theorem dX12_night_9 : decode cX12_night 9 = .ok (.ifCond .eq 16, 3) := by decide +kernel
theorem dX12_night_12 : decode cX12_night 12 = .ok (.aload_n 0, 1) := by decide +kernel
theorem dX12_night_13 : decode cX12_night 13 = .ok (.getfield 55, 3) := by decide +kernel
theorem dX12_night_16 : decode cX12_night 16 = .ok (.bipush 48, 2) := by decide +kernel
theorem dX12_night_18 : decode cX12_night 18 = .ok (.iaload, 1) := by decide +kernel
theorem dX12_night_19 : decode cX12_night 19 = .ok (.sipush 999, 3) := by decide +kernel
theorem dX12_night_22 : decode cX12_night 22 = .ok (.if_icmp .ne 5, 3) := by decide +kernel
theorem dX12_night_25 : decode cX12_night 25 = .ok (.iconst (-1), 1) := by decide +kernel
theorem dX12_night_26 : decode cX12_night 26 = .ok (.ireturn, 1) := by decide +kernel
theorem dX12_night_27 : decode cX12_night 27 = .ok (.aload_n 0, 1) := by decide +kernel
theorem dX12_night_28 : decode cX12_night 28 = .ok (.invokevirtual 371, 3) := by decide +kernel
theorem dX12_night_31 : decode cX12_night 31 = .ok (.aload_n 0, 1) := by decide +kernel
theorem dX12_night_32 : decode cX12_night 32 = .ok (.lload_n 1, 1) := by decide +kernel
theorem dX12_night_33 : decode cX12_night 33 = .ok (.putfield 326, 3) := by decide +kernel
theorem dX12_night_36 : decode cX12_night 36 = .ok (.aload_n 0, 1) := by decide +kernel
theorem dX12_night_37 : decode cX12_night 37 = .ok (.invokevirtual 377, 3) := by decide +kernel
theorem dX12_night_40 : decode cX12_night 40 = .ok (.aload_n 0, 1) := by decide +kernel
theorem dX12_night_41 : decode cX12_night 41 = .ok (.getfield 55, 3) := by decide +kernel
theorem dX12_night_44 : decode cX12_night 44 = .ok (.bipush 48, 2) := by decide +kernel
theorem dX12_night_46 : decode cX12_night 46 = .ok (.iaload, 1) := by decide +kernel
theorem dX12_night_47 : decode cX12_night 47 = .ok (.ireturn, 1) := by decide +kernel
theorem dX12_leaveBook_0 : decode cX12_leaveBook 0 = .ok (.iconst 0, 1) := by decide +kernel
theorem dX12_leaveBook_1 : decode cX12_leaveBook 1 = .ok (.istore_n 2, 1) := by decide +kernel
theorem dX12_leaveBook_2 : decode cX12_leaveBook 2 = .ok (.iconst 0, 1) := by decide +kernel
theorem dX12_leaveBook_3 : decode cX12_leaveBook 3 = .ok (.istore_n 3, 1) := by decide +kernel
theorem dX12_leaveBook_4 : decode cX12_leaveBook 4 = .ok (.iload_n 3, 1) := by decide +kernel
theorem dX12_leaveBook_5 : decode cX12_leaveBook 5 = .ok (.aload_n 0, 1) := by decide +kernel
theorem dX12_leaveBook_6 : decode cX12_leaveBook 6 = .ok (.getfield 55, 3) := by decide +kernel
theorem dX12_leaveBook_9 : decode cX12_leaveBook 9 = .ok (.bipush 51, 2) := by decide +kernel
theorem dX12_leaveBook_11 : decode cX12_leaveBook 11 = .ok (.iaload, 1) := by decide +kernel
theorem dX12_leaveBook_12 : decode cX12_leaveBook 12 = .ok (.if_icmp .ge 61, 3) := by decide +kernel
theorem dX12_leaveBook_15 : decode cX12_leaveBook 15 = .ok (.aload_n 0, 1) := by decide +kernel
theorem dX12_leaveBook_16 : decode cX12_leaveBook 16 = .ok (.iload_n 3, 1) := by decide +kernel
theorem dX12_leaveBook_17 : decode cX12_leaveBook 17 = .ok (.iconst 2, 1) := by decide +kernel
theorem dX12_leaveBook_18 : decode cX12_leaveBook 18 = .ok (.invokevirtual 316, 3) := by decide +kernel
theorem dX12_leaveBook_21 : decode cX12_leaveBook 21 = .ok (.iload_n 1, 1) := by decide +kernel
theorem dX12_leaveBook_22 : decode cX12_leaveBook 22 = .ok (.if_icmp .ne 6, 3) := by decide +kernel
theorem dX12_leaveBook_25 : decode cX12_leaveBook 25 = .ok (.goto 42, 3) := by decide +kernel
theorem dX12_leaveBook_28 : decode cX12_leaveBook 28 = .ok (.iconst 0, 1) := by decide +kernel
theorem dX12_leaveBook_29 : decode cX12_leaveBook 29 = .ok (.istore 4, 2) := by decide +kernel
theorem dX12_leaveBook_31 : decode cX12_leaveBook 31 = .ok (.iload 4, 2) := by decide +kernel
theorem dX12_leaveBook_33 : decode cX12_leaveBook 33 = .ok (.iconst 5, 1) := by decide +kernel
theorem dX12_leaveBook_34 : decode cX12_leaveBook 34 = .ok (.if_icmp .ge 30, 3) := by decide +kernel
theorem dX12_leaveBook_37 : decode cX12_leaveBook 37 = .ok (.aload_n 0, 1) := by decide +kernel
theorem dX12_leaveBook_38 : decode cX12_leaveBook 38 = .ok (.getfield 55, 3) := by decide +kernel
theorem dX12_leaveBook_41 : decode cX12_leaveBook 41 = .ok (.bipush 52, 2) := by decide +kernel
theorem dX12_leaveBook_43 : decode cX12_leaveBook 43 = .ok (.iconst 5, 1) := by decide +kernel
theorem dX12_leaveBook_44 : decode cX12_leaveBook 44 = .ok (.iload_n 2, 1) := by decide +kernel
theorem dX12_leaveBook_45 : decode cX12_leaveBook 45 = .ok (.imul, 1) := by decide +kernel
theorem dX12_leaveBook_46 : decode cX12_leaveBook 46 = .ok (.iadd, 1) := by decide +kernel
theorem dX12_leaveBook_47 : decode cX12_leaveBook 47 = .ok (.iload 4, 2) := by decide +kernel
theorem dX12_leaveBook_49 : decode cX12_leaveBook 49 = .ok (.iadd, 1) := by decide +kernel
theorem dX12_leaveBook_50 : decode cX12_leaveBook 50 = .ok (.aload_n 0, 1) := by decide +kernel
theorem dX12_leaveBook_51 : decode cX12_leaveBook 51 = .ok (.iload_n 3, 1) := by decide +kernel
theorem dX12_leaveBook_52 : decode cX12_leaveBook 52 = .ok (.iload 4, 2) := by decide +kernel
theorem dX12_leaveBook_54 : decode cX12_leaveBook 54 = .ok (.invokevirtual 316, 3) := by decide +kernel
theorem dX12_leaveBook_57 : decode cX12_leaveBook 57 = .ok (.iastore, 1) := by decide +kernel
theorem dX12_leaveBook_58 : decode cX12_leaveBook 58 = .ok (.iinc 4 1, 3) := by decide +kernel
theorem dX12_leaveBook_61 : decode cX12_leaveBook 61 = .ok (.goto (-30), 3) := by decide +kernel
theorem dX12_leaveBook_64 : decode cX12_leaveBook 64 = .ok (.iinc 2 1, 3) := by decide +kernel
theorem dX12_leaveBook_67 : decode cX12_leaveBook 67 = .ok (.iinc 3 1, 3) := by decide +kernel
theorem dX12_leaveBook_70 : decode cX12_leaveBook 70 = .ok (.goto (-66), 3) := by decide +kernel
theorem dX12_leaveBook_73 : decode cX12_leaveBook 73 = .ok (.aload_n 0, 1) := by decide +kernel
theorem dX12_leaveBook_74 : decode cX12_leaveBook 74 = .ok (.getfield 55, 3) := by decide +kernel
theorem dX12_leaveBook_77 : decode cX12_leaveBook 77 = .ok (.bipush 51, 2) := by decide +kernel
theorem dX12_leaveBook_79 : decode cX12_leaveBook 79 = .ok (.iload_n 2, 1) := by decide +kernel
theorem dX12_leaveBook_80 : decode cX12_leaveBook 80 = .ok (.iastore, 1) := by decide +kernel
theorem dX12_leaveBook_81 : decode cX12_leaveBook 81 = .ok (.return_, 1) := by decide +kernel
theorem dX12_judge_0 : decode cX12_judge 0 = .ok (.aload_n 0, 1) := by decide +kernel
theorem dX12_judge_1 : decode cX12_judge 1 = .ok (.iconst 0, 1) := by decide +kernel
theorem dX12_judge_2 : decode cX12_judge 2 = .ok (.putfield 100, 3) := by decide +kernel
theorem dX12_judge_5 : decode cX12_judge 5 = .ok (.aload_n 0, 1) := by decide +kernel
theorem dX12_judge_6 : decode cX12_judge 6 = .ok (.iload_n 1, 1) := by decide +kernel
theorem dX12_judge_7 : decode cX12_judge 7 = .ok (.invokevirtual 347, 3) := by decide +kernel
theorem dX12_judge_10 : decode cX12_judge 10 = .ok (.ifCond .eq 21, 3) := by decide +kernel
theorem dX12_judge_13 : decode cX12_judge 13 = .ok (.aload_n 0, 1) := by decide +kernel
theorem dX12_judge_14 : decode cX12_judge 14 = .ok (.iload_n 1, 1) := by decide +kernel
theorem dX12_judge_15 : decode cX12_judge 15 = .ok (.iconst 5, 1) := by decide +kernel
theorem dX12_judge_16 : decode cX12_judge 16 = .ok (.invokevirtual 301, 3) := by decide +kernel
theorem dX12_judge_19 : decode cX12_judge 19 = .ok (.iconst 1, 1) := by decide +kernel
theorem dX12_judge_20 : decode cX12_judge 20 = .ok (.if_icmp .eq 11, 3) := by decide +kernel
theorem dX12_judge_23 : decode cX12_judge 23 = .ok (.aload_n 0, 1) := by decide +kernel
theorem dX12_judge_24 : decode cX12_judge 24 = .ok (.iload_n 1, 1) := by decide +kernel
theorem dX12_judge_25 : decode cX12_judge 25 = .ok (.invokevirtual 380, 3) := by decide +kernel
theorem dX12_judge_28 : decode cX12_judge 28 = .ok (.ifCond .ne 5, 3) := by decide +kernel
theorem dX12_judge_31 : decode cX12_judge 31 = .ok (.iconst (-1), 1) := by decide +kernel
theorem dX12_judge_32 : decode cX12_judge 32 = .ok (.ireturn, 1) := by decide +kernel
theorem dX12_judge_33 : decode cX12_judge 33 = .ok (.aload_n 0, 1) := by decide +kernel
theorem dX12_judge_34 : decode cX12_judge 34 = .ok (.invokevirtual 371, 3) := by decide +kernel
theorem dX12_judge_37 : decode cX12_judge 37 = .ok (.aload_n 0, 1) := by decide +kernel
theorem dX12_judge_38 : decode cX12_judge 38 = .ok (.iload_n 1, 1) := by decide +kernel
theorem dX12_judge_39 : decode cX12_judge 39 = .ok (.invokevirtual 383, 3) := by decide +kernel
theorem dX12_judge_42 : decode cX12_judge 42 = .ok (.istore_n 2, 1) := by decide +kernel
theorem dX12_judge_43 : decode cX12_judge 43 = .ok (.iload_n 2, 1) := by decide +kernel
theorem dX12_judge_44 : decode cX12_judge 44 = .ok (.aload_n 0, 1) := by decide +kernel
theorem dX12_judge_45 : decode cX12_judge 45 = .ok (.getfield 37, 3) := by decide +kernel
theorem dX12_judge_48 : decode cX12_judge 48 = .ok (.iconst 1, 1) := by decide +kernel
theorem dX12_judge_49 : decode cX12_judge 49 = .ok (.iaload, 1) := by decide +kernel
theorem dX12_judge_50 : decode cX12_judge 50 = .ok (.if_icmp .lt 7, 3) := by decide +kernel
theorem dX12_judge_53 : decode cX12_judge 53 = .ok (.iconst 1, 1) := by decide +kernel
theorem dX12_judge_54 : decode cX12_judge 54 = .ok (.goto 4, 3) := by decide +kernel
theorem dX12_judge_57 : decode cX12_judge 57 = .ok (.iconst 0, 1) := by decide +kernel
theorem dX12_judge_58 : decode cX12_judge 58 = .ok (.istore_n 3, 1) := by decide +kernel
theorem dX12_judge_59 : decode cX12_judge 59 = .ok (.aload_n 0, 1) := by decide +kernel
theorem dX12_judge_60 : decode cX12_judge 60 = .ok (.getfield 55, 3) := by decide +kernel
theorem dX12_judge_63 : decode cX12_judge 63 = .ok (.bipush 6, 2) := by decide +kernel
theorem dX12_judge_65 : decode cX12_judge 65 = .ok (.iload_n 1, 1) := by decide +kernel
theorem dX12_judge_66 : decode cX12_judge 66 = .ok (.imul, 1) := by decide +kernel
theorem dX12_judge_67 : decode cX12_judge 67 = .ok (.iconst 5, 1) := by decide +kernel
theorem dX12_judge_68 : decode cX12_judge 68 = .ok (.iadd, 1) := by decide +kernel
theorem dX12_judge_69 : decode cX12_judge 69 = .ok (.iload_n 3, 1) := by decide +kernel
theorem dX12_judge_70 : decode cX12_judge 70 = .ok (.iastore, 1) := by decide +kernel
theorem dX12_judge_71 : decode cX12_judge 71 = .ok (.aload_n 0, 1) := by decide +kernel
theorem dX12_judge_72 : decode cX12_judge 72 = .ok (.getfield 55, 3) := by decide +kernel
theorem dX12_judge_75 : decode cX12_judge 75 = .ok (.aload_n 0, 1) := by decide +kernel
theorem dX12_judge_76 : decode cX12_judge 76 = .ok (.iload_n 1, 1) := by decide +kernel
theorem dX12_judge_77 : decode cX12_judge 77 = .ok (.iconst 0, 1) := by decide +kernel
theorem dX12_judge_78 : decode cX12_judge 78 = .ok (.invokevirtual 301, 3) := by decide +kernel
theorem dX12_judge_81 : decode cX12_judge 81 = .ok (.ifCond .le 7, 3) := by decide +kernel
theorem dX12_judge_84 : decode cX12_judge 84 = .ok (.iconst 1, 1) := by decide +kernel
theorem dX12_judge_85 : decode cX12_judge 85 = .ok (.goto 4, 3) := by decide +kernel
theorem dX12_judge_88 : decode cX12_judge 88 = .ok (.iconst 0, 1) := by decide +kernel
theorem dX12_judge_89 : decode cX12_judge 89 = .ok (.iload_n 3, 1) := by decide +kernel
theorem dX12_judge_90 : decode cX12_judge 90 = .ok (.iconst 1, 1) := by decide +kernel
theorem dX12_judge_91 : decode cX12_judge 91 = .ok (.if_icmp .ne 7, 3) := by decide +kernel
theorem dX12_judge_94 : decode cX12_judge 94 = .ok (.iconst 1, 1) := by decide +kernel
theorem dX12_judge_95 : decode cX12_judge 95 = .ok (.goto 4, 3) := by decide +kernel
theorem dX12_judge_98 : decode cX12_judge 98 = .ok (.iconst 0, 1) := by decide +kernel
theorem dX12_judge_99 : decode cX12_judge 99 = .ok (.if_icmp .ne 8, 3) := by decide +kernel
theorem dX12_judge_102 : decode cX12_judge 102 = .ok (.bipush 49, 2) := by decide +kernel
theorem dX12_judge_104 : decode cX12_judge 104 = .ok (.goto 5, 3) := by decide +kernel
theorem dX12_judge_107 : decode cX12_judge 107 = .ok (.bipush 50, 2) := by decide +kernel
theorem dX12_judge_109 : decode cX12_judge 109 = .ok (.dup2, 1) := by decide +kernel
theorem dX12_judge_110 : decode cX12_judge 110 = .ok (.iaload, 1) := by decide +kernel
theorem dX12_judge_111 : decode cX12_judge 111 = .ok (.iconst 1, 1) := by decide +kernel
theorem dX12_judge_112 : decode cX12_judge 112 = .ok (.iadd, 1) := by decide +kernel
theorem dX12_judge_113 : decode cX12_judge 113 = .ok (.iastore, 1) := by decide +kernel
theorem dX12_judge_114 : decode cX12_judge 114 = .ok (.aload_n 0, 1) := by decide +kernel
theorem dX12_judge_115 : decode cX12_judge 115 = .ok (.iload_n 1, 1) := by decide +kernel
theorem dX12_judge_116 : decode cX12_judge 116 = .ok (.invokevirtual 386, 3) := by decide +kernel
theorem dX12_judge_119 : decode cX12_judge 119 = .ok (.aload_n 0, 1) := by decide +kernel
theorem dX12_judge_120 : decode cX12_judge 120 = .ok (.getfield 55, 3) := by decide +kernel
theorem dX12_judge_123 : decode cX12_judge 123 = .ok (.sipush 352, 3) := by decide +kernel
theorem dX12_judge_126 : decode cX12_judge 126 = .ok (.iaload, 1) := by decide +kernel
theorem dX12_judge_127 : decode cX12_judge 127 = .ok (.bipush 60, 2) := by decide +kernel
theorem dX12_judge_129 : decode cX12_judge 129 = .ok (.if_icmp .ne 56, 3) := by decide +kernel
theorem dX12_judge_132 : decode cX12_judge 132 = .ok (.iconst 1, 1) := by decide +kernel
theorem dX12_judge_133 : decode cX12_judge 133 = .ok (.istore 4, 2) := by decide +kernel
theorem dX12_judge_135 : decode cX12_judge 135 = .ok (.iload 4, 2) := by decide +kernel
theorem dX12_judge_137 : decode cX12_judge 137 = .ok (.sipush 177, 3) := by decide +kernel
theorem dX12_judge_140 : decode cX12_judge 140 = .ok (.if_icmp .gt 33, 3) := by decide +kernel
theorem dX12_judge_143 : decode cX12_judge 143 = .ok (.aload_n 0, 1) := by decide +kernel
theorem dX12_judge_144 : decode cX12_judge 144 = .ok (.getfield 55, 3) := by decide +kernel
theorem dX12_judge_147 : decode cX12_judge 147 = .ok (.sipush 352, 3) := by decide +kernel
theorem dX12_judge_150 : decode cX12_judge 150 = .ok (.iload 4, 2) := by decide +kernel
theorem dX12_judge_152 : decode cX12_judge 152 = .ok (.iadd, 1) := by decide +kernel
theorem dX12_judge_153 : decode cX12_judge 153 = .ok (.aload_n 0, 1) := by decide +kernel
theorem dX12_judge_154 : decode cX12_judge 154 = .ok (.getfield 55, 3) := by decide +kernel
theorem dX12_judge_157 : decode cX12_judge 157 = .ok (.sipush 352, 3) := by decide +kernel
theorem dX12_judge_160 : decode cX12_judge 160 = .ok (.iload 4, 2) := by decide +kernel
theorem dX12_judge_162 : decode cX12_judge 162 = .ok (.iadd, 1) := by decide +kernel
theorem dX12_judge_163 : decode cX12_judge 163 = .ok (.iconst 3, 1) := by decide +kernel
theorem dX12_judge_164 : decode cX12_judge 164 = .ok (.iadd, 1) := by decide +kernel
theorem dX12_judge_165 : decode cX12_judge 165 = .ok (.iaload, 1) := by decide +kernel
theorem dX12_judge_166 : decode cX12_judge 166 = .ok (.iastore, 1) := by decide +kernel
theorem dX12_judge_167 : decode cX12_judge 167 = .ok (.iinc 4 1, 3) := by decide +kernel
theorem dX12_judge_170 : decode cX12_judge 170 = .ok (.goto (-35), 3) := by decide +kernel
theorem dX12_judge_173 : decode cX12_judge 173 = .ok (.aload_n 0, 1) := by decide +kernel
theorem dX12_judge_174 : decode cX12_judge 174 = .ok (.getfield 55, 3) := by decide +kernel
theorem dX12_judge_177 : decode cX12_judge 177 = .ok (.sipush 352, 3) := by decide +kernel
theorem dX12_judge_180 : decode cX12_judge 180 = .ok (.dup2, 1) := by decide +kernel
theorem dX12_judge_181 : decode cX12_judge 181 = .ok (.iaload, 1) := by decide +kernel
theorem dX12_judge_182 : decode cX12_judge 182 = .ok (.iconst 1, 1) := by decide +kernel
theorem dX12_judge_183 : decode cX12_judge 183 = .ok (.isub, 1) := by decide +kernel
theorem dX12_judge_184 : decode cX12_judge 184 = .ok (.iastore, 1) := by decide +kernel
theorem dX12_judge_185 : decode cX12_judge 185 = .ok (.sipush 353, 3) := by decide +kernel
theorem dX12_judge_188 : decode cX12_judge 188 = .ok (.iconst 3, 1) := by decide +kernel
theorem dX12_judge_189 : decode cX12_judge 189 = .ok (.aload_n 0, 1) := by decide +kernel
theorem dX12_judge_190 : decode cX12_judge 190 = .ok (.getfield 55, 3) := by decide +kernel
theorem dX12_judge_193 : decode cX12_judge 193 = .ok (.sipush 352, 3) := by decide +kernel
theorem dX12_judge_196 : decode cX12_judge 196 = .ok (.iaload, 1) := by decide +kernel
theorem dX12_judge_197 : decode cX12_judge 197 = .ok (.imul, 1) := by decide +kernel
theorem dX12_judge_198 : decode cX12_judge 198 = .ok (.iadd, 1) := by decide +kernel
theorem dX12_judge_199 : decode cX12_judge 199 = .ok (.istore 4, 2) := by decide +kernel
theorem dX12_judge_201 : decode cX12_judge 201 = .ok (.aload_n 0, 1) := by decide +kernel
theorem dX12_judge_202 : decode cX12_judge 202 = .ok (.getfield 55, 3) := by decide +kernel
theorem dX12_judge_205 : decode cX12_judge 205 = .ok (.iload 4, 2) := by decide +kernel
theorem dX12_judge_207 : decode cX12_judge 207 = .ok (.iload_n 1, 1) := by decide +kernel
theorem dX12_judge_208 : decode cX12_judge 208 = .ok (.iastore, 1) := by decide +kernel
theorem dX12_judge_209 : decode cX12_judge 209 = .ok (.aload_n 0, 1) := by decide +kernel
theorem dX12_judge_210 : decode cX12_judge 210 = .ok (.getfield 55, 3) := by decide +kernel
theorem dX12_judge_213 : decode cX12_judge 213 = .ok (.iload 4, 2) := by decide +kernel
theorem dX12_judge_215 : decode cX12_judge 215 = .ok (.iconst 1, 1) := by decide +kernel
theorem dX12_judge_216 : decode cX12_judge 216 = .ok (.iadd, 1) := by decide +kernel
theorem dX12_judge_217 : decode cX12_judge 217 = .ok (.iload_n 3, 1) := by decide +kernel
theorem dX12_judge_218 : decode cX12_judge 218 = .ok (.iastore, 1) := by decide +kernel
theorem dX12_judge_219 : decode cX12_judge 219 = .ok (.aload_n 0, 1) := by decide +kernel
theorem dX12_judge_220 : decode cX12_judge 220 = .ok (.getfield 55, 3) := by decide +kernel
theorem dX12_judge_223 : decode cX12_judge 223 = .ok (.iload 4, 2) := by decide +kernel
theorem dX12_judge_225 : decode cX12_judge 225 = .ok (.iconst 2, 1) := by decide +kernel
theorem dX12_judge_226 : decode cX12_judge 226 = .ok (.iadd, 1) := by decide +kernel
theorem dX12_judge_227 : decode cX12_judge 227 = .ok (.iload_n 2, 1) := by decide +kernel
theorem dX12_judge_228 : decode cX12_judge 228 = .ok (.iastore, 1) := by decide +kernel
theorem dX12_judge_229 : decode cX12_judge 229 = .ok (.aload_n 0, 1) := by decide +kernel
theorem dX12_judge_230 : decode cX12_judge 230 = .ok (.getfield 55, 3) := by decide +kernel
theorem dX12_judge_233 : decode cX12_judge 233 = .ok (.sipush 352, 3) := by decide +kernel
theorem dX12_judge_236 : decode cX12_judge 236 = .ok (.dup2, 1) := by decide +kernel
theorem dX12_judge_237 : decode cX12_judge 237 = .ok (.iaload, 1) := by decide +kernel
theorem dX12_judge_238 : decode cX12_judge 238 = .ok (.iconst 1, 1) := by decide +kernel
theorem dX12_judge_239 : decode cX12_judge 239 = .ok (.iadd, 1) := by decide +kernel
theorem dX12_judge_240 : decode cX12_judge 240 = .ok (.iastore, 1) := by decide +kernel
theorem dX12_judge_241 : decode cX12_judge 241 = .ok (.iload_n 3, 1) := by decide +kernel
theorem dX12_judge_242 : decode cX12_judge 242 = .ok (.ireturn, 1) := by decide +kernel
theorem dX12_years_0 : decode cX12_years 0 = .ok (.aload_n 0, 1) := by decide +kernel
theorem dX12_years_1 : decode cX12_years 1 = .ok (.iconst 0, 1) := by decide +kernel
theorem dX12_years_2 : decode cX12_years 2 = .ok (.putfield 100, 3) := by decide +kernel
theorem dX12_years_5 : decode cX12_years 5 = .ok (.aload_n 0, 1) := by decide +kernel
theorem dX12_years_6 : decode cX12_years 6 = .ok (.getfield 286, 3) := by decide +kernel
theorem dX12_years_9 : decode cX12_years 9 = .ok (.ifCond .eq 30, 3) := by decide +kernel
theorem dX12_years_12 : decode cX12_years 12 = .ok (.iload_n 1, 1) := by decide +kernel
theorem dX12_years_13 : decode cX12_years 13 = .ok (.i2l, 1) := by decide +kernel
theorem dX12_years_14 : decode cX12_years 14 = .ok (.lconst 1, 1) := by decide +kernel
theorem dX12_years_15 : decode cX12_years 15 = .ok (.ldc2_w 389, 3) := by decide +kernel
theorem dX12_years_18 : decode cX12_years 18 = .ok (.invokestatic 221, 3) := by decide +kernel
theorem dX12_years_21 : decode cX12_years 21 = .ok (.ifCond .eq 18, 3) := by decide +kernel
theorem dX12_years_24 : decode cX12_years 24 = .ok (.aload_n 0, 1) := by decide +kernel
theorem dX12_years_25 : decode cX12_years 25 = .ok (.getfield 55, 3) := by decide +kernel
theorem dX12_years_28 : decode cX12_years 28 = .ok (.bipush 48, 2) := by decide +kernel
theorem dX12_years_30 : decode cX12_years 30 = .ok (.iaload, 1) := by decide +kernel
theorem dX12_years_31 : decode cX12_years 31 = .ok (.iload_n 1, 1) := by decide +kernel
theorem dX12_years_32 : decode cX12_years 32 = .ok (.iadd, 1) := by decide +kernel
theorem dX12_years_33 : decode cX12_years 33 = .ok (.sipush 999, 3) := by decide +kernel
theorem dX12_years_36 : decode cX12_years 36 = .ok (.if_icmp .le 5, 3) := by decide +kernel
theorem dX12_years_39 : decode cX12_years 39 = .ok (.iconst (-1), 1) := by decide +kernel
theorem dX12_years_40 : decode cX12_years 40 = .ok (.ireturn, 1) := by decide +kernel
theorem dX12_years_41 : decode cX12_years 41 = .ok (.aload_n 0, 1) := by decide +kernel
theorem dX12_years_42 : decode cX12_years 42 = .ok (.lload_n 2, 1) := by decide +kernel
theorem dX12_years_43 : decode cX12_years 43 = .ok (.putfield 326, 3) := by decide +kernel
theorem dX12_years_46 : decode cX12_years 46 = .ok (.iconst 0, 1) := by decide +kernel
theorem dX12_years_47 : decode cX12_years 47 = .ok (.istore 4, 2) := by decide +kernel
theorem dX12_years_49 : decode cX12_years 49 = .ok (.iload 4, 2) := by decide +kernel
theorem dX12_years_51 : decode cX12_years 51 = .ok (.iload_n 1, 1) := by decide +kernel
theorem dX12_years_52 : decode cX12_years 52 = .ok (.if_icmp .ge 94, 3) := by decide +kernel
theorem dX12_years_55 : decode cX12_years 55 = .ok (.aload_n 0, 1) := by decide +kernel
theorem dX12_years_56 : decode cX12_years 56 = .ok (.invokevirtual 371, 3) := by decide +kernel
theorem dX12_years_59 : decode cX12_years 59 = .ok (.aload_n 0, 1) := by decide +kernel
theorem dX12_years_60 : decode cX12_years 60 = .ok (.aload_n 0, 1) := by decide +kernel
theorem dX12_years_61 : decode cX12_years 61 = .ok (.getfield 286, 3) := by decide +kernel
theorem dX12_years_64 : decode cX12_years 64 = .ok (.invokevirtual 337, 3) := by decide +kernel
theorem dX12_years_67 : decode cX12_years 67 = .ok (.istore 5, 2) := by decide +kernel
theorem dX12_years_69 : decode cX12_years 69 = .ok (.aload_n 0, 1) := by decide +kernel
theorem dX12_years_70 : decode cX12_years 70 = .ok (.getfield 55, 3) := by decide +kernel
theorem dX12_years_73 : decode cX12_years 73 = .ok (.bipush 6, 2) := by decide +kernel
theorem dX12_years_75 : decode cX12_years 75 = .ok (.iload 5, 2) := by decide +kernel
theorem dX12_years_77 : decode cX12_years 77 = .ok (.imul, 1) := by decide +kernel
theorem dX12_years_78 : decode cX12_years 78 = .ok (.iconst 1, 1) := by decide +kernel
theorem dX12_years_79 : decode cX12_years 79 = .ok (.iadd, 1) := by decide +kernel
theorem dX12_years_80 : decode cX12_years 80 = .ok (.aload_n 0, 1) := by decide +kernel
theorem dX12_years_81 : decode cX12_years 81 = .ok (.bipush 10, 2) := by decide +kernel
theorem dX12_years_83 : decode cX12_years 83 = .ok (.invokevirtual 337, 3) := by decide +kernel
theorem dX12_years_86 : decode cX12_years 86 = .ok (.iastore, 1) := by decide +kernel
theorem dX12_years_87 : decode cX12_years 87 = .ok (.aload_n 0, 1) := by decide +kernel
theorem dX12_years_88 : decode cX12_years 88 = .ok (.bipush 10, 2) := by decide +kernel
theorem dX12_years_90 : decode cX12_years 90 = .ok (.invokevirtual 337, 3) := by decide +kernel
theorem dX12_years_93 : decode cX12_years 93 = .ok (.aload_n 0, 1) := by decide +kernel
theorem dX12_years_94 : decode cX12_years 94 = .ok (.getfield 363, 3) := by decide +kernel
theorem dX12_years_97 : decode cX12_years 97 = .ok (.if_icmp .ge 39, 3) := by decide +kernel
theorem dX12_years_100 : decode cX12_years 100 = .ok (.aload_n 0, 1) := by decide +kernel
theorem dX12_years_101 : decode cX12_years 101 = .ok (.aload_n 0, 1) := by decide +kernel
theorem dX12_years_102 : decode cX12_years 102 = .ok (.getfield 286, 3) := by decide +kernel
theorem dX12_years_105 : decode cX12_years 105 = .ok (.invokevirtual 337, 3) := by decide +kernel
theorem dX12_years_108 : decode cX12_years 108 = .ok (.istore 6, 2) := by decide +kernel
theorem dX12_years_110 : decode cX12_years 110 = .ok (.aload_n 0, 1) := by decide +kernel
theorem dX12_years_111 : decode cX12_years 111 = .ok (.getfield 55, 3) := by decide +kernel
theorem dX12_years_114 : decode cX12_years 114 = .ok (.bipush 6, 2) := by decide +kernel
theorem dX12_years_116 : decode cX12_years 116 = .ok (.iload 6, 2) := by decide +kernel
theorem dX12_years_118 : decode cX12_years 118 = .ok (.imul, 1) := by decide +kernel
theorem dX12_years_119 : decode cX12_years 119 = .ok (.iconst 0, 1) := by decide +kernel
theorem dX12_years_120 : decode cX12_years 120 = .ok (.iadd, 1) := by decide +kernel
theorem dX12_years_121 : decode cX12_years 121 = .ok (.bipush 9, 2) := by decide +kernel
theorem dX12_years_123 : decode cX12_years 123 = .ok (.aload_n 0, 1) := by decide +kernel
theorem dX12_years_124 : decode cX12_years 124 = .ok (.iload 6, 2) := by decide +kernel
theorem dX12_years_126 : decode cX12_years 126 = .ok (.iconst 0, 1) := by decide +kernel
theorem dX12_years_127 : decode cX12_years 127 = .ok (.invokevirtual 301, 3) := by decide +kernel
theorem dX12_years_130 : decode cX12_years 130 = .ok (.iconst 3, 1) := by decide +kernel
theorem dX12_years_131 : decode cX12_years 131 = .ok (.iadd, 1) := by decide +kernel
theorem dX12_years_132 : decode cX12_years 132 = .ok (.invokestatic 308, 3) := by decide +kernel
theorem dX12_years_135 : decode cX12_years 135 = .ok (.iastore, 1) := by decide +kernel
theorem dX12_years_136 : decode cX12_years 136 = .ok (.aload_n 0, 1) := by decide +kernel
theorem dX12_years_137 : decode cX12_years 137 = .ok (.invokevirtual 377, 3) := by decide +kernel
theorem dX12_years_140 : decode cX12_years 140 = .ok (.iinc 4 1, 3) := by decide +kernel
theorem dX12_years_143 : decode cX12_years 143 = .ok (.goto (-94), 3) := by decide +kernel
theorem dX12_years_146 : decode cX12_years 146 = .ok (.aload_n 0, 1) := by decide +kernel
theorem dX12_years_147 : decode cX12_years 147 = .ok (.getfield 55, 3) := by decide +kernel
theorem dX12_years_150 : decode cX12_years 150 = .ok (.bipush 48, 2) := by decide +kernel
theorem dX12_years_152 : decode cX12_years 152 = .ok (.iaload, 1) := by decide +kernel
theorem dX12_years_153 : decode cX12_years 153 = .ok (.ireturn, 1) := by decide +kernel
theorem dX12_undo_0 : decode cX12_undo 0 = .ok (.aload_n 0, 1) := by decide +kernel
theorem dX12_undo_1 : decode cX12_undo 1 = .ok (.iconst 0, 1) := by decide +kernel
theorem dX12_undo_2 : decode cX12_undo 2 = .ok (.putfield 100, 3) := by decide +kernel
theorem dX12_undo_5 : decode cX12_undo 5 = .ok (.aload_n 0, 1) := by decide +kernel
theorem dX12_undo_6 : decode cX12_undo 6 = .ok (.getfield 292, 3) := by decide +kernel
theorem dX12_undo_9 : decode cX12_undo 9 = .ok (.ifCond .ne 5, 3) := by decide +kernel
theorem dX12_undo_12 : decode cX12_undo 12 = .ok (.iconst (-1), 1) := by decide +kernel
theorem dX12_undo_13 : decode cX12_undo 13 = .ok (.ireturn, 1) := by decide +kernel
theorem dX12_undo_14 : decode cX12_undo 14 = .ok (.aload_n 0, 1) := by decide +kernel
theorem dX12_undo_15 : decode cX12_undo 15 = .ok (.dup, 1) := by decide +kernel
theorem dX12_undo_16 : decode cX12_undo 16 = .ok (.getfield 292, 3) := by decide +kernel
theorem dX12_undo_19 : decode cX12_undo 19 = .ok (.iconst 1, 1) := by decide +kernel
theorem dX12_undo_20 : decode cX12_undo 20 = .ok (.isub, 1) := by decide +kernel
theorem dX12_undo_21 : decode cX12_undo 21 = .ok (.putfield 292, 3) := by decide +kernel
theorem dX12_undo_24 : decode cX12_undo 24 = .ok (.iconst 0, 1) := by decide +kernel
theorem dX12_undo_25 : decode cX12_undo 25 = .ok (.istore_n 1, 1) := by decide +kernel
theorem dX12_undo_26 : decode cX12_undo 26 = .ok (.iload_n 1, 1) := by decide +kernel
theorem dX12_undo_27 : decode cX12_undo 27 = .ok (.sipush 533, 3) := by decide +kernel
theorem dX12_undo_30 : decode cX12_undo 30 = .ok (.if_icmp .ge 30, 3) := by decide +kernel
theorem dX12_undo_33 : decode cX12_undo 33 = .ok (.aload_n 0, 1) := by decide +kernel
theorem dX12_undo_34 : decode cX12_undo 34 = .ok (.getfield 55, 3) := by decide +kernel
theorem dX12_undo_37 : decode cX12_undo 37 = .ok (.iload_n 1, 1) := by decide +kernel
theorem dX12_undo_38 : decode cX12_undo 38 = .ok (.aload_n 0, 1) := by decide +kernel
theorem dX12_undo_39 : decode cX12_undo 39 = .ok (.getfield 68, 3) := by decide +kernel
theorem dX12_undo_42 : decode cX12_undo 42 = .ok (.sipush 533, 3) := by decide +kernel
theorem dX12_undo_45 : decode cX12_undo 45 = .ok (.aload_n 0, 1) := by decide +kernel
theorem dX12_undo_46 : decode cX12_undo 46 = .ok (.getfield 292, 3) := by decide +kernel
theorem dX12_undo_49 : decode cX12_undo 49 = .ok (.imul, 1) := by decide +kernel
theorem dX12_undo_50 : decode cX12_undo 50 = .ok (.iload_n 1, 1) := by decide +kernel
theorem dX12_undo_51 : decode cX12_undo 51 = .ok (.iadd, 1) := by decide +kernel
theorem dX12_undo_52 : decode cX12_undo 52 = .ok (.iaload, 1) := by decide +kernel
theorem dX12_undo_53 : decode cX12_undo 53 = .ok (.iastore, 1) := by decide +kernel
theorem dX12_undo_54 : decode cX12_undo 54 = .ok (.iinc 1 1, 3) := by decide +kernel
theorem dX12_undo_57 : decode cX12_undo 57 = .ok (.goto (-31), 3) := by decide +kernel
theorem dX12_undo_60 : decode cX12_undo 60 = .ok (.aload_n 0, 1) := by decide +kernel
theorem dX12_undo_61 : decode cX12_undo 61 = .ok (.getfield 292, 3) := by decide +kernel
theorem dX12_undo_64 : decode cX12_undo 64 = .ok (.ireturn, 1) := by decide +kernel
theorem dX12_log_0 : decode cX12_log 0 = .ok (.aload_n 0, 1) := by decide +kernel
theorem dX12_log_1 : decode cX12_log 1 = .ok (.iconst 0, 1) := by decide +kernel
theorem dX12_log_2 : decode cX12_log 2 = .ok (.putfield 100, 3) := by decide +kernel
theorem dX12_log_5 : decode cX12_log 5 = .ok (.iload_n 1, 1) := by decide +kernel
theorem dX12_log_6 : decode cX12_log 6 = .ok (.i2l, 1) := by decide +kernel
theorem dX12_log_7 : decode cX12_log 7 = .ok (.lconst 0, 1) := by decide +kernel
theorem dX12_log_8 : decode cX12_log 8 = .ok (.aload_n 0, 1) := by decide +kernel
theorem dX12_log_9 : decode cX12_log 9 = .ok (.getfield 55, 3) := by decide +kernel
theorem dX12_log_12 : decode cX12_log 12 = .ok (.sipush 352, 3) := by decide +kernel
theorem dX12_log_15 : decode cX12_log 15 = .ok (.iaload, 1) := by decide +kernel
theorem dX12_log_16 : decode cX12_log 16 = .ok (.iconst 1, 1) := by decide +kernel
theorem dX12_log_17 : decode cX12_log 17 = .ok (.isub, 1) := by decide +kernel
theorem dX12_log_18 : decode cX12_log 18 = .ok (.i2l, 1) := by decide +kernel
theorem dX12_log_19 : decode cX12_log 19 = .ok (.invokestatic 221, 3) := by decide +kernel
theorem dX12_log_22 : decode cX12_log 22 = .ok (.ifCond .eq 43, 3) := by decide +kernel
theorem dX12_log_25 : decode cX12_log 25 = .ok (.iload_n 2, 1) := by decide +kernel
theorem dX12_log_26 : decode cX12_log 26 = .ok (.i2l, 1) := by decide +kernel
theorem dX12_log_27 : decode cX12_log 27 = .ok (.lconst 0, 1) := by decide +kernel
theorem dX12_log_28 : decode cX12_log 28 = .ok (.ldc2_w 266, 3) := by decide +kernel
theorem dX12_log_31 : decode cX12_log 31 = .ok (.invokestatic 221, 3) := by decide +kernel
theorem dX12_log_34 : decode cX12_log 34 = .ok (.ifCond .eq 31, 3) := by decide +kernel
theorem dX12_log_37 : decode cX12_log 37 = .ok (.aload_n 0, 1) := by decide +kernel
theorem dX12_log_38 : decode cX12_log 38 = .ok (.getfield 55, 3) := by decide +kernel
theorem dX12_log_41 : decode cX12_log 41 = .ok (.sipush 353, 3) := by decide +kernel
theorem dX12_log_44 : decode cX12_log 44 = .ok (.iconst 3, 1) := by decide +kernel
theorem dX12_log_45 : decode cX12_log 45 = .ok (.aload_n 0, 1) := by decide +kernel
theorem dX12_log_46 : decode cX12_log 46 = .ok (.getfield 55, 3) := by decide +kernel
theorem dX12_log_49 : decode cX12_log 49 = .ok (.sipush 352, 3) := by decide +kernel
theorem dX12_log_52 : decode cX12_log 52 = .ok (.iaload, 1) := by decide +kernel
theorem dX12_log_53 : decode cX12_log 53 = .ok (.iconst 1, 1) := by decide +kernel
theorem dX12_log_54 : decode cX12_log 54 = .ok (.isub, 1) := by decide +kernel
theorem dX12_log_55 : decode cX12_log 55 = .ok (.iload_n 1, 1) := by decide +kernel
theorem dX12_log_56 : decode cX12_log 56 = .ok (.isub, 1) := by decide +kernel
theorem dX12_log_57 : decode cX12_log 57 = .ok (.imul, 1) := by decide +kernel
theorem dX12_log_58 : decode cX12_log 58 = .ok (.iadd, 1) := by decide +kernel
theorem dX12_log_59 : decode cX12_log 59 = .ok (.iload_n 2, 1) := by decide +kernel
theorem dX12_log_60 : decode cX12_log 60 = .ok (.iadd, 1) := by decide +kernel
theorem dX12_log_61 : decode cX12_log 61 = .ok (.iaload, 1) := by decide +kernel
theorem dX12_log_62 : decode cX12_log 62 = .ok (.goto 6, 3) := by decide +kernel
theorem dX12_log_65 : decode cX12_log 65 = .ok (.ldc_w 360, 3) := by decide +kernel
theorem dX12_log_68 : decode cX12_log 68 = .ok (.ireturn, 1) := by decide +kernel
theorem dX12_book_0 : decode cX12_book 0 = .ok (.aload_n 0, 1) := by decide +kernel
theorem dX12_book_1 : decode cX12_book 1 = .ok (.iconst 0, 1) := by decide +kernel
theorem dX12_book_2 : decode cX12_book 2 = .ok (.putfield 100, 3) := by decide +kernel
theorem dX12_book_5 : decode cX12_book 5 = .ok (.iload_n 1, 1) := by decide +kernel
theorem dX12_book_6 : decode cX12_book 6 = .ok (.i2l, 1) := by decide +kernel
theorem dX12_book_7 : decode cX12_book 7 = .ok (.lconst 0, 1) := by decide +kernel
theorem dX12_book_8 : decode cX12_book 8 = .ok (.aload_n 0, 1) := by decide +kernel
theorem dX12_book_9 : decode cX12_book 9 = .ok (.getfield 55, 3) := by decide +kernel
theorem dX12_book_12 : decode cX12_book 12 = .ok (.bipush 51, 2) := by decide +kernel
theorem dX12_book_14 : decode cX12_book 14 = .ok (.iaload, 1) := by decide +kernel
theorem dX12_book_15 : decode cX12_book 15 = .ok (.iconst 1, 1) := by decide +kernel
theorem dX12_book_16 : decode cX12_book 16 = .ok (.isub, 1) := by decide +kernel
theorem dX12_book_17 : decode cX12_book 17 = .ok (.i2l, 1) := by decide +kernel
theorem dX12_book_18 : decode cX12_book 18 = .ok (.invokestatic 221, 3) := by decide +kernel
theorem dX12_book_21 : decode cX12_book 21 = .ok (.ifCond .eq 34, 3) := by decide +kernel
theorem dX12_book_24 : decode cX12_book 24 = .ok (.iload_n 2, 1) := by decide +kernel
theorem dX12_book_25 : decode cX12_book 25 = .ok (.i2l, 1) := by decide +kernel
theorem dX12_book_26 : decode cX12_book 26 = .ok (.lconst 0, 1) := by decide +kernel
theorem dX12_book_27 : decode cX12_book 27 = .ok (.ldc2_w 391, 3) := by decide +kernel
theorem dX12_book_30 : decode cX12_book 30 = .ok (.invokestatic 221, 3) := by decide +kernel
theorem dX12_book_33 : decode cX12_book 33 = .ok (.ifCond .eq 22, 3) := by decide +kernel
theorem dX12_book_36 : decode cX12_book 36 = .ok (.aload_n 0, 1) := by decide +kernel
theorem dX12_book_37 : decode cX12_book 37 = .ok (.aload_n 0, 1) := by decide +kernel
theorem dX12_book_38 : decode cX12_book 38 = .ok (.getfield 55, 3) := by decide +kernel
theorem dX12_book_41 : decode cX12_book 41 = .ok (.bipush 51, 2) := by decide +kernel
theorem dX12_book_43 : decode cX12_book 43 = .ok (.iaload, 1) := by decide +kernel
theorem dX12_book_44 : decode cX12_book 44 = .ok (.iconst 1, 1) := by decide +kernel
theorem dX12_book_45 : decode cX12_book 45 = .ok (.isub, 1) := by decide +kernel
theorem dX12_book_46 : decode cX12_book 46 = .ok (.iload_n 1, 1) := by decide +kernel
theorem dX12_book_47 : decode cX12_book 47 = .ok (.isub, 1) := by decide +kernel
theorem dX12_book_48 : decode cX12_book 48 = .ok (.iload_n 2, 1) := by decide +kernel
theorem dX12_book_49 : decode cX12_book 49 = .ok (.invokevirtual 316, 3) := by decide +kernel
theorem dX12_book_52 : decode cX12_book 52 = .ok (.goto 4, 3) := by decide +kernel
theorem dX12_book_55 : decode cX12_book 55 = .ok (.iconst (-1), 1) := by decide +kernel
theorem dX12_book_56 : decode cX12_book 56 = .ok (.ireturn, 1) := by decide +kernel
theorem dX12_points_0 : decode cX12_points 0 = .ok (.aload_n 0, 1) := by decide +kernel
theorem dX12_points_1 : decode cX12_points 1 = .ok (.iconst 0, 1) := by decide +kernel
theorem dX12_points_2 : decode cX12_points 2 = .ok (.putfield 100, 3) := by decide +kernel
theorem dX12_points_5 : decode cX12_points 5 = .ok (.aload_n 0, 1) := by decide +kernel
theorem dX12_points_6 : decode cX12_points 6 = .ok (.iload_n 1, 1) := by decide +kernel
theorem dX12_points_7 : decode cX12_points 7 = .ok (.invokevirtual 347, 3) := by decide +kernel
theorem dX12_points_10 : decode cX12_points 10 = .ok (.ifCond .eq 11, 3) := by decide +kernel
theorem dX12_points_13 : decode cX12_points 13 = .ok (.aload_n 0, 1) := by decide +kernel
theorem dX12_points_14 : decode cX12_points 14 = .ok (.iload_n 1, 1) := by decide +kernel
theorem dX12_points_15 : decode cX12_points 15 = .ok (.invokevirtual 383, 3) := by decide +kernel
theorem dX12_points_18 : decode cX12_points 18 = .ok (.goto 6, 3) := by decide +kernel
theorem dX12_points_21 : decode cX12_points 21 = .ok (.ldc_w 360, 3) := by decide +kernel
theorem dX12_points_24 : decode cX12_points 24 = .ok (.ireturn, 1) := by decide +kernel
theorem dX12_sleepsOf_0 : decode cX12_sleepsOf 0 = .ok (.ldc2_w 393, 3) := by decide +kernel
theorem dX12_sleepsOf_3 : decode cX12_sleepsOf 3 = .ok (.lstore_n 2, 1) := by decide +kernel
theorem dX12_sleepsOf_4 : decode cX12_sleepsOf 4 = .ok (.iconst 0, 1) := by decide +kernel
theorem dX12_sleepsOf_5 : decode cX12_sleepsOf 5 = .ok (.istore 4, 2) := by decide +kernel
theorem dX12_sleepsOf_7 : decode cX12_sleepsOf 7 = .ok (.iload 4, 2) := by decide +kernel
theorem dX12_sleepsOf_9 : decode cX12_sleepsOf 9 = .ok (.aload_n 0, 1) := by decide +kernel
theorem dX12_sleepsOf_10 : decode cX12_sleepsOf 10 = .ok (.getfield 37, 3) := by decide +kernel
theorem dX12_sleepsOf_13 : decode cX12_sleepsOf 13 = .ok (.iconst 0, 1) := by decide +kernel
theorem dX12_sleepsOf_14 : decode cX12_sleepsOf 14 = .ok (.iaload, 1) := by decide +kernel
theorem dX12_sleepsOf_15 : decode cX12_sleepsOf 15 = .ok (.if_icmp .ge 27, 3) := by decide +kernel
theorem dX12_sleepsOf_18 : decode cX12_sleepsOf 18 = .ok (.lload_n 2, 1) := by decide +kernel
theorem dX12_sleepsOf_19 : decode cX12_sleepsOf 19 = .ok (.bipush 10, 2) := by decide +kernel
theorem dX12_sleepsOf_21 : decode cX12_sleepsOf 21 = .ok (.aload_n 0, 1) := by decide +kernel
theorem dX12_sleepsOf_22 : decode cX12_sleepsOf 22 = .ok (.iload_n 1, 1) := by decide +kernel
theorem dX12_sleepsOf_23 : decode cX12_sleepsOf 23 = .ok (.iload 4, 2) := by decide +kernel
theorem dX12_sleepsOf_25 : decode cX12_sleepsOf 25 = .ok (.invokevirtual 340, 3) := by decide +kernel
theorem dX12_sleepsOf_28 : decode cX12_sleepsOf 28 = .ok (.isub, 1) := by decide +kernel
theorem dX12_sleepsOf_29 : decode cX12_sleepsOf 29 = .ok (.i2l, 1) := by decide +kernel
theorem dX12_sleepsOf_30 : decode cX12_sleepsOf 30 = .ok (.lmul, 1) := by decide +kernel
theorem dX12_sleepsOf_31 : decode cX12_sleepsOf 31 = .ok (.ldc2_w 395, 3) := by decide +kernel
theorem dX12_sleepsOf_34 : decode cX12_sleepsOf 34 = .ok (.ldiv, 1) := by decide +kernel
theorem dX12_sleepsOf_35 : decode cX12_sleepsOf 35 = .ok (.lstore_n 2, 1) := by decide +kernel
theorem dX12_sleepsOf_36 : decode cX12_sleepsOf 36 = .ok (.iinc 4 1, 3) := by decide +kernel
theorem dX12_sleepsOf_39 : decode cX12_sleepsOf 39 = .ok (.goto (-32), 3) := by decide +kernel
theorem dX12_sleepsOf_42 : decode cX12_sleepsOf 42 = .ok (.lload_n 2, 1) := by decide +kernel
theorem dX12_sleepsOf_43 : decode cX12_sleepsOf 43 = .ok (.l2i, 1) := by decide +kernel
theorem dX12_sleepsOf_44 : decode cX12_sleepsOf 44 = .ok (.ireturn, 1) := by decide +kernel
theorem dX12_sleeps_0 : decode cX12_sleeps 0 = .ok (.aload_n 0, 1) := by decide +kernel
theorem dX12_sleeps_1 : decode cX12_sleeps 1 = .ok (.iconst 0, 1) := by decide +kernel
theorem dX12_sleeps_2 : decode cX12_sleeps 2 = .ok (.putfield 100, 3) := by decide +kernel
theorem dX12_sleeps_5 : decode cX12_sleeps 5 = .ok (.aload_n 0, 1) := by decide +kernel
theorem dX12_sleeps_6 : decode cX12_sleeps 6 = .ok (.iload_n 1, 1) := by decide +kernel
theorem dX12_sleeps_7 : decode cX12_sleeps 7 = .ok (.invokevirtual 347, 3) := by decide +kernel
theorem dX12_sleeps_10 : decode cX12_sleeps 10 = .ok (.ifCond .eq 11, 3) := by decide +kernel
theorem dX12_sleeps_13 : decode cX12_sleeps 13 = .ok (.aload_n 0, 1) := by decide +kernel
theorem dX12_sleeps_14 : decode cX12_sleeps 14 = .ok (.iload_n 1, 1) := by decide +kernel
theorem dX12_sleeps_15 : decode cX12_sleeps 15 = .ok (.invokevirtual 397, 3) := by decide +kernel
theorem dX12_sleeps_18 : decode cX12_sleeps 18 = .ok (.goto 4, 3) := by decide +kernel
theorem dX12_sleeps_21 : decode cX12_sleeps 21 = .ok (.iconst (-1), 1) := by decide +kernel
theorem dX12_sleeps_22 : decode cX12_sleeps 22 = .ok (.ireturn, 1) := by decide +kernel
theorem dX12_awake_0 : decode cX12_awake 0 = .ok (.aload_n 0, 1) := by decide +kernel
theorem dX12_awake_1 : decode cX12_awake 1 = .ok (.iconst 0, 1) := by decide +kernel
theorem dX12_awake_2 : decode cX12_awake 2 = .ok (.putfield 100, 3) := by decide +kernel
theorem dX12_awake_5 : decode cX12_awake 5 = .ok (.aload_n 0, 1) := by decide +kernel
theorem dX12_awake_6 : decode cX12_awake 6 = .ok (.iload_n 1, 1) := by decide +kernel
theorem dX12_awake_7 : decode cX12_awake 7 = .ok (.invokevirtual 347, 3) := by decide +kernel
theorem dX12_awake_10 : decode cX12_awake 10 = .ok (.ifCond .eq 15, 3) := by decide +kernel
theorem dX12_awake_13 : decode cX12_awake 13 = .ok (.iload_n 2, 1) := by decide +kernel
theorem dX12_awake_14 : decode cX12_awake 14 = .ok (.i2l, 1) := by decide +kernel
theorem dX12_awake_15 : decode cX12_awake 15 = .ok (.lconst 0, 1) := by decide +kernel
theorem dX12_awake_16 : decode cX12_awake 16 = .ok (.ldc2_w 361, 3) := by decide +kernel
theorem dX12_awake_19 : decode cX12_awake 19 = .ok (.invokestatic 221, 3) := by decide +kernel
theorem dX12_awake_22 : decode cX12_awake 22 = .ok (.ifCond .ne 5, 3) := by decide +kernel
theorem dX12_awake_25 : decode cX12_awake 25 = .ok (.iconst (-1), 1) := by decide +kernel
theorem dX12_awake_26 : decode cX12_awake 26 = .ok (.ireturn, 1) := by decide +kernel
theorem dX12_awake_27 : decode cX12_awake 27 = .ok (.iconst 0, 1) := by decide +kernel
theorem dX12_awake_28 : decode cX12_awake 28 = .ok (.istore_n 3, 1) := by decide +kernel
theorem dX12_awake_29 : decode cX12_awake 29 = .ok (.iload_n 3, 1) := by decide +kernel
theorem dX12_awake_30 : decode cX12_awake 30 = .ok (.aload_n 0, 1) := by decide +kernel
theorem dX12_awake_31 : decode cX12_awake 31 = .ok (.getfield 71, 3) := by decide +kernel
theorem dX12_awake_34 : decode cX12_awake 34 = .ok (.arraylength, 1) := by decide +kernel
theorem dX12_awake_35 : decode cX12_awake 35 = .ok (.if_icmp .ge 26, 3) := by decide +kernel
theorem dX12_awake_38 : decode cX12_awake 38 = .ok (.aload_n 0, 1) := by decide +kernel
theorem dX12_awake_39 : decode cX12_awake 39 = .ok (.getfield 71, 3) := by decide +kernel
theorem dX12_awake_42 : decode cX12_awake 42 = .ok (.iload_n 3, 1) := by decide +kernel
theorem dX12_awake_43 : decode cX12_awake 43 = .ok (.iload_n 3, 1) := by decide +kernel
theorem dX12_awake_44 : decode cX12_awake 44 = .ok (.ifCond .ne 9, 3) := by decide +kernel
theorem dX12_awake_47 : decode cX12_awake 47 = .ok (.ldc2_w 393, 3) := by decide +kernel
theorem dX12_awake_50 : decode cX12_awake 50 = .ok (.goto 4, 3) := by decide +kernel
theorem dX12_awake_53 : decode cX12_awake 53 = .ok (.lconst 0, 1) := by decide +kernel
theorem dX12_awake_54 : decode cX12_awake 54 = .ok (.lastore, 1) := by decide +kernel
theorem dX12_awake_55 : decode cX12_awake 55 = .ok (.iinc 3 1, 3) := by decide +kernel
theorem dX12_awake_58 : decode cX12_awake 58 = .ok (.goto (-29), 3) := by decide +kernel
theorem dX12_awake_61 : decode cX12_awake 61 = .ok (.iconst 0, 1) := by decide +kernel
theorem dX12_awake_62 : decode cX12_awake 62 = .ok (.istore_n 3, 1) := by decide +kernel
theorem dX12_awake_63 : decode cX12_awake 63 = .ok (.iload_n 3, 1) := by decide +kernel
theorem dX12_awake_64 : decode cX12_awake 64 = .ok (.aload_n 0, 1) := by decide +kernel
theorem dX12_awake_65 : decode cX12_awake 65 = .ok (.getfield 37, 3) := by decide +kernel
theorem dX12_awake_68 : decode cX12_awake 68 = .ok (.iconst 0, 1) := by decide +kernel
theorem dX12_awake_69 : decode cX12_awake 69 = .ok (.iaload, 1) := by decide +kernel
theorem dX12_awake_70 : decode cX12_awake 70 = .ok (.if_icmp .ge 75, 3) := by decide +kernel
theorem dX12_awake_73 : decode cX12_awake 73 = .ok (.aload_n 0, 1) := by decide +kernel
theorem dX12_awake_74 : decode cX12_awake 74 = .ok (.iload_n 1, 1) := by decide +kernel
theorem dX12_awake_75 : decode cX12_awake 75 = .ok (.iload_n 3, 1) := by decide +kernel
theorem dX12_awake_76 : decode cX12_awake 76 = .ok (.invokevirtual 340, 3) := by decide +kernel
theorem dX12_awake_79 : decode cX12_awake 79 = .ok (.istore 4, 2) := by decide +kernel
theorem dX12_awake_81 : decode cX12_awake 81 = .ok (.bipush 9, 2) := by decide +kernel
theorem dX12_awake_83 : decode cX12_awake 83 = .ok (.istore 5, 2) := by decide +kernel
theorem dX12_awake_85 : decode cX12_awake 85 = .ok (.iload 5, 2) := by decide +kernel
theorem dX12_awake_87 : decode cX12_awake 87 = .ok (.ifCond .lt 52, 3) := by decide +kernel
theorem dX12_awake_90 : decode cX12_awake 90 = .ok (.aload_n 0, 1) := by decide +kernel
theorem dX12_awake_91 : decode cX12_awake 91 = .ok (.getfield 71, 3) := by decide +kernel
theorem dX12_awake_94 : decode cX12_awake 94 = .ok (.iload 5, 2) := by decide +kernel
theorem dX12_awake_96 : decode cX12_awake 96 = .ok (.laload, 1) := by decide +kernel
theorem dX12_awake_97 : decode cX12_awake 97 = .ok (.iload 4, 2) := by decide +kernel
theorem dX12_awake_99 : decode cX12_awake 99 = .ok (.i2l, 1) := by decide +kernel
theorem dX12_awake_100 : decode cX12_awake 100 = .ok (.lmul, 1) := by decide +kernel
theorem dX12_awake_101 : decode cX12_awake 101 = .ok (.ldc2_w 395, 3) := by decide +kernel
theorem dX12_awake_104 : decode cX12_awake 104 = .ok (.ldiv, 1) := by decide +kernel
theorem dX12_awake_105 : decode cX12_awake 105 = .ok (.lstore 6, 2) := by decide +kernel
theorem dX12_awake_107 : decode cX12_awake 107 = .ok (.aload_n 0, 1) := by decide +kernel
theorem dX12_awake_108 : decode cX12_awake 108 = .ok (.getfield 71, 3) := by decide +kernel
theorem dX12_awake_111 : decode cX12_awake 111 = .ok (.iload 5, 2) := by decide +kernel
theorem dX12_awake_113 : decode cX12_awake 113 = .ok (.dup2, 1) := by decide +kernel
theorem dX12_awake_114 : decode cX12_awake 114 = .ok (.laload, 1) := by decide +kernel
theorem dX12_awake_115 : decode cX12_awake 115 = .ok (.lload 6, 2) := by decide +kernel
theorem dX12_awake_117 : decode cX12_awake 117 = .ok (.lsub, 1) := by decide +kernel
theorem dX12_awake_118 : decode cX12_awake 118 = .ok (.lastore, 1) := by decide +kernel
theorem dX12_awake_119 : decode cX12_awake 119 = .ok (.aload_n 0, 1) := by decide +kernel
theorem dX12_awake_120 : decode cX12_awake 120 = .ok (.getfield 71, 3) := by decide +kernel
theorem dX12_awake_123 : decode cX12_awake 123 = .ok (.iload 5, 2) := by decide +kernel
theorem dX12_awake_125 : decode cX12_awake 125 = .ok (.iconst 1, 1) := by decide +kernel
theorem dX12_awake_126 : decode cX12_awake 126 = .ok (.iadd, 1) := by decide +kernel
theorem dX12_awake_127 : decode cX12_awake 127 = .ok (.dup2, 1) := by decide +kernel
theorem dX12_awake_128 : decode cX12_awake 128 = .ok (.laload, 1) := by decide +kernel
theorem dX12_awake_129 : decode cX12_awake 129 = .ok (.lload 6, 2) := by decide +kernel
theorem dX12_awake_131 : decode cX12_awake 131 = .ok (.ladd, 1) := by decide +kernel
theorem dX12_awake_132 : decode cX12_awake 132 = .ok (.lastore, 1) := by decide +kernel
theorem dX12_awake_133 : decode cX12_awake 133 = .ok (.iinc 5 (-1), 3) := by decide +kernel
theorem dX12_awake_136 : decode cX12_awake 136 = .ok (.goto (-51), 3) := by decide +kernel
theorem dX12_awake_139 : decode cX12_awake 139 = .ok (.iinc 3 1, 3) := by decide +kernel
theorem dX12_awake_142 : decode cX12_awake 142 = .ok (.goto (-79), 3) := by decide +kernel
theorem dX12_awake_145 : decode cX12_awake 145 = .ok (.lconst 0, 1) := by decide +kernel
theorem dX12_awake_146 : decode cX12_awake 146 = .ok (.lstore_n 3, 1) := by decide +kernel
theorem dX12_awake_147 : decode cX12_awake 147 = .ok (.iload_n 2, 1) := by decide +kernel
theorem dX12_awake_148 : decode cX12_awake 148 = .ok (.istore 5, 2) := by decide +kernel
theorem dX12_awake_150 : decode cX12_awake 150 = .ok (.iload 5, 2) := by decide +kernel
theorem dX12_awake_152 : decode cX12_awake 152 = .ok (.aload_n 0, 1) := by decide +kernel
theorem dX12_awake_153 : decode cX12_awake 153 = .ok (.getfield 71, 3) := by decide +kernel
theorem dX12_awake_156 : decode cX12_awake 156 = .ok (.arraylength, 1) := by decide +kernel
theorem dX12_awake_157 : decode cX12_awake 157 = .ok (.if_icmp .ge 19, 3) := by decide +kernel
theorem dX12_awake_160 : decode cX12_awake 160 = .ok (.lload_n 3, 1) := by decide +kernel
theorem dX12_awake_161 : decode cX12_awake 161 = .ok (.aload_n 0, 1) := by decide +kernel
theorem dX12_awake_162 : decode cX12_awake 162 = .ok (.getfield 71, 3) := by decide +kernel
theorem dX12_awake_165 : decode cX12_awake 165 = .ok (.iload 5, 2) := by decide +kernel
theorem dX12_awake_167 : decode cX12_awake 167 = .ok (.laload, 1) := by decide +kernel
theorem dX12_awake_168 : decode cX12_awake 168 = .ok (.ladd, 1) := by decide +kernel
theorem dX12_awake_169 : decode cX12_awake 169 = .ok (.lstore_n 3, 1) := by decide +kernel
theorem dX12_awake_170 : decode cX12_awake 170 = .ok (.iinc 5 1, 3) := by decide +kernel
theorem dX12_awake_173 : decode cX12_awake 173 = .ok (.goto (-23), 3) := by decide +kernel
theorem dX12_awake_176 : decode cX12_awake 176 = .ok (.lload_n 3, 1) := by decide +kernel
theorem dX12_awake_177 : decode cX12_awake 177 = .ok (.l2i, 1) := by decide +kernel
theorem dX12_awake_178 : decode cX12_awake 178 = .ok (.ireturn, 1) := by decide +kernel
theorem dX12_seem_0 : decode cX12_seem 0 = .ok (.aload_n 0, 1) := by decide +kernel
theorem dX12_seem_1 : decode cX12_seem 1 = .ok (.iconst 0, 1) := by decide +kernel
theorem dX12_seem_2 : decode cX12_seem 2 = .ok (.putfield 100, 3) := by decide +kernel
theorem dX12_seem_5 : decode cX12_seem 5 = .ok (.aload_n 0, 1) := by decide +kernel
theorem dX12_seem_6 : decode cX12_seem 6 = .ok (.iload_n 1, 1) := by decide +kernel
theorem dX12_seem_7 : decode cX12_seem 7 = .ok (.invokevirtual 347, 3) := by decide +kernel
theorem dX12_seem_10 : decode cX12_seem 10 = .ok (.ifCond .eq 11, 3) := by decide +kernel
theorem dX12_seem_13 : decode cX12_seem 13 = .ok (.aload_n 0, 1) := by decide +kernel
theorem dX12_seem_14 : decode cX12_seem 14 = .ok (.iload_n 2, 1) := by decide +kernel
theorem dX12_seem_15 : decode cX12_seem 15 = .ok (.invokevirtual 355, 3) := by decide +kernel
theorem dX12_seem_18 : decode cX12_seem 18 = .ok (.ifCond .ne 5, 3) := by decide +kernel
theorem dX12_seem_21 : decode cX12_seem 21 = .ok (.iconst (-1), 1) := by decide +kernel
theorem dX12_seem_22 : decode cX12_seem 22 = .ok (.ireturn, 1) := by decide +kernel
theorem dX12_seem_23 : decode cX12_seem 23 = .ok (.iconst (-1), 1) := by decide +kernel
theorem dX12_seem_24 : decode cX12_seem 24 = .ok (.istore_n 3, 1) := by decide +kernel
theorem dX12_seem_25 : decode cX12_seem 25 = .ok (.aload_n 0, 1) := by decide +kernel
theorem dX12_seem_26 : decode cX12_seem 26 = .ok (.iload_n 1, 1) := by decide +kernel
theorem dX12_seem_27 : decode cX12_seem 27 = .ok (.invokevirtual 383, 3) := by decide +kernel
theorem dX12_seem_30 : decode cX12_seem 30 = .ok (.istore 4, 2) := by decide +kernel
theorem dX12_seem_32 : decode cX12_seem 32 = .ok (.iconst 0, 1) := by decide +kernel
theorem dX12_seem_33 : decode cX12_seem 33 = .ok (.istore 5, 2) := by decide +kernel
theorem dX12_seem_35 : decode cX12_seem 35 = .ok (.iload 5, 2) := by decide +kernel
theorem dX12_seem_37 : decode cX12_seem 37 = .ok (.iconst 1, 1) := by decide +kernel
theorem dX12_seem_38 : decode cX12_seem 38 = .ok (.aload_n 0, 1) := by decide +kernel
theorem dX12_seem_39 : decode cX12_seem 39 = .ok (.getfield 37, 3) := by decide +kernel
theorem dX12_seem_42 : decode cX12_seem 42 = .ok (.iconst 0, 1) := by decide +kernel
theorem dX12_seem_43 : decode cX12_seem 43 = .ok (.iaload, 1) := by decide +kernel
theorem dX12_seem_44 : decode cX12_seem 44 = .ok (.ishl, 1) := by decide +kernel
theorem dX12_seem_45 : decode cX12_seem 45 = .ok (.if_icmp .ge 107, 3) := by decide +kernel
theorem dX12_seem_48 : decode cX12_seem 48 = .ok (.iload_n 3, 1) := by decide +kernel
theorem dX12_seem_49 : decode cX12_seem 49 = .ok (.iconst (-1), 1) := by decide +kernel
theorem dX12_seem_50 : decode cX12_seem 50 = .ok (.if_icmp .eq 18, 3) := by decide +kernel
theorem dX12_seem_53 : decode cX12_seem 53 = .ok (.iload 5, 2) := by decide +kernel
theorem dX12_seem_55 : decode cX12_seem 55 = .ok (.invokestatic 400, 3) := by decide +kernel
theorem dX12_seem_58 : decode cX12_seem 58 = .ok (.iload_n 3, 1) := by decide +kernel
theorem dX12_seem_59 : decode cX12_seem 59 = .ok (.invokestatic 400, 3) := by decide +kernel
theorem dX12_seem_62 : decode cX12_seem 62 = .ok (.if_icmp .lt 6, 3) := by decide +kernel
theorem dX12_seem_65 : decode cX12_seem 65 = .ok (.goto 81, 3) := by decide +kernel
theorem dX12_seem_68 : decode cX12_seem 68 = .ok (.iload 4, 2) := by decide +kernel
theorem dX12_seem_70 : decode cX12_seem 70 = .ok (.istore 6, 2) := by decide +kernel
theorem dX12_seem_72 : decode cX12_seem 72 = .ok (.iconst 0, 1) := by decide +kernel
theorem dX12_seem_73 : decode cX12_seem 73 = .ok (.istore 7, 2) := by decide +kernel
theorem dX12_seem_75 : decode cX12_seem 75 = .ok (.iload 7, 2) := by decide +kernel
theorem dX12_seem_77 : decode cX12_seem 77 = .ok (.aload_n 0, 1) := by decide +kernel
theorem dX12_seem_78 : decode cX12_seem 78 = .ok (.getfield 37, 3) := by decide +kernel
theorem dX12_seem_81 : decode cX12_seem 81 = .ok (.iconst 0, 1) := by decide +kernel
theorem dX12_seem_82 : decode cX12_seem 82 = .ok (.iaload, 1) := by decide +kernel
theorem dX12_seem_83 : decode cX12_seem 83 = .ok (.if_icmp .ge 49, 3) := by decide +kernel
theorem dX12_seem_86 : decode cX12_seem 86 = .ok (.aload_n 0, 1) := by decide +kernel
theorem dX12_seem_87 : decode cX12_seem 87 = .ok (.iload_n 2, 1) := by decide +kernel
theorem dX12_seem_88 : decode cX12_seem 88 = .ok (.iload 7, 2) := by decide +kernel
theorem dX12_seem_90 : decode cX12_seem 90 = .ok (.invokevirtual 334, 3) := by decide +kernel
theorem dX12_seem_93 : decode cX12_seem 93 = .ok (.iload_n 1, 1) := by decide +kernel
theorem dX12_seem_94 : decode cX12_seem 94 = .ok (.if_icmp .ne 32, 3) := by decide +kernel
theorem dX12_seem_97 : decode cX12_seem 97 = .ok (.iload 6, 2) := by decide +kernel
theorem dX12_seem_99 : decode cX12_seem 99 = .ok (.aload_n 0, 1) := by decide +kernel
theorem dX12_seem_100 : decode cX12_seem 100 = .ok (.aload_n 0, 1) := by decide +kernel
theorem dX12_seem_101 : decode cX12_seem 101 = .ok (.getfield 58, 3) := by decide +kernel
theorem dX12_seem_104 : decode cX12_seem 104 = .ok (.iload_n 1, 1) := by decide +kernel
theorem dX12_seem_105 : decode cX12_seem 105 = .ok (.aload_n 0, 1) := by decide +kernel
theorem dX12_seem_106 : decode cX12_seem 106 = .ok (.iload_n 1, 1) := by decide +kernel
theorem dX12_seem_107 : decode cX12_seem 107 = .ok (.iconst 2, 1) := by decide +kernel
theorem dX12_seem_108 : decode cX12_seem 108 = .ok (.invokevirtual 301, 3) := by decide +kernel
theorem dX12_seem_111 : decode cX12_seem 111 = .ok (.iload 7, 2) := by decide +kernel
theorem dX12_seem_113 : decode cX12_seem 113 = .ok (.iload 5, 2) := by decide +kernel
theorem dX12_seem_115 : decode cX12_seem 115 = .ok (.iload 7, 2) := by decide +kernel
theorem dX12_seem_117 : decode cX12_seem 117 = .ok (.ishr, 1) := by decide +kernel
theorem dX12_seem_118 : decode cX12_seem 118 = .ok (.iconst 1, 1) := by decide +kernel
theorem dX12_seem_119 : decode cX12_seem 119 = .ok (.iand, 1) := by decide +kernel
theorem dX12_seem_120 : decode cX12_seem 120 = .ok (.invokevirtual 319, 3) := by decide +kernel
theorem dX12_seem_123 : decode cX12_seem 123 = .ok (.iadd, 1) := by decide +kernel
theorem dX12_seem_124 : decode cX12_seem 124 = .ok (.istore 6, 2) := by decide +kernel
theorem dX12_seem_126 : decode cX12_seem 126 = .ok (.iinc 7 1, 3) := by decide +kernel
theorem dX12_seem_129 : decode cX12_seem 129 = .ok (.goto (-54), 3) := by decide +kernel
theorem dX12_seem_132 : decode cX12_seem 132 = .ok (.iload 6, 2) := by decide +kernel
theorem dX12_seem_134 : decode cX12_seem 134 = .ok (.aload_n 0, 1) := by decide +kernel
theorem dX12_seem_135 : decode cX12_seem 135 = .ok (.getfield 37, 3) := by decide +kernel
theorem dX12_seem_138 : decode cX12_seem 138 = .ok (.iconst 1, 1) := by decide +kernel
theorem dX12_seem_139 : decode cX12_seem 139 = .ok (.iaload, 1) := by decide +kernel
theorem dX12_seem_140 : decode cX12_seem 140 = .ok (.if_icmp .ge 6, 3) := by decide +kernel
theorem dX12_seem_143 : decode cX12_seem 143 = .ok (.iload 5, 2) := by decide +kernel
theorem dX12_seem_145 : decode cX12_seem 145 = .ok (.istore_n 3, 1) := by decide +kernel
theorem dX12_seem_146 : decode cX12_seem 146 = .ok (.iinc 5 1, 3) := by decide +kernel
theorem dX12_seem_149 : decode cX12_seem 149 = .ok (.goto (-114), 3) := by decide +kernel
theorem dX12_seem_152 : decode cX12_seem 152 = .ok (.iload_n 3, 1) := by decide +kernel
theorem dX12_seem_153 : decode cX12_seem 153 = .ok (.ireturn, 1) := by decide +kernel
theorem dX12_tells_0 : decode cX12_tells 0 = .ok (.aload_n 0, 1) := by decide +kernel
theorem dX12_tells_1 : decode cX12_tells 1 = .ok (.iconst 0, 1) := by decide +kernel
theorem dX12_tells_2 : decode cX12_tells 2 = .ok (.putfield 100, 3) := by decide +kernel
theorem dX12_tells_5 : decode cX12_tells 5 = .ok (.aload_n 0, 1) := by decide +kernel
theorem dX12_tells_6 : decode cX12_tells 6 = .ok (.iload_n 1, 1) := by decide +kernel
theorem dX12_tells_7 : decode cX12_tells 7 = .ok (.invokevirtual 347, 3) := by decide +kernel
theorem dX12_tells_10 : decode cX12_tells 10 = .ok (.ifCond .eq 13, 3) := by decide +kernel
theorem dX12_tells_13 : decode cX12_tells 13 = .ok (.iload_n 2, 1) := by decide +kernel
theorem dX12_tells_14 : decode cX12_tells 14 = .ok (.i2l, 1) := by decide +kernel
theorem dX12_tells_15 : decode cX12_tells 15 = .ok (.lconst 0, 1) := by decide +kernel
theorem dX12_tells_16 : decode cX12_tells 16 = .ok (.lconst 1, 1) := by decide +kernel
theorem dX12_tells_17 : decode cX12_tells 17 = .ok (.invokestatic 221, 3) := by decide +kernel
theorem dX12_tells_20 : decode cX12_tells 20 = .ok (.ifCond .ne 5, 3) := by decide +kernel
theorem dX12_tells_23 : decode cX12_tells 23 = .ok (.iconst (-1), 1) := by decide +kernel
theorem dX12_tells_24 : decode cX12_tells 24 = .ok (.ireturn, 1) := by decide +kernel
theorem dX12_tells_25 : decode cX12_tells 25 = .ok (.iconst 0, 1) := by decide +kernel
theorem dX12_tells_26 : decode cX12_tells 26 = .ok (.istore_n 3, 1) := by decide +kernel
theorem dX12_tells_27 : decode cX12_tells 27 = .ok (.iconst (-1), 1) := by decide +kernel
theorem dX12_tells_28 : decode cX12_tells 28 = .ok (.istore 4, 2) := by decide +kernel
theorem dX12_tells_30 : decode cX12_tells 30 = .ok (.iconst 0, 1) := by decide +kernel
theorem dX12_tells_31 : decode cX12_tells 31 = .ok (.istore 5, 2) := by decide +kernel
theorem dX12_tells_33 : decode cX12_tells 33 = .ok (.iload 5, 2) := by decide +kernel
theorem dX12_tells_35 : decode cX12_tells 35 = .ok (.aload_n 0, 1) := by decide +kernel
theorem dX12_tells_36 : decode cX12_tells 36 = .ok (.getfield 37, 3) := by decide +kernel
theorem dX12_tells_39 : decode cX12_tells 39 = .ok (.iconst 0, 1) := by decide +kernel
theorem dX12_tells_40 : decode cX12_tells 40 = .ok (.iaload, 1) := by decide +kernel
theorem dX12_tells_41 : decode cX12_tells 41 = .ok (.if_icmp .ge 47, 3) := by decide +kernel
theorem dX12_tells_44 : decode cX12_tells 44 = .ok (.aload_n 0, 1) := by decide +kernel
theorem dX12_tells_45 : decode cX12_tells 45 = .ok (.iload_n 1, 1) := by decide +kernel
theorem dX12_tells_46 : decode cX12_tells 46 = .ok (.iload 5, 2) := by decide +kernel
theorem dX12_tells_48 : decode cX12_tells 48 = .ok (.invokevirtual 340, 3) := by decide +kernel
theorem dX12_tells_51 : decode cX12_tells 51 = .ok (.aload_n 0, 1) := by decide +kernel
theorem dX12_tells_52 : decode cX12_tells 52 = .ok (.iconst 0, 1) := by decide +kernel
theorem dX12_tells_53 : decode cX12_tells 53 = .ok (.iload_n 1, 1) := by decide +kernel
theorem dX12_tells_54 : decode cX12_tells 54 = .ok (.iload 5, 2) := by decide +kernel
theorem dX12_tells_56 : decode cX12_tells 56 = .ok (.invokevirtual 312, 3) := by decide +kernel
theorem dX12_tells_59 : decode cX12_tells 59 = .ok (.isub, 1) := by decide +kernel
theorem dX12_tells_60 : decode cX12_tells 60 = .ok (.invokestatic 405, 3) := by decide +kernel
theorem dX12_tells_63 : decode cX12_tells 63 = .ok (.istore 6, 2) := by decide +kernel
theorem dX12_tells_65 : decode cX12_tells 65 = .ok (.iload 6, 2) := by decide +kernel
theorem dX12_tells_67 : decode cX12_tells 67 = .ok (.iload 4, 2) := by decide +kernel
theorem dX12_tells_69 : decode cX12_tells 69 = .ok (.if_icmp .gt 6, 3) := by decide +kernel
theorem dX12_tells_72 : decode cX12_tells 72 = .ok (.goto 10, 3) := by decide +kernel
theorem dX12_tells_75 : decode cX12_tells 75 = .ok (.iload 5, 2) := by decide +kernel
theorem dX12_tells_77 : decode cX12_tells 77 = .ok (.istore_n 3, 1) := by decide +kernel
theorem dX12_tells_78 : decode cX12_tells 78 = .ok (.iload 6, 2) := by decide +kernel
theorem dX12_tells_80 : decode cX12_tells 80 = .ok (.istore 4, 2) := by decide +kernel
theorem dX12_tells_82 : decode cX12_tells 82 = .ok (.iinc 5 1, 3) := by decide +kernel
theorem dX12_tells_85 : decode cX12_tells 85 = .ok (.goto (-52), 3) := by decide +kernel
theorem dX12_tells_88 : decode cX12_tells 88 = .ok (.iload_n 2, 1) := by decide +kernel
theorem dX12_tells_89 : decode cX12_tells 89 = .ok (.ifCond .ne 7, 3) := by decide +kernel
theorem dX12_tells_92 : decode cX12_tells 92 = .ok (.iload_n 3, 1) := by decide +kernel
theorem dX12_tells_93 : decode cX12_tells 93 = .ok (.goto 5, 3) := by decide +kernel
theorem dX12_tells_96 : decode cX12_tells 96 = .ok (.iload 4, 2) := by decide +kernel
theorem dX12_tells_98 : decode cX12_tells 98 = .ok (.ireturn, 1) := by decide +kernel
theorem dX12_lamp_0 : decode cX12_lamp 0 = .ok (.aload_n 0, 1) := by decide +kernel
theorem dX12_lamp_1 : decode cX12_lamp 1 = .ok (.iconst 0, 1) := by decide +kernel
theorem dX12_lamp_2 : decode cX12_lamp 2 = .ok (.putfield 100, 3) := by decide +kernel
theorem dX12_lamp_5 : decode cX12_lamp 5 = .ok (.aload_n 0, 1) := by decide +kernel
theorem dX12_lamp_6 : decode cX12_lamp 6 = .ok (.iload_n 1, 1) := by decide +kernel
theorem dX12_lamp_7 : decode cX12_lamp 7 = .ok (.invokevirtual 347, 3) := by decide +kernel
theorem dX12_lamp_10 : decode cX12_lamp 10 = .ok (.ifCond .eq 20, 3) := by decide +kernel
theorem dX12_lamp_13 : decode cX12_lamp 13 = .ok (.aload_n 0, 1) := by decide +kernel
theorem dX12_lamp_14 : decode cX12_lamp 14 = .ok (.iload_n 2, 1) := by decide +kernel
theorem dX12_lamp_15 : decode cX12_lamp 15 = .ok (.invokevirtual 366, 3) := by decide +kernel
theorem dX12_lamp_18 : decode cX12_lamp 18 = .ok (.ifCond .eq 12, 3) := by decide +kernel
theorem dX12_lamp_21 : decode cX12_lamp 21 = .ok (.aload_n 0, 1) := by decide +kernel
theorem dX12_lamp_22 : decode cX12_lamp 22 = .ok (.getfield 289, 3) := by decide +kernel
theorem dX12_lamp_25 : decode cX12_lamp 25 = .ok (.bipush 12, 2) := by decide +kernel
theorem dX12_lamp_27 : decode cX12_lamp 27 = .ok (.if_icmp .ne 5, 3) := by decide +kernel
theorem dX12_lamp_30 : decode cX12_lamp 30 = .ok (.iconst (-1), 1) := by decide +kernel
theorem dX12_lamp_31 : decode cX12_lamp 31 = .ok (.ireturn, 1) := by decide +kernel
theorem dX12_lamp_32 : decode cX12_lamp 32 = .ok (.aload_n 0, 1) := by decide +kernel
theorem dX12_lamp_33 : decode cX12_lamp 33 = .ok (.getfield 75, 3) := by decide +kernel
theorem dX12_lamp_36 : decode cX12_lamp 36 = .ok (.aload_n 0, 1) := by decide +kernel
theorem dX12_lamp_37 : decode cX12_lamp 37 = .ok (.getfield 289, 3) := by decide +kernel
theorem dX12_lamp_40 : decode cX12_lamp 40 = .ok (.iload_n 1, 1) := by decide +kernel
theorem dX12_lamp_41 : decode cX12_lamp 41 = .ok (.iastore, 1) := by decide +kernel
theorem dX12_lamp_42 : decode cX12_lamp 42 = .ok (.aload_n 0, 1) := by decide +kernel
theorem dX12_lamp_43 : decode cX12_lamp 43 = .ok (.getfield 78, 3) := by decide +kernel
theorem dX12_lamp_46 : decode cX12_lamp 46 = .ok (.aload_n 0, 1) := by decide +kernel
theorem dX12_lamp_47 : decode cX12_lamp 47 = .ok (.getfield 289, 3) := by decide +kernel
theorem dX12_lamp_50 : decode cX12_lamp 50 = .ok (.iload_n 2, 1) := by decide +kernel
theorem dX12_lamp_51 : decode cX12_lamp 51 = .ok (.iastore, 1) := by decide +kernel
theorem dX12_lamp_52 : decode cX12_lamp 52 = .ok (.aload_n 0, 1) := by decide +kernel
theorem dX12_lamp_53 : decode cX12_lamp 53 = .ok (.getfield 81, 3) := by decide +kernel
theorem dX12_lamp_56 : decode cX12_lamp 56 = .ok (.aload_n 0, 1) := by decide +kernel
theorem dX12_lamp_57 : decode cX12_lamp 57 = .ok (.getfield 289, 3) := by decide +kernel
theorem dX12_lamp_60 : decode cX12_lamp 60 = .ok (.iload_n 3, 1) := by decide +kernel
theorem dX12_lamp_61 : decode cX12_lamp 61 = .ok (.bastore, 1) := by decide +kernel
theorem dX12_lamp_62 : decode cX12_lamp 62 = .ok (.aload_n 0, 1) := by decide +kernel
theorem dX12_lamp_63 : decode cX12_lamp 63 = .ok (.dup, 1) := by decide +kernel
theorem dX12_lamp_64 : decode cX12_lamp 64 = .ok (.getfield 289, 3) := by decide +kernel
theorem dX12_lamp_67 : decode cX12_lamp 67 = .ok (.iconst 1, 1) := by decide +kernel
theorem dX12_lamp_68 : decode cX12_lamp 68 = .ok (.iadd, 1) := by decide +kernel
theorem dX12_lamp_69 : decode cX12_lamp 69 = .ok (.putfield 289, 3) := by decide +kernel
theorem dX12_lamp_72 : decode cX12_lamp 72 = .ok (.aload_n 0, 1) := by decide +kernel
theorem dX12_lamp_73 : decode cX12_lamp 73 = .ok (.getfield 289, 3) := by decide +kernel
theorem dX12_lamp_76 : decode cX12_lamp 76 = .ok (.ireturn, 1) := by decide +kernel
theorem dX12_held_0 : decode cX12_held 0 = .ok (.lconst 1, 1) := by decide +kernel
theorem dX12_held_1 : decode cX12_held 1 = .ok (.lstore_n 3, 1) := by decide +kernel
theorem dX12_held_2 : decode cX12_held 2 = .ok (.iconst 0, 1) := by decide +kernel
theorem dX12_held_3 : decode cX12_held 3 = .ok (.istore 5, 2) := by decide +kernel
theorem dX12_held_5 : decode cX12_held 5 = .ok (.iload 5, 2) := by decide +kernel
theorem dX12_held_7 : decode cX12_held 7 = .ok (.aload_n 0, 1) := by decide +kernel
theorem dX12_held_8 : decode cX12_held 8 = .ok (.getfield 289, 3) := by decide +kernel
theorem dX12_held_11 : decode cX12_held 11 = .ok (.if_icmp .ge 70, 3) := by decide +kernel
theorem dX12_held_14 : decode cX12_held 14 = .ok (.aload_n 0, 1) := by decide +kernel
theorem dX12_held_15 : decode cX12_held 15 = .ok (.aload_n 0, 1) := by decide +kernel
theorem dX12_held_16 : decode cX12_held 16 = .ok (.getfield 75, 3) := by decide +kernel
theorem dX12_held_19 : decode cX12_held 19 = .ok (.iload 5, 2) := by decide +kernel
theorem dX12_held_21 : decode cX12_held 21 = .ok (.iaload, 1) := by decide +kernel
theorem dX12_held_22 : decode cX12_held 22 = .ok (.iload_n 1, 1) := by decide +kernel
theorem dX12_held_23 : decode cX12_held 23 = .ok (.if_icmp .ne 7, 3) := by decide +kernel
theorem dX12_held_26 : decode cX12_held 26 = .ok (.iload_n 2, 1) := by decide +kernel
theorem dX12_held_27 : decode cX12_held 27 = .ok (.goto 4, 3) := by decide +kernel
theorem dX12_held_30 : decode cX12_held 30 = .ok (.iconst 0, 1) := by decide +kernel
theorem dX12_held_31 : decode cX12_held 31 = .ok (.aload_n 0, 1) := by decide +kernel
theorem dX12_held_32 : decode cX12_held 32 = .ok (.getfield 75, 3) := by decide +kernel
theorem dX12_held_35 : decode cX12_held 35 = .ok (.iload 5, 2) := by decide +kernel
theorem dX12_held_37 : decode cX12_held 37 = .ok (.iaload, 1) := by decide +kernel
theorem dX12_held_38 : decode cX12_held 38 = .ok (.aload_n 0, 1) := by decide +kernel
theorem dX12_held_39 : decode cX12_held 39 = .ok (.getfield 78, 3) := by decide +kernel
theorem dX12_held_42 : decode cX12_held 42 = .ok (.iload 5, 2) := by decide +kernel
theorem dX12_held_44 : decode cX12_held 44 = .ok (.iaload, 1) := by decide +kernel
theorem dX12_held_45 : decode cX12_held 45 = .ok (.invokevirtual 312, 3) := by decide +kernel
theorem dX12_held_48 : decode cX12_held 48 = .ok (.istore 6, 2) := by decide +kernel
theorem dX12_held_50 : decode cX12_held 50 = .ok (.lload_n 3, 1) := by decide +kernel
theorem dX12_held_51 : decode cX12_held 51 = .ok (.aload_n 0, 1) := by decide +kernel
theorem dX12_held_52 : decode cX12_held 52 = .ok (.getfield 81, 3) := by decide +kernel
theorem dX12_held_55 : decode cX12_held 55 = .ok (.iload 5, 2) := by decide +kernel
theorem dX12_held_57 : decode cX12_held 57 = .ok (.baload, 1) := by decide +kernel
theorem dX12_held_58 : decode cX12_held 58 = .ok (.ifCond .eq 9, 3) := by decide +kernel
theorem dX12_held_61 : decode cX12_held 61 = .ok (.iload 6, 2) := by decide +kernel
theorem dX12_held_63 : decode cX12_held 63 = .ok (.i2l, 1) := by decide +kernel
theorem dX12_held_64 : decode cX12_held 64 = .ok (.goto 9, 3) := by decide +kernel
theorem dX12_held_67 : decode cX12_held 67 = .ok (.bipush 10, 2) := by decide +kernel
theorem dX12_held_69 : decode cX12_held 69 = .ok (.iload 6, 2) := by decide +kernel
theorem dX12_held_71 : decode cX12_held 71 = .ok (.isub, 1) := by decide +kernel
theorem dX12_held_72 : decode cX12_held 72 = .ok (.i2l, 1) := by decide +kernel
theorem dX12_held_73 : decode cX12_held 73 = .ok (.lmul, 1) := by decide +kernel
theorem dX12_held_74 : decode cX12_held 74 = .ok (.lstore_n 3, 1) := by decide +kernel
theorem dX12_held_75 : decode cX12_held 75 = .ok (.iinc 5 1, 3) := by decide +kernel
theorem dX12_held_78 : decode cX12_held 78 = .ok (.goto (-73), 3) := by decide +kernel
theorem dX12_held_81 : decode cX12_held 81 = .ok (.lload_n 3, 1) := by decide +kernel
theorem dX12_held_82 : decode cX12_held 82 = .ok (.lreturn, 1) := by decide +kernel
theorem dX12_whoBy_0 : decode cX12_whoBy 0 = .ok (.iconst 0, 1) := by decide +kernel
theorem dX12_whoBy_1 : decode cX12_whoBy 1 = .ok (.istore_n 2, 1) := by decide +kernel
theorem dX12_whoBy_2 : decode cX12_whoBy 2 = .ok (.iconst 1, 1) := by decide +kernel
theorem dX12_whoBy_3 : decode cX12_whoBy 3 = .ok (.istore_n 3, 1) := by decide +kernel
theorem dX12_whoBy_4 : decode cX12_whoBy 4 = .ok (.iload_n 3, 1) := by decide +kernel
theorem dX12_whoBy_5 : decode cX12_whoBy 5 = .ok (.aload_n 0, 1) := by decide +kernel
theorem dX12_whoBy_6 : decode cX12_whoBy 6 = .ok (.getfield 286, 3) := by decide +kernel
theorem dX12_whoBy_9 : decode cX12_whoBy 9 = .ok (.if_icmp .ge 27, 3) := by decide +kernel
theorem dX12_whoBy_12 : decode cX12_whoBy 12 = .ok (.aload_n 0, 1) := by decide +kernel
theorem dX12_whoBy_13 : decode cX12_whoBy 13 = .ok (.iload_n 3, 1) := by decide +kernel
theorem dX12_whoBy_14 : decode cX12_whoBy 14 = .ok (.iload_n 1, 1) := by decide +kernel
theorem dX12_whoBy_15 : decode cX12_whoBy 15 = .ok (.invokevirtual 408, 3) := by decide +kernel
theorem dX12_whoBy_18 : decode cX12_whoBy 18 = .ok (.aload_n 0, 1) := by decide +kernel
theorem dX12_whoBy_19 : decode cX12_whoBy 19 = .ok (.iload_n 2, 1) := by decide +kernel
theorem dX12_whoBy_20 : decode cX12_whoBy 20 = .ok (.iload_n 1, 1) := by decide +kernel
theorem dX12_whoBy_21 : decode cX12_whoBy 21 = .ok (.invokevirtual 408, 3) := by decide +kernel
theorem dX12_whoBy_24 : decode cX12_whoBy 24 = .ok (.lcmp, 1) := by decide +kernel
theorem dX12_whoBy_25 : decode cX12_whoBy 25 = .ok (.ifCond .le 5, 3) := by decide +kernel
theorem dX12_whoBy_28 : decode cX12_whoBy 28 = .ok (.iload_n 3, 1) := by decide +kernel
theorem dX12_whoBy_29 : decode cX12_whoBy 29 = .ok (.istore_n 2, 1) := by decide +kernel
theorem dX12_whoBy_30 : decode cX12_whoBy 30 = .ok (.iinc 3 1, 3) := by decide +kernel
theorem dX12_whoBy_33 : decode cX12_whoBy 33 = .ok (.goto (-29), 3) := by decide +kernel
theorem dX12_whoBy_36 : decode cX12_whoBy 36 = .ok (.iload_n 2, 1) := by decide +kernel
theorem dX12_whoBy_37 : decode cX12_whoBy 37 = .ok (.ireturn, 1) := by decide +kernel
theorem dX12_askBy_0 : decode cX12_askBy 0 = .ok (.iconst 0, 1) := by decide +kernel
theorem dX12_askBy_1 : decode cX12_askBy 1 = .ok (.istore_n 2, 1) := by decide +kernel
theorem dX12_askBy_2 : decode cX12_askBy 2 = .ok (.iconst 0, 1) := by decide +kernel
theorem dX12_askBy_3 : decode cX12_askBy 3 = .ok (.istore_n 3, 1) := by decide +kernel
theorem dX12_askBy_4 : decode cX12_askBy 4 = .ok (.iload_n 3, 1) := by decide +kernel
theorem dX12_askBy_5 : decode cX12_askBy 5 = .ok (.aload_n 0, 1) := by decide +kernel
theorem dX12_askBy_6 : decode cX12_askBy 6 = .ok (.getfield 286, 3) := by decide +kernel
theorem dX12_askBy_9 : decode cX12_askBy 9 = .ok (.if_icmp .ge 30, 3) := by decide +kernel
theorem dX12_askBy_12 : decode cX12_askBy 12 = .ok (.iload_n 2, 1) := by decide +kernel
theorem dX12_askBy_13 : decode cX12_askBy 13 = .ok (.aload_n 0, 1) := by decide +kernel
theorem dX12_askBy_14 : decode cX12_askBy 14 = .ok (.iload_n 3, 1) := by decide +kernel
theorem dX12_askBy_15 : decode cX12_askBy 15 = .ok (.iload_n 1, 1) := by decide +kernel
theorem dX12_askBy_16 : decode cX12_askBy 16 = .ok (.invokevirtual 408, 3) := by decide +kernel
theorem dX12_askBy_19 : decode cX12_askBy 19 = .ok (.lconst 0, 1) := by decide +kernel
theorem dX12_askBy_20 : decode cX12_askBy 20 = .ok (.lcmp, 1) := by decide +kernel
theorem dX12_askBy_21 : decode cX12_askBy 21 = .ok (.ifCond .le 9, 3) := by decide +kernel
theorem dX12_askBy_24 : decode cX12_askBy 24 = .ok (.iconst 1, 1) := by decide +kernel
theorem dX12_askBy_25 : decode cX12_askBy 25 = .ok (.iload_n 3, 1) := by decide +kernel
theorem dX12_askBy_26 : decode cX12_askBy 26 = .ok (.ishl, 1) := by decide +kernel
theorem dX12_askBy_27 : decode cX12_askBy 27 = .ok (.goto 4, 3) := by decide +kernel
theorem dX12_askBy_30 : decode cX12_askBy 30 = .ok (.iconst 0, 1) := by decide +kernel
theorem dX12_askBy_31 : decode cX12_askBy 31 = .ok (.ior, 1) := by decide +kernel
theorem dX12_askBy_32 : decode cX12_askBy 32 = .ok (.istore_n 2, 1) := by decide +kernel
theorem dX12_askBy_33 : decode cX12_askBy 33 = .ok (.iinc 3 1, 3) := by decide +kernel
theorem dX12_askBy_36 : decode cX12_askBy 36 = .ok (.goto (-32), 3) := by decide +kernel
theorem dX12_askBy_39 : decode cX12_askBy 39 = .ok (.iload_n 2, 1) := by decide +kernel
theorem dX12_askBy_40 : decode cX12_askBy 40 = .ok (.ifCond .ne 5, 3) := by decide +kernel
theorem dX12_askBy_43 : decode cX12_askBy 43 = .ok (.iconst (-1), 1) := by decide +kernel
theorem dX12_askBy_44 : decode cX12_askBy 44 = .ok (.ireturn, 1) := by decide +kernel
theorem dX12_askBy_45 : decode cX12_askBy 45 = .ok (.iconst (-1), 1) := by decide +kernel
theorem dX12_askBy_46 : decode cX12_askBy 46 = .ok (.istore_n 3, 1) := by decide +kernel
theorem dX12_askBy_47 : decode cX12_askBy 47 = .ok (.iconst 0, 1) := by decide +kernel
theorem dX12_askBy_48 : decode cX12_askBy 48 = .ok (.istore 4, 2) := by decide +kernel
theorem dX12_askBy_50 : decode cX12_askBy 50 = .ok (.iconst 0, 1) := by decide +kernel
theorem dX12_askBy_51 : decode cX12_askBy 51 = .ok (.istore 5, 2) := by decide +kernel
theorem dX12_askBy_53 : decode cX12_askBy 53 = .ok (.iload 5, 2) := by decide +kernel
theorem dX12_askBy_55 : decode cX12_askBy 55 = .ok (.aload_n 0, 1) := by decide +kernel
theorem dX12_askBy_56 : decode cX12_askBy 56 = .ok (.getfield 286, 3) := by decide +kernel
theorem dX12_askBy_59 : decode cX12_askBy 59 = .ok (.if_icmp .ge 128, 3) := by decide +kernel
theorem dX12_askBy_62 : decode cX12_askBy 62 = .ok (.iconst 0, 1) := by decide +kernel
theorem dX12_askBy_63 : decode cX12_askBy 63 = .ok (.istore 6, 2) := by decide +kernel
theorem dX12_askBy_65 : decode cX12_askBy 65 = .ok (.iload 6, 2) := by decide +kernel
theorem dX12_askBy_67 : decode cX12_askBy 67 = .ok (.aload_n 0, 1) := by decide +kernel
theorem dX12_askBy_68 : decode cX12_askBy 68 = .ok (.getfield 37, 3) := by decide +kernel
theorem dX12_askBy_71 : decode cX12_askBy 71 = .ok (.iconst 0, 1) := by decide +kernel
theorem dX12_askBy_72 : decode cX12_askBy 72 = .ok (.iaload, 1) := by decide +kernel
theorem dX12_askBy_73 : decode cX12_askBy 73 = .ok (.if_icmp .ge 108, 3) := by decide +kernel
theorem dX12_askBy_76 : decode cX12_askBy 76 = .ok (.iconst 0, 1) := by decide +kernel
theorem dX12_askBy_77 : decode cX12_askBy 77 = .ok (.istore 7, 2) := by decide +kernel
theorem dX12_askBy_79 : decode cX12_askBy 79 = .ok (.iconst 0, 1) := by decide +kernel
theorem dX12_askBy_80 : decode cX12_askBy 80 = .ok (.istore 8, 2) := by decide +kernel
theorem dX12_askBy_82 : decode cX12_askBy 82 = .ok (.iload 8, 2) := by decide +kernel
theorem dX12_askBy_84 : decode cX12_askBy 84 = .ok (.aload_n 0, 1) := by decide +kernel
theorem dX12_askBy_85 : decode cX12_askBy 85 = .ok (.getfield 286, 3) := by decide +kernel
theorem dX12_askBy_88 : decode cX12_askBy 88 = .ok (.if_icmp .ge 52, 3) := by decide +kernel
theorem dX12_askBy_91 : decode cX12_askBy 91 = .ok (.iload_n 2, 1) := by decide +kernel
theorem dX12_askBy_92 : decode cX12_askBy 92 = .ok (.iload 8, 2) := by decide +kernel
theorem dX12_askBy_94 : decode cX12_askBy 94 = .ok (.invokestatic 233, 3) := by decide +kernel
theorem dX12_askBy_97 : decode cX12_askBy 97 = .ok (.ifCond .eq 37, 3) := by decide +kernel
theorem dX12_askBy_100 : decode cX12_askBy 100 = .ok (.iload 7, 2) := by decide +kernel
theorem dX12_askBy_102 : decode cX12_askBy 102 = .ok (.aload_n 0, 1) := by decide +kernel
theorem dX12_askBy_103 : decode cX12_askBy 103 = .ok (.iload 8, 2) := by decide +kernel
theorem dX12_askBy_105 : decode cX12_askBy 105 = .ok (.iload 5, 2) := by decide +kernel
theorem dX12_askBy_107 : decode cX12_askBy 107 = .ok (.if_icmp .ne 7, 3) := by decide +kernel
theorem dX12_askBy_110 : decode cX12_askBy 110 = .ok (.iload_n 1, 1) := by decide +kernel
theorem dX12_askBy_111 : decode cX12_askBy 111 = .ok (.goto 4, 3) := by decide +kernel
theorem dX12_askBy_114 : decode cX12_askBy 114 = .ok (.iconst 0, 1) := by decide +kernel
theorem dX12_askBy_115 : decode cX12_askBy 115 = .ok (.iload 5, 2) := by decide +kernel
theorem dX12_askBy_117 : decode cX12_askBy 117 = .ok (.iload 6, 2) := by decide +kernel
theorem dX12_askBy_119 : decode cX12_askBy 119 = .ok (.invokevirtual 312, 3) := by decide +kernel
theorem dX12_askBy_122 : decode cX12_askBy 122 = .ok (.iconst 5, 1) := by decide +kernel
theorem dX12_askBy_123 : decode cX12_askBy 123 = .ok (.if_icmp .lt 7, 3) := by decide +kernel
theorem dX12_askBy_126 : decode cX12_askBy 126 = .ok (.iconst 1, 1) := by decide +kernel
theorem dX12_askBy_127 : decode cX12_askBy 127 = .ok (.goto 4, 3) := by decide +kernel
theorem dX12_askBy_130 : decode cX12_askBy 130 = .ok (.iconst (-1), 1) := by decide +kernel
theorem dX12_askBy_131 : decode cX12_askBy 131 = .ok (.iadd, 1) := by decide +kernel
theorem dX12_askBy_132 : decode cX12_askBy 132 = .ok (.istore 7, 2) := by decide +kernel
theorem dX12_askBy_134 : decode cX12_askBy 134 = .ok (.iinc 8 1, 3) := by decide +kernel
theorem dX12_askBy_137 : decode cX12_askBy 137 = .ok (.goto (-55), 3) := by decide +kernel
theorem dX12_askBy_140 : decode cX12_askBy 140 = .ok (.iload 7, 2) := by decide +kernel
theorem dX12_askBy_142 : decode cX12_askBy 142 = .ok (.invokestatic 405, 3) := by decide +kernel
theorem dX12_askBy_145 : decode cX12_askBy 145 = .ok (.istore 7, 2) := by decide +kernel
theorem dX12_askBy_147 : decode cX12_askBy 147 = .ok (.iload_n 3, 1) := by decide +kernel
theorem dX12_askBy_148 : decode cX12_askBy 148 = .ok (.iconst (-1), 1) := by decide +kernel
theorem dX12_askBy_149 : decode cX12_askBy 149 = .ok (.if_icmp .eq 13, 3) := by decide +kernel
theorem dX12_askBy_152 : decode cX12_askBy 152 = .ok (.iload 7, 2) := by decide +kernel
theorem dX12_askBy_154 : decode cX12_askBy 154 = .ok (.iload 4, 2) := by decide +kernel
theorem dX12_askBy_156 : decode cX12_askBy 156 = .ok (.if_icmp .lt 6, 3) := by decide +kernel
theorem dX12_askBy_159 : decode cX12_askBy 159 = .ok (.goto 16, 3) := by decide +kernel
theorem dX12_askBy_162 : decode cX12_askBy 162 = .ok (.bipush 10, 2) := by decide +kernel
theorem dX12_askBy_164 : decode cX12_askBy 164 = .ok (.iload 5, 2) := by decide +kernel
theorem dX12_askBy_166 : decode cX12_askBy 166 = .ok (.imul, 1) := by decide +kernel
theorem dX12_askBy_167 : decode cX12_askBy 167 = .ok (.iload 6, 2) := by decide +kernel
theorem dX12_askBy_169 : decode cX12_askBy 169 = .ok (.iadd, 1) := by decide +kernel
theorem dX12_askBy_170 : decode cX12_askBy 170 = .ok (.istore_n 3, 1) := by decide +kernel
theorem dX12_askBy_171 : decode cX12_askBy 171 = .ok (.iload 7, 2) := by decide +kernel
theorem dX12_askBy_173 : decode cX12_askBy 173 = .ok (.istore 4, 2) := by decide +kernel
theorem dX12_askBy_175 : decode cX12_askBy 175 = .ok (.iinc 6 1, 3) := by decide +kernel
theorem dX12_askBy_178 : decode cX12_askBy 178 = .ok (.goto (-113), 3) := by decide +kernel
theorem dX12_askBy_181 : decode cX12_askBy 181 = .ok (.iinc 5 1, 3) := by decide +kernel
theorem dX12_askBy_184 : decode cX12_askBy 184 = .ok (.goto (-131), 3) := by decide +kernel
theorem dX12_askBy_187 : decode cX12_askBy 187 = .ok (.iload_n 3, 1) := by decide +kernel
theorem dX12_askBy_188 : decode cX12_askBy 188 = .ok (.ireturn, 1) := by decide +kernel
theorem dX12_who_0 : decode cX12_who 0 = .ok (.aload_n 0, 1) := by decide +kernel
theorem dX12_who_1 : decode cX12_who 1 = .ok (.iconst 0, 1) := by decide +kernel
theorem dX12_who_2 : decode cX12_who 2 = .ok (.putfield 100, 3) := by decide +kernel
theorem dX12_who_5 : decode cX12_who 5 = .ok (.aload_n 0, 1) := by decide +kernel
theorem dX12_who_6 : decode cX12_who 6 = .ok (.getfield 286, 3) := by decide +kernel
theorem dX12_who_9 : decode cX12_who 9 = .ok (.ifCond .eq 27, 3) := by decide +kernel
theorem dX12_who_12 : decode cX12_who 12 = .ok (.iload_n 1, 1) := by decide +kernel
theorem dX12_who_13 : decode cX12_who 13 = .ok (.i2l, 1) := by decide +kernel
theorem dX12_who_14 : decode cX12_who 14 = .ok (.lconst 1, 1) := by decide +kernel
theorem dX12_who_15 : decode cX12_who 15 = .ok (.ldc2_w 361, 3) := by decide +kernel
theorem dX12_who_18 : decode cX12_who 18 = .ok (.invokestatic 221, 3) := by decide +kernel
theorem dX12_who_21 : decode cX12_who 21 = .ok (.ifCond .eq 15, 3) := by decide +kernel
theorem dX12_who_24 : decode cX12_who 24 = .ok (.iload_n 2, 1) := by decide +kernel
theorem dX12_who_25 : decode cX12_who 25 = .ok (.i2l, 1) := by decide +kernel
theorem dX12_who_26 : decode cX12_who 26 = .ok (.lconst 0, 1) := by decide +kernel
theorem dX12_who_27 : decode cX12_who 27 = .ok (.ldc2_w 266, 3) := by decide +kernel
theorem dX12_who_30 : decode cX12_who 30 = .ok (.invokestatic 221, 3) := by decide +kernel
theorem dX12_who_33 : decode cX12_who 33 = .ok (.ifCond .ne 5, 3) := by decide +kernel
theorem dX12_who_36 : decode cX12_who 36 = .ok (.iconst (-1), 1) := by decide +kernel
theorem dX12_who_37 : decode cX12_who 37 = .ok (.ireturn, 1) := by decide +kernel
theorem dX12_who_38 : decode cX12_who 38 = .ok (.iload_n 2, 1) := by decide +kernel
theorem dX12_who_39 : decode cX12_who 39 = .ok (.iconst 2, 1) := by decide +kernel
theorem dX12_who_40 : decode cX12_who 40 = .ok (.if_icmp .ne 9, 3) := by decide +kernel
theorem dX12_who_43 : decode cX12_who 43 = .ok (.aload_n 0, 1) := by decide +kernel
theorem dX12_who_44 : decode cX12_who 44 = .ok (.iload_n 1, 1) := by decide +kernel
theorem dX12_who_45 : decode cX12_who 45 = .ok (.invokevirtual 412, 3) := by decide +kernel
theorem dX12_who_48 : decode cX12_who 48 = .ok (.ireturn, 1) := by decide +kernel
theorem dX12_who_49 : decode cX12_who 49 = .ok (.aload_n 0, 1) := by decide +kernel
theorem dX12_who_50 : decode cX12_who 50 = .ok (.iload_n 1, 1) := by decide +kernel
theorem dX12_who_51 : decode cX12_who 51 = .ok (.invokevirtual 415, 3) := by decide +kernel
theorem dX12_who_54 : decode cX12_who 54 = .ok (.istore_n 3, 1) := by decide +kernel
theorem dX12_who_55 : decode cX12_who 55 = .ok (.iload_n 2, 1) := by decide +kernel
theorem dX12_who_56 : decode cX12_who 56 = .ok (.ifCond .ne 5, 3) := by decide +kernel
theorem dX12_who_59 : decode cX12_who 59 = .ok (.iload_n 3, 1) := by decide +kernel
theorem dX12_who_60 : decode cX12_who 60 = .ok (.ireturn, 1) := by decide +kernel
theorem dX12_who_61 : decode cX12_who 61 = .ok (.lconst 0, 1) := by decide +kernel
theorem dX12_who_62 : decode cX12_who 62 = .ok (.lstore 4, 2) := by decide +kernel
theorem dX12_who_64 : decode cX12_who 64 = .ok (.iconst 0, 1) := by decide +kernel
theorem dX12_who_65 : decode cX12_who 65 = .ok (.istore 6, 2) := by decide +kernel
theorem dX12_who_67 : decode cX12_who 67 = .ok (.iload 6, 2) := by decide +kernel
theorem dX12_who_69 : decode cX12_who 69 = .ok (.aload_n 0, 1) := by decide +kernel
theorem dX12_who_70 : decode cX12_who 70 = .ok (.getfield 286, 3) := by decide +kernel
theorem dX12_who_73 : decode cX12_who 73 = .ok (.if_icmp .ge 21, 3) := by decide +kernel
theorem dX12_who_76 : decode cX12_who 76 = .ok (.lload 4, 2) := by decide +kernel
theorem dX12_who_78 : decode cX12_who 78 = .ok (.aload_n 0, 1) := by decide +kernel
theorem dX12_who_79 : decode cX12_who 79 = .ok (.iload 6, 2) := by decide +kernel
theorem dX12_who_81 : decode cX12_who 81 = .ok (.iload_n 1, 1) := by decide +kernel
theorem dX12_who_82 : decode cX12_who 82 = .ok (.invokevirtual 408, 3) := by decide +kernel
theorem dX12_who_85 : decode cX12_who 85 = .ok (.ladd, 1) := by decide +kernel
theorem dX12_who_86 : decode cX12_who 86 = .ok (.lstore 4, 2) := by decide +kernel
theorem dX12_who_88 : decode cX12_who 88 = .ok (.iinc 6 1, 3) := by decide +kernel
theorem dX12_who_91 : decode cX12_who 91 = .ok (.goto (-24), 3) := by decide +kernel
theorem dX12_who_94 : decode cX12_who 94 = .ok (.lload 4, 2) := by decide +kernel
theorem dX12_who_96 : decode cX12_who 96 = .ok (.lconst 0, 1) := by decide +kernel
theorem dX12_who_97 : decode cX12_who 97 = .ok (.lcmp, 1) := by decide +kernel
theorem dX12_who_98 : decode cX12_who 98 = .ok (.ifCond .ne 7, 3) := by decide +kernel
theorem dX12_who_101 : decode cX12_who 101 = .ok (.iconst 0, 1) := by decide +kernel
theorem dX12_who_102 : decode cX12_who 102 = .ok (.goto 17, 3) := by decide +kernel
theorem dX12_who_105 : decode cX12_who 105 = .ok (.ldc2_w 418, 3) := by decide +kernel
theorem dX12_who_108 : decode cX12_who 108 = .ok (.aload_n 0, 1) := by decide +kernel
theorem dX12_who_109 : decode cX12_who 109 = .ok (.iload_n 3, 1) := by decide +kernel
theorem dX12_who_110 : decode cX12_who 110 = .ok (.iload_n 1, 1) := by decide +kernel
theorem dX12_who_111 : decode cX12_who 111 = .ok (.invokevirtual 408, 3) := by decide +kernel
theorem dX12_who_114 : decode cX12_who 114 = .ok (.lmul, 1) := by decide +kernel
theorem dX12_who_115 : decode cX12_who 115 = .ok (.lload 4, 2) := by decide +kernel
theorem dX12_who_117 : decode cX12_who 117 = .ok (.ldiv, 1) := by decide +kernel
theorem dX12_who_118 : decode cX12_who 118 = .ok (.l2i, 1) := by decide +kernel
theorem dX12_who_119 : decode cX12_who 119 = .ok (.ireturn, 1) := by decide +kernel
theorem dX12_gainOf_0 : decode cX12_gainOf 0 = .ok (.iconst 0, 1) := by decide +kernel
theorem dX12_gainOf_1 : decode cX12_gainOf 1 = .ok (.istore_n 3, 1) := by decide +kernel
theorem dX12_gainOf_2 : decode cX12_gainOf 2 = .ok (.iconst 0, 1) := by decide +kernel
theorem dX12_gainOf_3 : decode cX12_gainOf 3 = .ok (.istore 4, 2) := by decide +kernel
theorem dX12_gainOf_5 : decode cX12_gainOf 5 = .ok (.iload 4, 2) := by decide +kernel
theorem dX12_gainOf_7 : decode cX12_gainOf 7 = .ok (.aload_n 0, 1) := by decide +kernel
theorem dX12_gainOf_8 : decode cX12_gainOf 8 = .ok (.getfield 37, 3) := by decide +kernel
theorem dX12_gainOf_11 : decode cX12_gainOf 11 = .ok (.iconst 0, 1) := by decide +kernel
theorem dX12_gainOf_12 : decode cX12_gainOf 12 = .ok (.iaload, 1) := by decide +kernel
theorem dX12_gainOf_13 : decode cX12_gainOf 13 = .ok (.if_icmp .ge 62, 3) := by decide +kernel
theorem dX12_gainOf_16 : decode cX12_gainOf 16 = .ok (.iload_n 2, 1) := by decide +kernel
theorem dX12_gainOf_17 : decode cX12_gainOf 17 = .ok (.iload 4, 2) := by decide +kernel
theorem dX12_gainOf_19 : decode cX12_gainOf 19 = .ok (.invokestatic 233, 3) := by decide +kernel
theorem dX12_gainOf_22 : decode cX12_gainOf 22 = .ok (.ifCond .ne 6, 3) := by decide +kernel
theorem dX12_gainOf_25 : decode cX12_gainOf 25 = .ok (.goto 44, 3) := by decide +kernel
theorem dX12_gainOf_28 : decode cX12_gainOf 28 = .ok (.aload_n 0, 1) := by decide +kernel
theorem dX12_gainOf_29 : decode cX12_gainOf 29 = .ok (.getfield 94, 3) := by decide +kernel
theorem dX12_gainOf_32 : decode cX12_gainOf 32 = .ok (.iload 4, 2) := by decide +kernel
theorem dX12_gainOf_34 : decode cX12_gainOf 34 = .ok (.iaload, 1) := by decide +kernel
theorem dX12_gainOf_35 : decode cX12_gainOf 35 = .ok (.iconst (-1), 1) := by decide +kernel
theorem dX12_gainOf_36 : decode cX12_gainOf 36 = .ok (.if_icmp .eq 18, 3) := by decide +kernel
theorem dX12_gainOf_39 : decode cX12_gainOf 39 = .ok (.aload_n 0, 1) := by decide +kernel
theorem dX12_gainOf_40 : decode cX12_gainOf 40 = .ok (.getfield 94, 3) := by decide +kernel
theorem dX12_gainOf_43 : decode cX12_gainOf 43 = .ok (.iload 4, 2) := by decide +kernel
theorem dX12_gainOf_45 : decode cX12_gainOf 45 = .ok (.iaload, 1) := by decide +kernel
theorem dX12_gainOf_46 : decode cX12_gainOf 46 = .ok (.iload_n 1, 1) := by decide +kernel
theorem dX12_gainOf_47 : decode cX12_gainOf 47 = .ok (.if_icmp .eq 7, 3) := by decide +kernel
theorem dX12_gainOf_50 : decode cX12_gainOf 50 = .ok (.ldc_w 360, 3) := by decide +kernel
theorem dX12_gainOf_53 : decode cX12_gainOf 53 = .ok (.ireturn, 1) := by decide +kernel
theorem dX12_gainOf_54 : decode cX12_gainOf 54 = .ok (.iload_n 3, 1) := by decide +kernel
theorem dX12_gainOf_55 : decode cX12_gainOf 55 = .ok (.aload_n 0, 1) := by decide +kernel
theorem dX12_gainOf_56 : decode cX12_gainOf 56 = .ok (.getfield 91, 3) := by decide +kernel
theorem dX12_gainOf_59 : decode cX12_gainOf 59 = .ok (.bipush 9, 2) := by decide +kernel
theorem dX12_gainOf_61 : decode cX12_gainOf 61 = .ok (.iload_n 1, 1) := by decide +kernel
theorem dX12_gainOf_62 : decode cX12_gainOf 62 = .ok (.imul, 1) := by decide +kernel
theorem dX12_gainOf_63 : decode cX12_gainOf 63 = .ok (.iload 4, 2) := by decide +kernel
theorem dX12_gainOf_65 : decode cX12_gainOf 65 = .ok (.iadd, 1) := by decide +kernel
theorem dX12_gainOf_66 : decode cX12_gainOf 66 = .ok (.iaload, 1) := by decide +kernel
theorem dX12_gainOf_67 : decode cX12_gainOf 67 = .ok (.iadd, 1) := by decide +kernel
theorem dX12_gainOf_68 : decode cX12_gainOf 68 = .ok (.istore_n 3, 1) := by decide +kernel
theorem dX12_gainOf_69 : decode cX12_gainOf 69 = .ok (.iinc 4 1, 3) := by decide +kernel
theorem dX12_gainOf_72 : decode cX12_gainOf 72 = .ok (.goto (-67), 3) := by decide +kernel
theorem dX12_gainOf_75 : decode cX12_gainOf 75 = .ok (.iload_n 3, 1) := by decide +kernel
theorem dX12_gainOf_76 : decode cX12_gainOf 76 = .ok (.ireturn, 1) := by decide +kernel
theorem dX12_mostBy_0 : decode cX12_mostBy 0 = .ok (.iconst 1, 1) := by decide +kernel
theorem dX12_mostBy_1 : decode cX12_mostBy 1 = .ok (.aload_n 0, 1) := by decide +kernel
theorem dX12_mostBy_2 : decode cX12_mostBy 2 = .ok (.getfield 37, 3) := by decide +kernel
theorem dX12_mostBy_5 : decode cX12_mostBy 5 = .ok (.iconst 0, 1) := by decide +kernel
theorem dX12_mostBy_6 : decode cX12_mostBy 6 = .ok (.iaload, 1) := by decide +kernel
theorem dX12_mostBy_7 : decode cX12_mostBy 7 = .ok (.ishl, 1) := by decide +kernel
theorem dX12_mostBy_8 : decode cX12_mostBy 8 = .ok (.iconst 1, 1) := by decide +kernel
theorem dX12_mostBy_9 : decode cX12_mostBy 9 = .ok (.isub, 1) := by decide +kernel
theorem dX12_mostBy_10 : decode cX12_mostBy 10 = .ok (.istore_n 2, 1) := by decide +kernel
theorem dX12_mostBy_11 : decode cX12_mostBy 11 = .ok (.iconst 0, 1) := by decide +kernel
theorem dX12_mostBy_12 : decode cX12_mostBy 12 = .ok (.istore_n 3, 1) := by decide +kernel
theorem dX12_mostBy_13 : decode cX12_mostBy 13 = .ok (.iload_n 3, 1) := by decide +kernel
theorem dX12_mostBy_14 : decode cX12_mostBy 14 = .ok (.iload_n 2, 1) := by decide +kernel
theorem dX12_mostBy_15 : decode cX12_mostBy 15 = .ok (.if_icmp .gt 26, 3) := by decide +kernel
theorem dX12_mostBy_18 : decode cX12_mostBy 18 = .ok (.aload_n 0, 1) := by decide +kernel
theorem dX12_mostBy_19 : decode cX12_mostBy 19 = .ok (.getfield 85, 3) := by decide +kernel
theorem dX12_mostBy_22 : decode cX12_mostBy 22 = .ok (.iload_n 3, 1) := by decide +kernel
theorem dX12_mostBy_23 : decode cX12_mostBy 23 = .ok (.iload_n 3, 1) := by decide +kernel
theorem dX12_mostBy_24 : decode cX12_mostBy 24 = .ok (.ifCond .ne 7, 3) := by decide +kernel
theorem dX12_mostBy_27 : decode cX12_mostBy 27 = .ok (.iconst 0, 1) := by decide +kernel
theorem dX12_mostBy_28 : decode cX12_mostBy 28 = .ok (.goto 6, 3) := by decide +kernel
theorem dX12_mostBy_31 : decode cX12_mostBy 31 = .ok (.ldc_w 360, 3) := by decide +kernel
theorem dX12_mostBy_34 : decode cX12_mostBy 34 = .ok (.iastore, 1) := by decide +kernel
theorem dX12_mostBy_35 : decode cX12_mostBy 35 = .ok (.iinc 3 1, 3) := by decide +kernel
theorem dX12_mostBy_38 : decode cX12_mostBy 38 = .ok (.goto (-25), 3) := by decide +kernel
theorem dX12_mostBy_41 : decode cX12_mostBy 41 = .ok (.iconst 0, 1) := by decide +kernel
theorem dX12_mostBy_42 : decode cX12_mostBy 42 = .ok (.istore_n 3, 1) := by decide +kernel
theorem dX12_mostBy_43 : decode cX12_mostBy 43 = .ok (.iload_n 3, 1) := by decide +kernel
theorem dX12_mostBy_44 : decode cX12_mostBy 44 = .ok (.aload_n 0, 1) := by decide +kernel
theorem dX12_mostBy_45 : decode cX12_mostBy 45 = .ok (.getfield 286, 3) := by decide +kernel
theorem dX12_mostBy_48 : decode cX12_mostBy 48 = .ok (.if_icmp .ge 183, 3) := by decide +kernel
theorem dX12_mostBy_51 : decode cX12_mostBy 51 = .ok (.aload_n 0, 1) := by decide +kernel
theorem dX12_mostBy_52 : decode cX12_mostBy 52 = .ok (.iload_n 3, 1) := by decide +kernel
theorem dX12_mostBy_53 : decode cX12_mostBy 53 = .ok (.iconst 5, 1) := by decide +kernel
theorem dX12_mostBy_54 : decode cX12_mostBy 54 = .ok (.invokevirtual 301, 3) := by decide +kernel
theorem dX12_mostBy_57 : decode cX12_mostBy 57 = .ok (.iconst 1, 1) := by decide +kernel
theorem dX12_mostBy_58 : decode cX12_mostBy 58 = .ok (.if_icmp .ne 6, 3) := by decide +kernel
theorem dX12_mostBy_61 : decode cX12_mostBy 61 = .ok (.goto 164, 3) := by decide +kernel
theorem dX12_mostBy_64 : decode cX12_mostBy 64 = .ok (.iconst 0, 1) := by decide +kernel
theorem dX12_mostBy_65 : decode cX12_mostBy 65 = .ok (.istore 4, 2) := by decide +kernel
theorem dX12_mostBy_67 : decode cX12_mostBy 67 = .ok (.iload 4, 2) := by decide +kernel
theorem dX12_mostBy_69 : decode cX12_mostBy 69 = .ok (.iload_n 2, 1) := by decide +kernel
theorem dX12_mostBy_70 : decode cX12_mostBy 70 = .ok (.if_icmp .gt 19, 3) := by decide +kernel
theorem dX12_mostBy_73 : decode cX12_mostBy 73 = .ok (.aload_n 0, 1) := by decide +kernel
theorem dX12_mostBy_74 : decode cX12_mostBy 74 = .ok (.getfield 88, 3) := by decide +kernel
theorem dX12_mostBy_77 : decode cX12_mostBy 77 = .ok (.iload 4, 2) := by decide +kernel
theorem dX12_mostBy_79 : decode cX12_mostBy 79 = .ok (.ldc_w 360, 3) := by decide +kernel
theorem dX12_mostBy_82 : decode cX12_mostBy 82 = .ok (.iastore, 1) := by decide +kernel
theorem dX12_mostBy_83 : decode cX12_mostBy 83 = .ok (.iinc 4 1, 3) := by decide +kernel
theorem dX12_mostBy_86 : decode cX12_mostBy 86 = .ok (.goto (-19), 3) := by decide +kernel
theorem dX12_mostBy_89 : decode cX12_mostBy 89 = .ok (.iconst 0, 1) := by decide +kernel
theorem dX12_mostBy_90 : decode cX12_mostBy 90 = .ok (.istore 4, 2) := by decide +kernel
theorem dX12_mostBy_92 : decode cX12_mostBy 92 = .ok (.iload 4, 2) := by decide +kernel
theorem dX12_mostBy_94 : decode cX12_mostBy 94 = .ok (.iload_n 2, 1) := by decide +kernel
theorem dX12_mostBy_95 : decode cX12_mostBy 95 = .ok (.if_icmp .gt 101, 3) := by decide +kernel
theorem dX12_mostBy_98 : decode cX12_mostBy 98 = .ok (.iload 4, 2) := by decide +kernel
theorem dX12_mostBy_100 : decode cX12_mostBy 100 = .ok (.invokestatic 400, 3) := by decide +kernel
theorem dX12_mostBy_103 : decode cX12_mostBy 103 = .ok (.iload_n 1, 1) := by decide +kernel
theorem dX12_mostBy_104 : decode cX12_mostBy 104 = .ok (.if_icmp .le 6, 3) := by decide +kernel
theorem dX12_mostBy_107 : decode cX12_mostBy 107 = .ok (.goto 83, 3) := by decide +kernel
theorem dX12_mostBy_110 : decode cX12_mostBy 110 = .ok (.aload_n 0, 1) := by decide +kernel
theorem dX12_mostBy_111 : decode cX12_mostBy 111 = .ok (.iload_n 3, 1) := by decide +kernel
theorem dX12_mostBy_112 : decode cX12_mostBy 112 = .ok (.iload 4, 2) := by decide +kernel
theorem dX12_mostBy_114 : decode cX12_mostBy 114 = .ok (.invokevirtual 420, 3) := by decide +kernel
theorem dX12_mostBy_117 : decode cX12_mostBy 117 = .ok (.istore 5, 2) := by decide +kernel
theorem dX12_mostBy_119 : decode cX12_mostBy 119 = .ok (.iconst 0, 1) := by decide +kernel
theorem dX12_mostBy_120 : decode cX12_mostBy 120 = .ok (.istore 6, 2) := by decide +kernel
theorem dX12_mostBy_122 : decode cX12_mostBy 122 = .ok (.iload 6, 2) := by decide +kernel
theorem dX12_mostBy_124 : decode cX12_mostBy 124 = .ok (.iload_n 2, 1) := by decide +kernel
theorem dX12_mostBy_125 : decode cX12_mostBy 125 = .ok (.if_icmp .gt 65, 3) := by decide +kernel
theorem dX12_mostBy_128 : decode cX12_mostBy 128 = .ok (.iload 5, 2) := by decide +kernel
theorem dX12_mostBy_130 : decode cX12_mostBy 130 = .ok (.ifCond .lt 60, 3) := by decide +kernel
theorem dX12_mostBy_133 : decode cX12_mostBy 133 = .ok (.iload 6, 2) := by decide +kernel
theorem dX12_mostBy_135 : decode cX12_mostBy 135 = .ok (.iload 4, 2) := by decide +kernel
theorem dX12_mostBy_137 : decode cX12_mostBy 137 = .ok (.iand, 1) := by decide +kernel
theorem dX12_mostBy_138 : decode cX12_mostBy 138 = .ok (.ifCond .ne 46, 3) := by decide +kernel
theorem dX12_mostBy_141 : decode cX12_mostBy 141 = .ok (.aload_n 0, 1) := by decide +kernel
theorem dX12_mostBy_142 : decode cX12_mostBy 142 = .ok (.getfield 85, 3) := by decide +kernel
theorem dX12_mostBy_145 : decode cX12_mostBy 145 = .ok (.iload 6, 2) := by decide +kernel
theorem dX12_mostBy_147 : decode cX12_mostBy 147 = .ok (.iaload, 1) := by decide +kernel
theorem dX12_mostBy_148 : decode cX12_mostBy 148 = .ok (.ifCond .lt 36, 3) := by decide +kernel
theorem dX12_mostBy_151 : decode cX12_mostBy 151 = .ok (.aload_n 0, 1) := by decide +kernel
theorem dX12_mostBy_152 : decode cX12_mostBy 152 = .ok (.getfield 88, 3) := by decide +kernel
theorem dX12_mostBy_155 : decode cX12_mostBy 155 = .ok (.iload 6, 2) := by decide +kernel
theorem dX12_mostBy_157 : decode cX12_mostBy 157 = .ok (.iload 4, 2) := by decide +kernel
theorem dX12_mostBy_159 : decode cX12_mostBy 159 = .ok (.ior, 1) := by decide +kernel
theorem dX12_mostBy_160 : decode cX12_mostBy 160 = .ok (.aload_n 0, 1) := by decide +kernel
theorem dX12_mostBy_161 : decode cX12_mostBy 161 = .ok (.getfield 88, 3) := by decide +kernel
theorem dX12_mostBy_164 : decode cX12_mostBy 164 = .ok (.iload 6, 2) := by decide +kernel
theorem dX12_mostBy_166 : decode cX12_mostBy 166 = .ok (.iload 4, 2) := by decide +kernel
theorem dX12_mostBy_168 : decode cX12_mostBy 168 = .ok (.ior, 1) := by decide +kernel
theorem dX12_mostBy_169 : decode cX12_mostBy 169 = .ok (.iaload, 1) := by decide +kernel
theorem dX12_mostBy_170 : decode cX12_mostBy 170 = .ok (.aload_n 0, 1) := by decide +kernel
theorem dX12_mostBy_171 : decode cX12_mostBy 171 = .ok (.getfield 85, 3) := by decide +kernel
theorem dX12_mostBy_174 : decode cX12_mostBy 174 = .ok (.iload 6, 2) := by decide +kernel
theorem dX12_mostBy_176 : decode cX12_mostBy 176 = .ok (.iaload, 1) := by decide +kernel
theorem dX12_mostBy_177 : decode cX12_mostBy 177 = .ok (.iload 5, 2) := by decide +kernel
theorem dX12_mostBy_179 : decode cX12_mostBy 179 = .ok (.iadd, 1) := by decide +kernel
theorem dX12_mostBy_180 : decode cX12_mostBy 180 = .ok (.invokestatic 310, 3) := by decide +kernel
theorem dX12_mostBy_183 : decode cX12_mostBy 183 = .ok (.iastore, 1) := by decide +kernel
theorem dX12_mostBy_184 : decode cX12_mostBy 184 = .ok (.iinc 6 1, 3) := by decide +kernel
theorem dX12_mostBy_187 : decode cX12_mostBy 187 = .ok (.goto (-65), 3) := by decide +kernel
theorem dX12_mostBy_190 : decode cX12_mostBy 190 = .ok (.iinc 4 1, 3) := by decide +kernel
theorem dX12_mostBy_193 : decode cX12_mostBy 193 = .ok (.goto (-101), 3) := by decide +kernel
theorem dX12_mostBy_196 : decode cX12_mostBy 196 = .ok (.iconst 0, 1) := by decide +kernel
theorem dX12_mostBy_197 : decode cX12_mostBy 197 = .ok (.istore 4, 2) := by decide +kernel
theorem dX12_mostBy_199 : decode cX12_mostBy 199 = .ok (.iload 4, 2) := by decide +kernel
theorem dX12_mostBy_201 : decode cX12_mostBy 201 = .ok (.iload_n 2, 1) := by decide +kernel
theorem dX12_mostBy_202 : decode cX12_mostBy 202 = .ok (.if_icmp .gt 23, 3) := by decide +kernel
theorem dX12_mostBy_205 : decode cX12_mostBy 205 = .ok (.aload_n 0, 1) := by decide +kernel
theorem dX12_mostBy_206 : decode cX12_mostBy 206 = .ok (.getfield 85, 3) := by decide +kernel
theorem dX12_mostBy_209 : decode cX12_mostBy 209 = .ok (.iload 4, 2) := by decide +kernel
theorem dX12_mostBy_211 : decode cX12_mostBy 211 = .ok (.aload_n 0, 1) := by decide +kernel
theorem dX12_mostBy_212 : decode cX12_mostBy 212 = .ok (.getfield 88, 3) := by decide +kernel
theorem dX12_mostBy_215 : decode cX12_mostBy 215 = .ok (.iload 4, 2) := by decide +kernel
theorem dX12_mostBy_217 : decode cX12_mostBy 217 = .ok (.iaload, 1) := by decide +kernel
theorem dX12_mostBy_218 : decode cX12_mostBy 218 = .ok (.iastore, 1) := by decide +kernel
theorem dX12_mostBy_219 : decode cX12_mostBy 219 = .ok (.iinc 4 1, 3) := by decide +kernel
theorem dX12_mostBy_222 : decode cX12_mostBy 222 = .ok (.goto (-23), 3) := by decide +kernel
theorem dX12_mostBy_225 : decode cX12_mostBy 225 = .ok (.iinc 3 1, 3) := by decide +kernel
theorem dX12_mostBy_228 : decode cX12_mostBy 228 = .ok (.goto (-185), 3) := by decide +kernel
theorem dX12_mostBy_231 : decode cX12_mostBy 231 = .ok (.aload_n 0, 1) := by decide +kernel
theorem dX12_mostBy_232 : decode cX12_mostBy 232 = .ok (.getfield 85, 3) := by decide +kernel
theorem dX12_mostBy_235 : decode cX12_mostBy 235 = .ok (.iload_n 2, 1) := by decide +kernel
theorem dX12_mostBy_236 : decode cX12_mostBy 236 = .ok (.iaload, 1) := by decide +kernel
theorem dX12_mostBy_237 : decode cX12_mostBy 237 = .ok (.ireturn, 1) := by decide +kernel
theorem dX12_timetable_0 : decode cX12_timetable 0 = .ok (.aload_n 0, 1) := by decide +kernel
theorem dX12_timetable_1 : decode cX12_timetable 1 = .ok (.iconst 0, 1) := by decide +kernel
theorem dX12_timetable_2 : decode cX12_timetable 2 = .ok (.putfield 100, 3) := by decide +kernel
theorem dX12_timetable_5 : decode cX12_timetable 5 = .ok (.aload_n 0, 1) := by decide +kernel
theorem dX12_timetable_6 : decode cX12_timetable 6 = .ok (.getfield 286, 3) := by decide +kernel
theorem dX12_timetable_9 : decode cX12_timetable 9 = .ok (.ifCond .eq 25, 3) := by decide +kernel
theorem dX12_timetable_12 : decode cX12_timetable 12 = .ok (.iload_n 1, 1) := by decide +kernel
theorem dX12_timetable_13 : decode cX12_timetable 13 = .ok (.i2l, 1) := by decide +kernel
theorem dX12_timetable_14 : decode cX12_timetable 14 = .ok (.lconst 1, 1) := by decide +kernel
theorem dX12_timetable_15 : decode cX12_timetable 15 = .ok (.ldc2_w 266, 3) := by decide +kernel
theorem dX12_timetable_18 : decode cX12_timetable 18 = .ok (.invokestatic 221, 3) := by decide +kernel
theorem dX12_timetable_21 : decode cX12_timetable 21 = .ok (.ifCond .eq 13, 3) := by decide +kernel
theorem dX12_timetable_24 : decode cX12_timetable 24 = .ok (.iload_n 2, 1) := by decide +kernel
theorem dX12_timetable_25 : decode cX12_timetable 25 = .ok (.i2l, 1) := by decide +kernel
theorem dX12_timetable_26 : decode cX12_timetable 26 = .ok (.lconst 0, 1) := by decide +kernel
theorem dX12_timetable_27 : decode cX12_timetable 27 = .ok (.lconst 1, 1) := by decide +kernel
theorem dX12_timetable_28 : decode cX12_timetable 28 = .ok (.invokestatic 221, 3) := by decide +kernel
theorem dX12_timetable_31 : decode cX12_timetable 31 = .ok (.ifCond .ne 5, 3) := by decide +kernel
theorem dX12_timetable_34 : decode cX12_timetable 34 = .ok (.iconst (-1), 1) := by decide +kernel
theorem dX12_timetable_35 : decode cX12_timetable 35 = .ok (.ireturn, 1) := by decide +kernel
theorem dX12_timetable_36 : decode cX12_timetable 36 = .ok (.iconst 0, 1) := by decide +kernel
theorem dX12_timetable_37 : decode cX12_timetable 37 = .ok (.istore_n 3, 1) := by decide +kernel
theorem dX12_timetable_38 : decode cX12_timetable 38 = .ok (.iload_n 3, 1) := by decide +kernel
theorem dX12_timetable_39 : decode cX12_timetable 39 = .ok (.aload_n 0, 1) := by decide +kernel
theorem dX12_timetable_40 : decode cX12_timetable 40 = .ok (.getfield 286, 3) := by decide +kernel
theorem dX12_timetable_43 : decode cX12_timetable 43 = .ok (.if_icmp .ge 51, 3) := by decide +kernel
theorem dX12_timetable_46 : decode cX12_timetable 46 = .ok (.iconst 0, 1) := by decide +kernel
theorem dX12_timetable_47 : decode cX12_timetable 47 = .ok (.istore 4, 2) := by decide +kernel
theorem dX12_timetable_49 : decode cX12_timetable 49 = .ok (.iload 4, 2) := by decide +kernel
theorem dX12_timetable_51 : decode cX12_timetable 51 = .ok (.aload_n 0, 1) := by decide +kernel
theorem dX12_timetable_52 : decode cX12_timetable 52 = .ok (.getfield 37, 3) := by decide +kernel
theorem dX12_timetable_55 : decode cX12_timetable 55 = .ok (.iconst 0, 1) := by decide +kernel
theorem dX12_timetable_56 : decode cX12_timetable 56 = .ok (.iaload, 1) := by decide +kernel
theorem dX12_timetable_57 : decode cX12_timetable 57 = .ok (.if_icmp .ge 31, 3) := by decide +kernel
theorem dX12_timetable_60 : decode cX12_timetable 60 = .ok (.aload_n 0, 1) := by decide +kernel
theorem dX12_timetable_61 : decode cX12_timetable 61 = .ok (.getfield 91, 3) := by decide +kernel
theorem dX12_timetable_64 : decode cX12_timetable 64 = .ok (.bipush 9, 2) := by decide +kernel
theorem dX12_timetable_66 : decode cX12_timetable 66 = .ok (.iload_n 3, 1) := by decide +kernel
theorem dX12_timetable_67 : decode cX12_timetable 67 = .ok (.imul, 1) := by decide +kernel
theorem dX12_timetable_68 : decode cX12_timetable 68 = .ok (.iload 4, 2) := by decide +kernel
theorem dX12_timetable_70 : decode cX12_timetable 70 = .ok (.iadd, 1) := by decide +kernel
theorem dX12_timetable_71 : decode cX12_timetable 71 = .ok (.bipush 10, 2) := by decide +kernel
theorem dX12_timetable_73 : decode cX12_timetable 73 = .ok (.aload_n 0, 1) := by decide +kernel
theorem dX12_timetable_74 : decode cX12_timetable 74 = .ok (.iload_n 3, 1) := by decide +kernel
theorem dX12_timetable_75 : decode cX12_timetable 75 = .ok (.iload 4, 2) := by decide +kernel
theorem dX12_timetable_77 : decode cX12_timetable 77 = .ok (.invokevirtual 340, 3) := by decide +kernel
theorem dX12_timetable_80 : decode cX12_timetable 80 = .ok (.isub, 1) := by decide +kernel
theorem dX12_timetable_81 : decode cX12_timetable 81 = .ok (.iastore, 1) := by decide +kernel
theorem dX12_timetable_82 : decode cX12_timetable 82 = .ok (.iinc 4 1, 3) := by decide +kernel
theorem dX12_timetable_85 : decode cX12_timetable 85 = .ok (.goto (-36), 3) := by decide +kernel
theorem dX12_timetable_88 : decode cX12_timetable 88 = .ok (.iinc 3 1, 3) := by decide +kernel
theorem dX12_timetable_91 : decode cX12_timetable 91 = .ok (.goto (-53), 3) := by decide +kernel
theorem dX12_timetable_94 : decode cX12_timetable 94 = .ok (.iconst 0, 1) := by decide +kernel
theorem dX12_timetable_95 : decode cX12_timetable 95 = .ok (.istore_n 3, 1) := by decide +kernel
theorem dX12_timetable_96 : decode cX12_timetable 96 = .ok (.iload_n 3, 1) := by decide +kernel
theorem dX12_timetable_97 : decode cX12_timetable 97 = .ok (.bipush 9, 2) := by decide +kernel
theorem dX12_timetable_99 : decode cX12_timetable 99 = .ok (.if_icmp .ge 16, 3) := by decide +kernel
theorem dX12_timetable_102 : decode cX12_timetable 102 = .ok (.aload_n 0, 1) := by decide +kernel
theorem dX12_timetable_103 : decode cX12_timetable 103 = .ok (.getfield 94, 3) := by decide +kernel
theorem dX12_timetable_106 : decode cX12_timetable 106 = .ok (.iload_n 3, 1) := by decide +kernel
theorem dX12_timetable_107 : decode cX12_timetable 107 = .ok (.iconst (-1), 1) := by decide +kernel
theorem dX12_timetable_108 : decode cX12_timetable 108 = .ok (.iastore, 1) := by decide +kernel
theorem dX12_timetable_109 : decode cX12_timetable 109 = .ok (.iinc 3 1, 3) := by decide +kernel
theorem dX12_timetable_112 : decode cX12_timetable 112 = .ok (.goto (-16), 3) := by decide +kernel
theorem dX12_timetable_115 : decode cX12_timetable 115 = .ok (.aload_n 0, 1) := by decide +kernel
theorem dX12_timetable_116 : decode cX12_timetable 116 = .ok (.iload_n 1, 1) := by decide +kernel
theorem dX12_timetable_117 : decode cX12_timetable 117 = .ok (.invokevirtual 423, 3) := by decide +kernel
theorem dX12_timetable_120 : decode cX12_timetable 120 = .ok (.istore_n 3, 1) := by decide +kernel
theorem dX12_timetable_121 : decode cX12_timetable 121 = .ok (.iload_n 3, 1) := by decide +kernel
theorem dX12_timetable_122 : decode cX12_timetable 122 = .ok (.ifCond .ge 5, 3) := by decide +kernel
theorem dX12_timetable_125 : decode cX12_timetable 125 = .ok (.iconst (-1), 1) := by decide +kernel
theorem dX12_timetable_126 : decode cX12_timetable 126 = .ok (.ireturn, 1) := by decide +kernel
theorem dX12_timetable_127 : decode cX12_timetable 127 = .ok (.iload_n 2, 1) := by decide +kernel
theorem dX12_timetable_128 : decode cX12_timetable 128 = .ok (.iconst 1, 1) := by decide +kernel
theorem dX12_timetable_129 : decode cX12_timetable 129 = .ok (.if_icmp .ne 5, 3) := by decide +kernel
theorem dX12_timetable_132 : decode cX12_timetable 132 = .ok (.iload_n 3, 1) := by decide +kernel
theorem dX12_timetable_133 : decode cX12_timetable 133 = .ok (.ireturn, 1) := by decide +kernel
theorem dX12_timetable_134 : decode cX12_timetable 134 = .ok (.iconst 0, 1) := by decide +kernel
theorem dX12_timetable_135 : decode cX12_timetable 135 = .ok (.istore 4, 2) := by decide +kernel
theorem dX12_timetable_137 : decode cX12_timetable 137 = .ok (.iconst 0, 1) := by decide +kernel
theorem dX12_timetable_138 : decode cX12_timetable 138 = .ok (.istore 5, 2) := by decide +kernel
theorem dX12_timetable_140 : decode cX12_timetable 140 = .ok (.iload 5, 2) := by decide +kernel
theorem dX12_timetable_142 : decode cX12_timetable 142 = .ok (.aload_n 0, 1) := by decide +kernel
theorem dX12_timetable_143 : decode cX12_timetable 143 = .ok (.getfield 37, 3) := by decide +kernel
theorem dX12_timetable_146 : decode cX12_timetable 146 = .ok (.iconst 0, 1) := by decide +kernel
theorem dX12_timetable_147 : decode cX12_timetable 147 = .ok (.iaload, 1) := by decide +kernel
theorem dX12_timetable_148 : decode cX12_timetable 148 = .ok (.if_icmp .ge 55, 3) := by decide +kernel
theorem dX12_timetable_151 : decode cX12_timetable 151 = .ok (.aload_n 0, 1) := by decide +kernel
theorem dX12_timetable_152 : decode cX12_timetable 152 = .ok (.getfield 94, 3) := by decide +kernel
theorem dX12_timetable_155 : decode cX12_timetable 155 = .ok (.iload 5, 2) := by decide +kernel
theorem dX12_timetable_157 : decode cX12_timetable 157 = .ok (.iconst 0, 1) := by decide +kernel
theorem dX12_timetable_158 : decode cX12_timetable 158 = .ok (.iastore, 1) := by decide +kernel
theorem dX12_timetable_159 : decode cX12_timetable 159 = .ok (.aload_n 0, 1) := by decide +kernel
theorem dX12_timetable_160 : decode cX12_timetable 160 = .ok (.iload_n 1, 1) := by decide +kernel
theorem dX12_timetable_161 : decode cX12_timetable 161 = .ok (.invokevirtual 423, 3) := by decide +kernel
theorem dX12_timetable_164 : decode cX12_timetable 164 = .ok (.iload_n 3, 1) := by decide +kernel
theorem dX12_timetable_165 : decode cX12_timetable 165 = .ok (.if_icmp .eq 17, 3) := by decide +kernel
theorem dX12_timetable_168 : decode cX12_timetable 168 = .ok (.aload_n 0, 1) := by decide +kernel
theorem dX12_timetable_169 : decode cX12_timetable 169 = .ok (.getfield 94, 3) := by decide +kernel
theorem dX12_timetable_172 : decode cX12_timetable 172 = .ok (.iload 5, 2) := by decide +kernel
theorem dX12_timetable_174 : decode cX12_timetable 174 = .ok (.dup2, 1) := by decide +kernel
theorem dX12_timetable_175 : decode cX12_timetable 175 = .ok (.iaload, 1) := by decide +kernel
theorem dX12_timetable_176 : decode cX12_timetable 176 = .ok (.iconst 1, 1) := by decide +kernel
theorem dX12_timetable_177 : decode cX12_timetable 177 = .ok (.iadd, 1) := by decide +kernel
theorem dX12_timetable_178 : decode cX12_timetable 178 = .ok (.iastore, 1) := by decide +kernel
theorem dX12_timetable_179 : decode cX12_timetable 179 = .ok (.goto (-20), 3) := by decide +kernel
theorem dX12_timetable_182 : decode cX12_timetable 182 = .ok (.bipush 10, 2) := by decide +kernel
theorem dX12_timetable_184 : decode cX12_timetable 184 = .ok (.iload 4, 2) := by decide +kernel
theorem dX12_timetable_186 : decode cX12_timetable 186 = .ok (.imul, 1) := by decide +kernel
theorem dX12_timetable_187 : decode cX12_timetable 187 = .ok (.aload_n 0, 1) := by decide +kernel
theorem dX12_timetable_188 : decode cX12_timetable 188 = .ok (.getfield 94, 3) := by decide +kernel
theorem dX12_timetable_191 : decode cX12_timetable 191 = .ok (.iload 5, 2) := by decide +kernel
theorem dX12_timetable_193 : decode cX12_timetable 193 = .ok (.iaload, 1) := by decide +kernel
theorem dX12_timetable_194 : decode cX12_timetable 194 = .ok (.iadd, 1) := by decide +kernel
theorem dX12_timetable_195 : decode cX12_timetable 195 = .ok (.istore 4, 2) := by decide +kernel
theorem dX12_timetable_197 : decode cX12_timetable 197 = .ok (.iinc 5 1, 3) := by decide +kernel
theorem dX12_timetable_200 : decode cX12_timetable 200 = .ok (.goto (-60), 3) := by decide +kernel
theorem dX12_timetable_203 : decode cX12_timetable 203 = .ok (.iload 4, 2) := by decide +kernel
theorem dX12_timetable_205 : decode cX12_timetable 205 = .ok (.ireturn, 1) := by decide +kernel
theorem dX12_coupleOf_0 : decode cX12_coupleOf 0 = .ok (.iconst 0, 1) := by decide +kernel
theorem dX12_coupleOf_1 : decode cX12_coupleOf 1 = .ok (.aload_n 0, 1) := by decide +kernel
theorem dX12_coupleOf_2 : decode cX12_coupleOf 2 = .ok (.iload_n 1, 1) := by decide +kernel
theorem dX12_coupleOf_3 : decode cX12_coupleOf 3 = .ok (.invokevirtual 383, 3) := by decide +kernel
theorem dX12_coupleOf_6 : decode cX12_coupleOf 6 = .ok (.invokestatic 310, 3) := by decide +kernel
theorem dX12_coupleOf_9 : decode cX12_coupleOf 9 = .ok (.iconst 2, 1) := by decide +kernel
theorem dX12_coupleOf_10 : decode cX12_coupleOf 10 = .ok (.idiv, 1) := by decide +kernel
theorem dX12_coupleOf_11 : decode cX12_coupleOf 11 = .ok (.ineg, 1) := by decide +kernel
theorem dX12_coupleOf_12 : decode cX12_coupleOf 12 = .ok (.istore 4, 2) := by decide +kernel
theorem dX12_coupleOf_14 : decode cX12_coupleOf 14 = .ok (.iload_n 2, 1) := by decide +kernel
theorem dX12_coupleOf_15 : decode cX12_coupleOf 15 = .ok (.iconst 1, 1) := by decide +kernel
theorem dX12_coupleOf_16 : decode cX12_coupleOf 16 = .ok (.if_icmp .ne 10, 3) := by decide +kernel
theorem dX12_coupleOf_19 : decode cX12_coupleOf 19 = .ok (.iload_n 3, 1) := by decide +kernel
theorem dX12_coupleOf_20 : decode cX12_coupleOf 20 = .ok (.ifCond .ne 6, 3) := by decide +kernel
theorem dX12_coupleOf_23 : decode cX12_coupleOf 23 = .ok (.iinc 4 2, 3) := by decide +kernel
theorem dX12_coupleOf_26 : decode cX12_coupleOf 26 = .ok (.iload_n 3, 1) := by decide +kernel
theorem dX12_coupleOf_27 : decode cX12_coupleOf 27 = .ok (.iconst 1, 1) := by decide +kernel
theorem dX12_coupleOf_28 : decode cX12_coupleOf 28 = .ok (.if_icmp .ne 6, 3) := by decide +kernel
theorem dX12_coupleOf_31 : decode cX12_coupleOf 31 = .ok (.iinc 4 (-4), 3) := by decide +kernel
theorem dX12_coupleOf_34 : decode cX12_coupleOf 34 = .ok (.iload_n 2, 1) := by decide +kernel
theorem dX12_coupleOf_35 : decode cX12_coupleOf 35 = .ok (.iload_n 3, 1) := by decide +kernel
theorem dX12_coupleOf_36 : decode cX12_coupleOf 36 = .ok (.iadd, 1) := by decide +kernel
theorem dX12_coupleOf_37 : decode cX12_coupleOf 37 = .ok (.ifCond .ne 10, 3) := by decide +kernel
theorem dX12_coupleOf_40 : decode cX12_coupleOf 40 = .ok (.iload 4, 2) := by decide +kernel
theorem dX12_coupleOf_42 : decode cX12_coupleOf 42 = .ok (.iconst 1, 1) := by decide +kernel
theorem dX12_coupleOf_43 : decode cX12_coupleOf 43 = .ok (.iadd, 1) := by decide +kernel
theorem dX12_coupleOf_44 : decode cX12_coupleOf 44 = .ok (.goto 5, 3) := by decide +kernel
theorem dX12_coupleOf_47 : decode cX12_coupleOf 47 = .ok (.iload 4, 2) := by decide +kernel
theorem dX12_coupleOf_49 : decode cX12_coupleOf 49 = .ok (.ireturn, 1) := by decide +kernel
theorem dX12_isCouple_0 : decode cX12_isCouple 0 = .ok (.aload_n 0, 1) := by decide +kernel
theorem dX12_isCouple_1 : decode cX12_isCouple 1 = .ok (.iload_n 1, 1) := by decide +kernel
theorem dX12_isCouple_2 : decode cX12_isCouple 2 = .ok (.invokevirtual 347, 3) := by decide +kernel
theorem dX12_isCouple_5 : decode cX12_isCouple 5 = .ok (.ifCond .eq 16, 3) := by decide +kernel
theorem dX12_isCouple_8 : decode cX12_isCouple 8 = .ok (.aload_n 0, 1) := by decide +kernel
theorem dX12_isCouple_9 : decode cX12_isCouple 9 = .ok (.iload_n 1, 1) := by decide +kernel
theorem dX12_isCouple_10 : decode cX12_isCouple 10 = .ok (.invokevirtual 352, 3) := by decide +kernel
theorem dX12_isCouple_13 : decode cX12_isCouple 13 = .ok (.iconst (-1), 1) := by decide +kernel
theorem dX12_isCouple_14 : decode cX12_isCouple 14 = .ok (.if_icmp .eq 7, 3) := by decide +kernel
theorem dX12_isCouple_17 : decode cX12_isCouple 17 = .ok (.iconst 1, 1) := by decide +kernel
theorem dX12_isCouple_18 : decode cX12_isCouple 18 = .ok (.goto 4, 3) := by decide +kernel
theorem dX12_isCouple_21 : decode cX12_isCouple 21 = .ok (.iconst 0, 1) := by decide +kernel
theorem dX12_isCouple_22 : decode cX12_isCouple 22 = .ok (.ireturn, 1) := by decide +kernel
theorem dX12_couple_0 : decode cX12_couple 0 = .ok (.aload_n 0, 1) := by decide +kernel
theorem dX12_couple_1 : decode cX12_couple 1 = .ok (.iconst 0, 1) := by decide +kernel
theorem dX12_couple_2 : decode cX12_couple 2 = .ok (.putfield 100, 3) := by decide +kernel
theorem dX12_couple_5 : decode cX12_couple 5 = .ok (.aload_n 0, 1) := by decide +kernel
theorem dX12_couple_6 : decode cX12_couple 6 = .ok (.iload_n 1, 1) := by decide +kernel
theorem dX12_couple_7 : decode cX12_couple 7 = .ok (.invokevirtual 426, 3) := by decide +kernel
theorem dX12_couple_10 : decode cX12_couple 10 = .ok (.ifCond .eq 34, 3) := by decide +kernel
theorem dX12_couple_13 : decode cX12_couple 13 = .ok (.iload_n 2, 1) := by decide +kernel
theorem dX12_couple_14 : decode cX12_couple 14 = .ok (.i2l, 1) := by decide +kernel
theorem dX12_couple_15 : decode cX12_couple 15 = .ok (.lconst 0, 1) := by decide +kernel
theorem dX12_couple_16 : decode cX12_couple 16 = .ok (.lconst 1, 1) := by decide +kernel
theorem dX12_couple_17 : decode cX12_couple 17 = .ok (.invokestatic 221, 3) := by decide +kernel
theorem dX12_couple_20 : decode cX12_couple 20 = .ok (.ifCond .eq 24, 3) := by decide +kernel
theorem dX12_couple_23 : decode cX12_couple 23 = .ok (.iload_n 3, 1) := by decide +kernel
theorem dX12_couple_24 : decode cX12_couple 24 = .ok (.i2l, 1) := by decide +kernel
theorem dX12_couple_25 : decode cX12_couple 25 = .ok (.lconst 0, 1) := by decide +kernel
theorem dX12_couple_26 : decode cX12_couple 26 = .ok (.lconst 1, 1) := by decide +kernel
theorem dX12_couple_27 : decode cX12_couple 27 = .ok (.invokestatic 221, 3) := by decide +kernel
theorem dX12_couple_30 : decode cX12_couple 30 = .ok (.ifCond .eq 14, 3) := by decide +kernel
theorem dX12_couple_33 : decode cX12_couple 33 = .ok (.iload 4, 2) := by decide +kernel
theorem dX12_couple_35 : decode cX12_couple 35 = .ok (.i2l, 1) := by decide +kernel
theorem dX12_couple_36 : decode cX12_couple 36 = .ok (.lconst 0, 1) := by decide +kernel
theorem dX12_couple_37 : decode cX12_couple 37 = .ok (.lconst 1, 1) := by decide +kernel
theorem dX12_couple_38 : decode cX12_couple 38 = .ok (.invokestatic 221, 3) := by decide +kernel
theorem dX12_couple_41 : decode cX12_couple 41 = .ok (.ifCond .ne 7, 3) := by decide +kernel
theorem dX12_couple_44 : decode cX12_couple 44 = .ok (.ldc_w 360, 3) := by decide +kernel
theorem dX12_couple_47 : decode cX12_couple 47 = .ok (.ireturn, 1) := by decide +kernel
theorem dX12_couple_48 : decode cX12_couple 48 = .ok (.iload 4, 2) := by decide +kernel
theorem dX12_couple_50 : decode cX12_couple 50 = .ok (.ifCond .ne 13, 3) := by decide +kernel
theorem dX12_couple_53 : decode cX12_couple 53 = .ok (.aload_n 0, 1) := by decide +kernel
theorem dX12_couple_54 : decode cX12_couple 54 = .ok (.iload_n 1, 1) := by decide +kernel
theorem dX12_couple_55 : decode cX12_couple 55 = .ok (.iload_n 2, 1) := by decide +kernel
theorem dX12_couple_56 : decode cX12_couple 56 = .ok (.iload_n 3, 1) := by decide +kernel
theorem dX12_couple_57 : decode cX12_couple 57 = .ok (.invokevirtual 429, 3) := by decide +kernel
theorem dX12_couple_60 : decode cX12_couple 60 = .ok (.goto 14, 3) := by decide +kernel
theorem dX12_couple_63 : decode cX12_couple 63 = .ok (.aload_n 0, 1) := by decide +kernel
theorem dX12_couple_64 : decode cX12_couple 64 = .ok (.aload_n 0, 1) := by decide +kernel
theorem dX12_couple_65 : decode cX12_couple 65 = .ok (.iload_n 1, 1) := by decide +kernel
theorem dX12_couple_66 : decode cX12_couple 66 = .ok (.invokevirtual 352, 3) := by decide +kernel
theorem dX12_couple_69 : decode cX12_couple 69 = .ok (.iload_n 3, 1) := by decide +kernel
theorem dX12_couple_70 : decode cX12_couple 70 = .ok (.iload_n 2, 1) := by decide +kernel
theorem dX12_couple_71 : decode cX12_couple 71 = .ok (.invokevirtual 429, 3) := by decide +kernel
theorem dX12_couple_74 : decode cX12_couple 74 = .ok (.ireturn, 1) := by decide +kernel
theorem dX12_rests_0 : decode cX12_rests 0 = .ok (.aload_n 0, 1) := by decide +kernel
theorem dX12_rests_1 : decode cX12_rests 1 = .ok (.iconst 0, 1) := by decide +kernel
theorem dX12_rests_2 : decode cX12_rests 2 = .ok (.putfield 100, 3) := by decide +kernel
theorem dX12_rests_5 : decode cX12_rests 5 = .ok (.aload_n 0, 1) := by decide +kernel
theorem dX12_rests_6 : decode cX12_rests 6 = .ok (.iload_n 1, 1) := by decide +kernel
theorem dX12_rests_7 : decode cX12_rests 7 = .ok (.invokevirtual 426, 3) := by decide +kernel
theorem dX12_rests_10 : decode cX12_rests 10 = .ok (.ifCond .eq 8, 3) := by decide +kernel
theorem dX12_rests_13 : decode cX12_rests 13 = .ok (.iload_n 2, 1) := by decide +kernel
theorem dX12_rests_14 : decode cX12_rests 14 = .ok (.iconst (-1), 1) := by decide +kernel
theorem dX12_rests_15 : decode cX12_rests 15 = .ok (.if_icmp .ge 5, 3) := by decide +kernel
theorem dX12_rests_18 : decode cX12_rests 18 = .ok (.iconst (-1), 1) := by decide +kernel
theorem dX12_rests_19 : decode cX12_rests 19 = .ok (.ireturn, 1) := by decide +kernel
theorem dX12_rests_20 : decode cX12_rests 20 = .ok (.aload_n 0, 1) := by decide +kernel
theorem dX12_rests_21 : decode cX12_rests 21 = .ok (.iload_n 1, 1) := by decide +kernel
theorem dX12_rests_22 : decode cX12_rests 22 = .ok (.invokevirtual 352, 3) := by decide +kernel
theorem dX12_rests_25 : decode cX12_rests 25 = .ok (.istore_n 3, 1) := by decide +kernel
theorem dX12_rests_26 : decode cX12_rests 26 = .ok (.iconst 0, 1) := by decide +kernel
theorem dX12_rests_27 : decode cX12_rests 27 = .ok (.istore 4, 2) := by decide +kernel
theorem dX12_rests_29 : decode cX12_rests 29 = .ok (.iconst 0, 1) := by decide +kernel
theorem dX12_rests_30 : decode cX12_rests 30 = .ok (.istore 5, 2) := by decide +kernel
theorem dX12_rests_32 : decode cX12_rests 32 = .ok (.iload 5, 2) := by decide +kernel
theorem dX12_rests_34 : decode cX12_rests 34 = .ok (.iconst 4, 1) := by decide +kernel
theorem dX12_rests_35 : decode cX12_rests 35 = .ok (.if_icmp .ge 88, 3) := by decide +kernel
theorem dX12_rests_38 : decode cX12_rests 38 = .ok (.iload 5, 2) := by decide +kernel
theorem dX12_rests_40 : decode cX12_rests 40 = .ok (.iconst 2, 1) := by decide +kernel
theorem dX12_rests_41 : decode cX12_rests 41 = .ok (.idiv, 1) := by decide +kernel
theorem dX12_rests_42 : decode cX12_rests 42 = .ok (.istore 6, 2) := by decide +kernel
theorem dX12_rests_44 : decode cX12_rests 44 = .ok (.iload 5, 2) := by decide +kernel
theorem dX12_rests_46 : decode cX12_rests 46 = .ok (.iconst 2, 1) := by decide +kernel
theorem dX12_rests_47 : decode cX12_rests 47 = .ok (.irem, 1) := by decide +kernel
theorem dX12_rests_48 : decode cX12_rests 48 = .ok (.istore 7, 2) := by decide +kernel
theorem dX12_rests_50 : decode cX12_rests 50 = .ok (.aload_n 0, 1) := by decide +kernel
theorem dX12_rests_51 : decode cX12_rests 51 = .ok (.iload_n 1, 1) := by decide +kernel
theorem dX12_rests_52 : decode cX12_rests 52 = .ok (.iconst 1, 1) := by decide +kernel
theorem dX12_rests_53 : decode cX12_rests 53 = .ok (.iload 6, 2) := by decide +kernel
theorem dX12_rests_55 : decode cX12_rests 55 = .ok (.isub, 1) := by decide +kernel
theorem dX12_rests_56 : decode cX12_rests 56 = .ok (.iload 7, 2) := by decide +kernel
theorem dX12_rests_58 : decode cX12_rests 58 = .ok (.invokevirtual 429, 3) := by decide +kernel
theorem dX12_rests_61 : decode cX12_rests 61 = .ok (.aload_n 0, 1) := by decide +kernel
theorem dX12_rests_62 : decode cX12_rests 62 = .ok (.iload_n 1, 1) := by decide +kernel
theorem dX12_rests_63 : decode cX12_rests 63 = .ok (.iload 6, 2) := by decide +kernel
theorem dX12_rests_65 : decode cX12_rests 65 = .ok (.iload 7, 2) := by decide +kernel
theorem dX12_rests_67 : decode cX12_rests 67 = .ok (.invokevirtual 429, 3) := by decide +kernel
theorem dX12_rests_70 : decode cX12_rests 70 = .ok (.if_icmp .gt 47, 3) := by decide +kernel
theorem dX12_rests_73 : decode cX12_rests 73 = .ok (.aload_n 0, 1) := by decide +kernel
theorem dX12_rests_74 : decode cX12_rests 74 = .ok (.iload_n 3, 1) := by decide +kernel
theorem dX12_rests_75 : decode cX12_rests 75 = .ok (.iconst 1, 1) := by decide +kernel
theorem dX12_rests_76 : decode cX12_rests 76 = .ok (.iload 7, 2) := by decide +kernel
theorem dX12_rests_78 : decode cX12_rests 78 = .ok (.isub, 1) := by decide +kernel
theorem dX12_rests_79 : decode cX12_rests 79 = .ok (.iload 6, 2) := by decide +kernel
theorem dX12_rests_81 : decode cX12_rests 81 = .ok (.invokevirtual 429, 3) := by decide +kernel
theorem dX12_rests_84 : decode cX12_rests 84 = .ok (.aload_n 0, 1) := by decide +kernel
theorem dX12_rests_85 : decode cX12_rests 85 = .ok (.iload_n 3, 1) := by decide +kernel
theorem dX12_rests_86 : decode cX12_rests 86 = .ok (.iload 7, 2) := by decide +kernel
theorem dX12_rests_88 : decode cX12_rests 88 = .ok (.iload 6, 2) := by decide +kernel
theorem dX12_rests_90 : decode cX12_rests 90 = .ok (.invokevirtual 429, 3) := by decide +kernel
theorem dX12_rests_93 : decode cX12_rests 93 = .ok (.if_icmp .le 6, 3) := by decide +kernel
theorem dX12_rests_96 : decode cX12_rests 96 = .ok (.goto 21, 3) := by decide +kernel
theorem dX12_rests_99 : decode cX12_rests 99 = .ok (.iload 4, 2) := by decide +kernel
theorem dX12_rests_101 : decode cX12_rests 101 = .ok (.iload_n 2, 1) := by decide +kernel
theorem dX12_rests_102 : decode cX12_rests 102 = .ok (.if_icmp .ne 12, 3) := by decide +kernel
theorem dX12_rests_105 : decode cX12_rests 105 = .ok (.bipush 10, 2) := by decide +kernel
theorem dX12_rests_107 : decode cX12_rests 107 = .ok (.iload 6, 2) := by decide +kernel
theorem dX12_rests_109 : decode cX12_rests 109 = .ok (.imul, 1) := by decide +kernel
theorem dX12_rests_110 : decode cX12_rests 110 = .ok (.iload 7, 2) := by decide +kernel
theorem dX12_rests_112 : decode cX12_rests 112 = .ok (.iadd, 1) := by decide +kernel
theorem dX12_rests_113 : decode cX12_rests 113 = .ok (.ireturn, 1) := by decide +kernel
theorem dX12_rests_114 : decode cX12_rests 114 = .ok (.iinc 4 1, 3) := by decide +kernel
theorem dX12_rests_117 : decode cX12_rests 117 = .ok (.iinc 5 1, 3) := by decide +kernel
theorem dX12_rests_120 : decode cX12_rests 120 = .ok (.goto (-88), 3) := by decide +kernel
theorem dX12_rests_123 : decode cX12_rests 123 = .ok (.iload_n 2, 1) := by decide +kernel
theorem dX12_rests_124 : decode cX12_rests 124 = .ok (.iconst (-1), 1) := by decide +kernel
theorem dX12_rests_125 : decode cX12_rests 125 = .ok (.if_icmp .ne 8, 3) := by decide +kernel
theorem dX12_rests_128 : decode cX12_rests 128 = .ok (.iload 4, 2) := by decide +kernel
theorem dX12_rests_130 : decode cX12_rests 130 = .ok (.goto 4, 3) := by decide +kernel
theorem dX12_rests_133 : decode cX12_rests 133 = .ok (.iconst (-1), 1) := by decide +kernel
theorem dX12_rests_134 : decode cX12_rests 134 = .ok (.ireturn, 1) := by decide +kernel
theorem dX12_canBurn_0 : decode cX12_canBurn 0 = .ok (.iload_n 3, 1) := by decide +kernel
theorem dX12_canBurn_1 : decode cX12_canBurn 1 = .ok (.invokestatic 400, 3) := by decide +kernel
theorem dX12_canBurn_4 : decode cX12_canBurn 4 = .ok (.iload_n 2, 1) := by decide +kernel
theorem dX12_canBurn_5 : decode cX12_canBurn 5 = .ok (.if_icmp .eq 5, 3) := by decide +kernel
theorem dX12_canBurn_8 : decode cX12_canBurn 8 = .ok (.iconst 0, 1) := by decide +kernel
theorem dX12_canBurn_9 : decode cX12_canBurn 9 = .ok (.ireturn, 1) := by decide +kernel
theorem dX12_canBurn_10 : decode cX12_canBurn 10 = .ok (.iconst 0, 1) := by decide +kernel
theorem dX12_canBurn_11 : decode cX12_canBurn 11 = .ok (.istore 4, 2) := by decide +kernel
theorem dX12_canBurn_13 : decode cX12_canBurn 13 = .ok (.iload 4, 2) := by decide +kernel
theorem dX12_canBurn_15 : decode cX12_canBurn 15 = .ok (.aload_n 0, 1) := by decide +kernel
theorem dX12_canBurn_16 : decode cX12_canBurn 16 = .ok (.getfield 37, 3) := by decide +kernel
theorem dX12_canBurn_19 : decode cX12_canBurn 19 = .ok (.iconst 0, 1) := by decide +kernel
theorem dX12_canBurn_20 : decode cX12_canBurn 20 = .ok (.iaload, 1) := by decide +kernel
theorem dX12_canBurn_21 : decode cX12_canBurn 21 = .ok (.if_icmp .ge 45, 3) := by decide +kernel
theorem dX12_canBurn_24 : decode cX12_canBurn 24 = .ok (.iload_n 3, 1) := by decide +kernel
theorem dX12_canBurn_25 : decode cX12_canBurn 25 = .ok (.iload 4, 2) := by decide +kernel
theorem dX12_canBurn_27 : decode cX12_canBurn 27 = .ok (.invokestatic 233, 3) := by decide +kernel
theorem dX12_canBurn_30 : decode cX12_canBurn 30 = .ok (.ifCond .eq 16, 3) := by decide +kernel
theorem dX12_canBurn_33 : decode cX12_canBurn 33 = .ok (.aload_n 0, 1) := by decide +kernel
theorem dX12_canBurn_34 : decode cX12_canBurn 34 = .ok (.iload_n 1, 1) := by decide +kernel
theorem dX12_canBurn_35 : decode cX12_canBurn 35 = .ok (.iload 4, 2) := by decide +kernel
theorem dX12_canBurn_37 : decode cX12_canBurn 37 = .ok (.invokevirtual 340, 3) := by decide +kernel
theorem dX12_canBurn_40 : decode cX12_canBurn 40 = .ok (.ifCond .ne 20, 3) := by decide +kernel
theorem dX12_canBurn_43 : decode cX12_canBurn 43 = .ok (.goto 15, 3) := by decide +kernel
theorem dX12_canBurn_46 : decode cX12_canBurn 46 = .ok (.aload_n 0, 1) := by decide +kernel
theorem dX12_canBurn_47 : decode cX12_canBurn 47 = .ok (.iload_n 1, 1) := by decide +kernel
theorem dX12_canBurn_48 : decode cX12_canBurn 48 = .ok (.iload 4, 2) := by decide +kernel
theorem dX12_canBurn_50 : decode cX12_canBurn 50 = .ok (.invokevirtual 340, 3) := by decide +kernel
theorem dX12_canBurn_53 : decode cX12_canBurn 53 = .ok (.bipush 10, 2) := by decide +kernel
theorem dX12_canBurn_55 : decode cX12_canBurn 55 = .ok (.if_icmp .ne 5, 3) := by decide +kernel
theorem dX12_canBurn_58 : decode cX12_canBurn 58 = .ok (.iconst 0, 1) := by decide +kernel
theorem dX12_canBurn_59 : decode cX12_canBurn 59 = .ok (.ireturn, 1) := by decide +kernel
theorem dX12_canBurn_60 : decode cX12_canBurn 60 = .ok (.iinc 4 1, 3) := by decide +kernel
theorem dX12_canBurn_63 : decode cX12_canBurn 63 = .ok (.goto (-50), 3) := by decide +kernel
theorem dX12_canBurn_66 : decode cX12_canBurn 66 = .ok (.iconst 0, 1) := by decide +kernel
theorem dX12_canBurn_67 : decode cX12_canBurn 67 = .ok (.istore 4, 2) := by decide +kernel
theorem dX12_canBurn_69 : decode cX12_canBurn 69 = .ok (.iload 4, 2) := by decide +kernel
theorem dX12_canBurn_71 : decode cX12_canBurn 71 = .ok (.aload_n 0, 1) := by decide +kernel
theorem dX12_canBurn_72 : decode cX12_canBurn 72 = .ok (.getfield 289, 3) := by decide +kernel
theorem dX12_canBurn_75 : decode cX12_canBurn 75 = .ok (.if_icmp .ge 43, 3) := by decide +kernel
theorem dX12_canBurn_78 : decode cX12_canBurn 78 = .ok (.aload_n 0, 1) := by decide +kernel
theorem dX12_canBurn_79 : decode cX12_canBurn 79 = .ok (.getfield 75, 3) := by decide +kernel
theorem dX12_canBurn_82 : decode cX12_canBurn 82 = .ok (.iload 4, 2) := by decide +kernel
theorem dX12_canBurn_84 : decode cX12_canBurn 84 = .ok (.iaload, 1) := by decide +kernel
theorem dX12_canBurn_85 : decode cX12_canBurn 85 = .ok (.iload_n 1, 1) := by decide +kernel
theorem dX12_canBurn_86 : decode cX12_canBurn 86 = .ok (.if_icmp .ne 26, 3) := by decide +kernel
theorem dX12_canBurn_89 : decode cX12_canBurn 89 = .ok (.iload_n 3, 1) := by decide +kernel
theorem dX12_canBurn_90 : decode cX12_canBurn 90 = .ok (.aload_n 0, 1) := by decide +kernel
theorem dX12_canBurn_91 : decode cX12_canBurn 91 = .ok (.getfield 78, 3) := by decide +kernel
theorem dX12_canBurn_94 : decode cX12_canBurn 94 = .ok (.iload 4, 2) := by decide +kernel
theorem dX12_canBurn_96 : decode cX12_canBurn 96 = .ok (.iaload, 1) := by decide +kernel
theorem dX12_canBurn_97 : decode cX12_canBurn 97 = .ok (.invokestatic 233, 3) := by decide +kernel
theorem dX12_canBurn_100 : decode cX12_canBurn 100 = .ok (.aload_n 0, 1) := by decide +kernel
theorem dX12_canBurn_101 : decode cX12_canBurn 101 = .ok (.getfield 81, 3) := by decide +kernel
theorem dX12_canBurn_104 : decode cX12_canBurn 104 = .ok (.iload 4, 2) := by decide +kernel
theorem dX12_canBurn_106 : decode cX12_canBurn 106 = .ok (.baload, 1) := by decide +kernel
theorem dX12_canBurn_107 : decode cX12_canBurn 107 = .ok (.if_icmp .eq 5, 3) := by decide +kernel
theorem dX12_canBurn_110 : decode cX12_canBurn 110 = .ok (.iconst 0, 1) := by decide +kernel
theorem dX12_canBurn_111 : decode cX12_canBurn 111 = .ok (.ireturn, 1) := by decide +kernel
theorem dX12_canBurn_112 : decode cX12_canBurn 112 = .ok (.iinc 4 1, 3) := by decide +kernel
theorem dX12_canBurn_115 : decode cX12_canBurn 115 = .ok (.goto (-46), 3) := by decide +kernel
theorem dX12_canBurn_118 : decode cX12_canBurn 118 = .ok (.iconst 1, 1) := by decide +kernel
theorem dX12_canBurn_119 : decode cX12_canBurn 119 = .ok (.ireturn, 1) := by decide +kernel
theorem dX12_isCandle_0 : decode cX12_isCandle 0 = .ok (.aload_n 0, 1) := by decide +kernel
theorem dX12_isCandle_1 : decode cX12_isCandle 1 = .ok (.iload_n 1, 1) := by decide +kernel
theorem dX12_isCandle_2 : decode cX12_isCandle 2 = .ok (.invokevirtual 347, 3) := by decide +kernel
theorem dX12_isCandle_5 : decode cX12_isCandle 5 = .ok (.ifCond .eq 19, 3) := by decide +kernel
theorem dX12_isCandle_8 : decode cX12_isCandle 8 = .ok (.iload_n 2, 1) := by decide +kernel
theorem dX12_isCandle_9 : decode cX12_isCandle 9 = .ok (.i2l, 1) := by decide +kernel
theorem dX12_isCandle_10 : decode cX12_isCandle 10 = .ok (.lconst 0, 1) := by decide +kernel
theorem dX12_isCandle_11 : decode cX12_isCandle 11 = .ok (.ldc2_w 361, 3) := by decide +kernel
theorem dX12_isCandle_14 : decode cX12_isCandle 14 = .ok (.invokestatic 221, 3) := by decide +kernel
theorem dX12_isCandle_17 : decode cX12_isCandle 17 = .ok (.ifCond .eq 7, 3) := by decide +kernel
theorem dX12_isCandle_20 : decode cX12_isCandle 20 = .ok (.iconst 1, 1) := by decide +kernel
theorem dX12_isCandle_21 : decode cX12_isCandle 21 = .ok (.goto 4, 3) := by decide +kernel
theorem dX12_isCandle_24 : decode cX12_isCandle 24 = .ok (.iconst 0, 1) := by decide +kernel
theorem dX12_isCandle_25 : decode cX12_isCandle 25 = .ok (.ireturn, 1) := by decide +kernel
theorem dX12_candle_0 : decode cX12_candle 0 = .ok (.aload_n 0, 1) := by decide +kernel
theorem dX12_candle_1 : decode cX12_candle 1 = .ok (.iconst 0, 1) := by decide +kernel
theorem dX12_candle_2 : decode cX12_candle 2 = .ok (.putfield 100, 3) := by decide +kernel
theorem dX12_candle_5 : decode cX12_candle 5 = .ok (.aload_n 0, 1) := by decide +kernel
theorem dX12_candle_6 : decode cX12_candle 6 = .ok (.iload_n 1, 1) := by decide +kernel
theorem dX12_candle_7 : decode cX12_candle 7 = .ok (.iload_n 2, 1) := by decide +kernel
theorem dX12_candle_8 : decode cX12_candle 8 = .ok (.invokevirtual 432, 3) := by decide +kernel
theorem dX12_candle_11 : decode cX12_candle 11 = .ok (.ifCond .eq 8, 3) := by decide +kernel
theorem dX12_candle_14 : decode cX12_candle 14 = .ok (.iload_n 3, 1) := by decide +kernel
theorem dX12_candle_15 : decode cX12_candle 15 = .ok (.iconst (-1), 1) := by decide +kernel
theorem dX12_candle_16 : decode cX12_candle 16 = .ok (.if_icmp .ge 5, 3) := by decide +kernel
theorem dX12_candle_19 : decode cX12_candle 19 = .ok (.iconst (-1), 1) := by decide +kernel
theorem dX12_candle_20 : decode cX12_candle 20 = .ok (.ireturn, 1) := by decide +kernel
theorem dX12_candle_21 : decode cX12_candle 21 = .ok (.iconst 0, 1) := by decide +kernel
theorem dX12_candle_22 : decode cX12_candle 22 = .ok (.istore 4, 2) := by decide +kernel
theorem dX12_candle_24 : decode cX12_candle 24 = .ok (.iconst 0, 1) := by decide +kernel
theorem dX12_candle_25 : decode cX12_candle 25 = .ok (.istore 5, 2) := by decide +kernel
theorem dX12_candle_27 : decode cX12_candle 27 = .ok (.iload 5, 2) := by decide +kernel
theorem dX12_candle_29 : decode cX12_candle 29 = .ok (.iconst 1, 1) := by decide +kernel
theorem dX12_candle_30 : decode cX12_candle 30 = .ok (.aload_n 0, 1) := by decide +kernel
theorem dX12_candle_31 : decode cX12_candle 31 = .ok (.getfield 37, 3) := by decide +kernel
theorem dX12_candle_34 : decode cX12_candle 34 = .ok (.iconst 0, 1) := by decide +kernel
theorem dX12_candle_35 : decode cX12_candle 35 = .ok (.iaload, 1) := by decide +kernel
theorem dX12_candle_36 : decode cX12_candle 36 = .ok (.ishl, 1) := by decide +kernel
theorem dX12_candle_37 : decode cX12_candle 37 = .ok (.if_icmp .ge 35, 3) := by decide +kernel
theorem dX12_candle_40 : decode cX12_candle 40 = .ok (.aload_n 0, 1) := by decide +kernel
theorem dX12_candle_41 : decode cX12_candle 41 = .ok (.iload_n 1, 1) := by decide +kernel
theorem dX12_candle_42 : decode cX12_candle 42 = .ok (.iload_n 2, 1) := by decide +kernel
theorem dX12_candle_43 : decode cX12_candle 43 = .ok (.iload 5, 2) := by decide +kernel
theorem dX12_candle_45 : decode cX12_candle 45 = .ok (.invokevirtual 435, 3) := by decide +kernel
theorem dX12_candle_48 : decode cX12_candle 48 = .ok (.ifCond .ne 6, 3) := by decide +kernel
theorem dX12_candle_51 : decode cX12_candle 51 = .ok (.goto 15, 3) := by decide +kernel
theorem dX12_candle_54 : decode cX12_candle 54 = .ok (.iload 4, 2) := by decide +kernel
theorem dX12_candle_56 : decode cX12_candle 56 = .ok (.iload_n 3, 1) := by decide +kernel
theorem dX12_candle_57 : decode cX12_candle 57 = .ok (.if_icmp .ne 6, 3) := by decide +kernel
theorem dX12_candle_60 : decode cX12_candle 60 = .ok (.iload 5, 2) := by decide +kernel
theorem dX12_candle_62 : decode cX12_candle 62 = .ok (.ireturn, 1) := by decide +kernel
theorem dX12_candle_63 : decode cX12_candle 63 = .ok (.iinc 4 1, 3) := by decide +kernel
theorem dX12_candle_66 : decode cX12_candle 66 = .ok (.iinc 5 1, 3) := by decide +kernel
theorem dX12_candle_69 : decode cX12_candle 69 = .ok (.goto (-42), 3) := by decide +kernel
theorem dX12_candle_72 : decode cX12_candle 72 = .ok (.iload_n 3, 1) := by decide +kernel
theorem dX12_candle_73 : decode cX12_candle 73 = .ok (.iconst (-1), 1) := by decide +kernel
theorem dX12_candle_74 : decode cX12_candle 74 = .ok (.if_icmp .ne 8, 3) := by decide +kernel
theorem dX12_candle_77 : decode cX12_candle 77 = .ok (.iload 4, 2) := by decide +kernel
theorem dX12_candle_79 : decode cX12_candle 79 = .ok (.goto 4, 3) := by decide +kernel
theorem dX12_candle_82 : decode cX12_candle 82 = .ok (.iconst (-1), 1) := by decide +kernel
theorem dX12_candle_83 : decode cX12_candle 83 = .ok (.ireturn, 1) := by decide +kernel
theorem dX12_likeliest_0 : decode cX12_likeliest 0 = .ok (.aload_n 0, 1) := by decide +kernel
theorem dX12_likeliest_1 : decode cX12_likeliest 1 = .ok (.iconst 0, 1) := by decide +kernel
theorem dX12_likeliest_2 : decode cX12_likeliest 2 = .ok (.putfield 100, 3) := by decide +kernel
theorem dX12_likeliest_5 : decode cX12_likeliest 5 = .ok (.aload_n 0, 1) := by decide +kernel
theorem dX12_likeliest_6 : decode cX12_likeliest 6 = .ok (.iload_n 1, 1) := by decide +kernel
theorem dX12_likeliest_7 : decode cX12_likeliest 7 = .ok (.iload_n 2, 1) := by decide +kernel
theorem dX12_likeliest_8 : decode cX12_likeliest 8 = .ok (.invokevirtual 432, 3) := by decide +kernel
theorem dX12_likeliest_11 : decode cX12_likeliest 11 = .ok (.ifCond .ne 5, 3) := by decide +kernel
theorem dX12_likeliest_14 : decode cX12_likeliest 14 = .ok (.iconst (-1), 1) := by decide +kernel
theorem dX12_likeliest_15 : decode cX12_likeliest 15 = .ok (.ireturn, 1) := by decide +kernel
theorem dX12_likeliest_16 : decode cX12_likeliest 16 = .ok (.iconst (-1), 1) := by decide +kernel
theorem dX12_likeliest_17 : decode cX12_likeliest 17 = .ok (.istore_n 3, 1) := by decide +kernel
theorem dX12_likeliest_18 : decode cX12_likeliest 18 = .ok (.lconst 0, 1) := by decide +kernel
theorem dX12_likeliest_19 : decode cX12_likeliest 19 = .ok (.lstore 4, 2) := by decide +kernel
theorem dX12_likeliest_21 : decode cX12_likeliest 21 = .ok (.iconst 0, 1) := by decide +kernel
theorem dX12_likeliest_22 : decode cX12_likeliest 22 = .ok (.istore 6, 2) := by decide +kernel
theorem dX12_likeliest_24 : decode cX12_likeliest 24 = .ok (.iload 6, 2) := by decide +kernel
theorem dX12_likeliest_26 : decode cX12_likeliest 26 = .ok (.iconst 1, 1) := by decide +kernel
theorem dX12_likeliest_27 : decode cX12_likeliest 27 = .ok (.aload_n 0, 1) := by decide +kernel
theorem dX12_likeliest_28 : decode cX12_likeliest 28 = .ok (.getfield 37, 3) := by decide +kernel
theorem dX12_likeliest_31 : decode cX12_likeliest 31 = .ok (.iconst 0, 1) := by decide +kernel
theorem dX12_likeliest_32 : decode cX12_likeliest 32 = .ok (.iaload, 1) := by decide +kernel
theorem dX12_likeliest_33 : decode cX12_likeliest 33 = .ok (.ishl, 1) := by decide +kernel
theorem dX12_likeliest_34 : decode cX12_likeliest 34 = .ok (.if_icmp .ge 106, 3) := by decide +kernel
theorem dX12_likeliest_37 : decode cX12_likeliest 37 = .ok (.aload_n 0, 1) := by decide +kernel
theorem dX12_likeliest_38 : decode cX12_likeliest 38 = .ok (.iload_n 1, 1) := by decide +kernel
theorem dX12_likeliest_39 : decode cX12_likeliest 39 = .ok (.iload_n 2, 1) := by decide +kernel
theorem dX12_likeliest_40 : decode cX12_likeliest 40 = .ok (.iload 6, 2) := by decide +kernel
theorem dX12_likeliest_42 : decode cX12_likeliest 42 = .ok (.invokevirtual 435, 3) := by decide +kernel
theorem dX12_likeliest_45 : decode cX12_likeliest 45 = .ok (.ifCond .ne 6, 3) := by decide +kernel
theorem dX12_likeliest_48 : decode cX12_likeliest 48 = .ok (.goto 86, 3) := by decide +kernel
theorem dX12_likeliest_51 : decode cX12_likeliest 51 = .ok (.lconst 1, 1) := by decide +kernel
theorem dX12_likeliest_52 : decode cX12_likeliest 52 = .ok (.lstore 7, 2) := by decide +kernel
theorem dX12_likeliest_54 : decode cX12_likeliest 54 = .ok (.iconst 0, 1) := by decide +kernel
theorem dX12_likeliest_55 : decode cX12_likeliest 55 = .ok (.istore 9, 2) := by decide +kernel
theorem dX12_likeliest_57 : decode cX12_likeliest 57 = .ok (.iload 9, 2) := by decide +kernel
theorem dX12_likeliest_59 : decode cX12_likeliest 59 = .ok (.aload_n 0, 1) := by decide +kernel
theorem dX12_likeliest_60 : decode cX12_likeliest 60 = .ok (.getfield 37, 3) := by decide +kernel
theorem dX12_likeliest_63 : decode cX12_likeliest 63 = .ok (.iconst 0, 1) := by decide +kernel
theorem dX12_likeliest_64 : decode cX12_likeliest 64 = .ok (.iaload, 1) := by decide +kernel
theorem dX12_likeliest_65 : decode cX12_likeliest 65 = .ok (.if_icmp .ge 46, 3) := by decide +kernel
theorem dX12_likeliest_68 : decode cX12_likeliest 68 = .ok (.lload 7, 2) := by decide +kernel
theorem dX12_likeliest_70 : decode cX12_likeliest 70 = .ok (.iload 6, 2) := by decide +kernel
theorem dX12_likeliest_72 : decode cX12_likeliest 72 = .ok (.iload 9, 2) := by decide +kernel
theorem dX12_likeliest_74 : decode cX12_likeliest 74 = .ok (.invokestatic 233, 3) := by decide +kernel
theorem dX12_likeliest_77 : decode cX12_likeliest 77 = .ok (.ifCond .eq 14, 3) := by decide +kernel
theorem dX12_likeliest_80 : decode cX12_likeliest 80 = .ok (.aload_n 0, 1) := by decide +kernel
theorem dX12_likeliest_81 : decode cX12_likeliest 81 = .ok (.iload_n 1, 1) := by decide +kernel
theorem dX12_likeliest_82 : decode cX12_likeliest 82 = .ok (.iload 9, 2) := by decide +kernel
theorem dX12_likeliest_84 : decode cX12_likeliest 84 = .ok (.invokevirtual 340, 3) := by decide +kernel
theorem dX12_likeliest_87 : decode cX12_likeliest 87 = .ok (.i2l, 1) := by decide +kernel
theorem dX12_likeliest_88 : decode cX12_likeliest 88 = .ok (.goto 14, 3) := by decide +kernel
theorem dX12_likeliest_91 : decode cX12_likeliest 91 = .ok (.bipush 10, 2) := by decide +kernel
theorem dX12_likeliest_93 : decode cX12_likeliest 93 = .ok (.aload_n 0, 1) := by decide +kernel
theorem dX12_likeliest_94 : decode cX12_likeliest 94 = .ok (.iload_n 1, 1) := by decide +kernel
theorem dX12_likeliest_95 : decode cX12_likeliest 95 = .ok (.iload 9, 2) := by decide +kernel
theorem dX12_likeliest_97 : decode cX12_likeliest 97 = .ok (.invokevirtual 340, 3) := by decide +kernel
theorem dX12_likeliest_100 : decode cX12_likeliest 100 = .ok (.isub, 1) := by decide +kernel
theorem dX12_likeliest_101 : decode cX12_likeliest 101 = .ok (.i2l, 1) := by decide +kernel
theorem dX12_likeliest_102 : decode cX12_likeliest 102 = .ok (.lmul, 1) := by decide +kernel
theorem dX12_likeliest_103 : decode cX12_likeliest 103 = .ok (.lstore 7, 2) := by decide +kernel
theorem dX12_likeliest_105 : decode cX12_likeliest 105 = .ok (.iinc 9 1, 3) := by decide +kernel
theorem dX12_likeliest_108 : decode cX12_likeliest 108 = .ok (.goto (-51), 3) := by decide +kernel
theorem dX12_likeliest_111 : decode cX12_likeliest 111 = .ok (.iload_n 3, 1) := by decide +kernel
theorem dX12_likeliest_112 : decode cX12_likeliest 112 = .ok (.iconst (-1), 1) := by decide +kernel
theorem dX12_likeliest_113 : decode cX12_likeliest 113 = .ok (.if_icmp .eq 14, 3) := by decide +kernel
theorem dX12_likeliest_116 : decode cX12_likeliest 116 = .ok (.lload 7, 2) := by decide +kernel
theorem dX12_likeliest_118 : decode cX12_likeliest 118 = .ok (.lload 4, 2) := by decide +kernel
theorem dX12_likeliest_120 : decode cX12_likeliest 120 = .ok (.lcmp, 1) := by decide +kernel
theorem dX12_likeliest_121 : decode cX12_likeliest 121 = .ok (.ifCond .gt 6, 3) := by decide +kernel
theorem dX12_likeliest_124 : decode cX12_likeliest 124 = .ok (.goto 10, 3) := by decide +kernel
theorem dX12_likeliest_127 : decode cX12_likeliest 127 = .ok (.iload 6, 2) := by decide +kernel
theorem dX12_likeliest_129 : decode cX12_likeliest 129 = .ok (.istore_n 3, 1) := by decide +kernel
theorem dX12_likeliest_130 : decode cX12_likeliest 130 = .ok (.lload 7, 2) := by decide +kernel
theorem dX12_likeliest_132 : decode cX12_likeliest 132 = .ok (.lstore 4, 2) := by decide +kernel
theorem dX12_likeliest_134 : decode cX12_likeliest 134 = .ok (.iinc 6 1, 3) := by decide +kernel
theorem dX12_likeliest_137 : decode cX12_likeliest 137 = .ok (.goto (-113), 3) := by decide +kernel
theorem dX12_likeliest_140 : decode cX12_likeliest 140 = .ok (.iload_n 3, 1) := by decide +kernel
theorem dX12_likeliest_141 : decode cX12_likeliest 141 = .ok (.ireturn, 1) := by decide +kernel
theorem dX12_wrongBy_0 : decode cX12_wrongBy 0 = .ok (.iconst 0, 1) := by decide +kernel
theorem dX12_wrongBy_1 : decode cX12_wrongBy 1 = .ok (.istore_n 2, 1) := by decide +kernel
theorem dX12_wrongBy_2 : decode cX12_wrongBy 2 = .ok (.iconst 0, 1) := by decide +kernel
theorem dX12_wrongBy_3 : decode cX12_wrongBy 3 = .ok (.istore_n 3, 1) := by decide +kernel
theorem dX12_wrongBy_4 : decode cX12_wrongBy 4 = .ok (.iload_n 3, 1) := by decide +kernel
theorem dX12_wrongBy_5 : decode cX12_wrongBy 5 = .ok (.aload_n 0, 1) := by decide +kernel
theorem dX12_wrongBy_6 : decode cX12_wrongBy 6 = .ok (.getfield 286, 3) := by decide +kernel
theorem dX12_wrongBy_9 : decode cX12_wrongBy 9 = .ok (.if_icmp .ge 57, 3) := by decide +kernel
theorem dX12_wrongBy_12 : decode cX12_wrongBy 12 = .ok (.aload_n 0, 1) := by decide +kernel
theorem dX12_wrongBy_13 : decode cX12_wrongBy 13 = .ok (.iload_n 3, 1) := by decide +kernel
theorem dX12_wrongBy_14 : decode cX12_wrongBy 14 = .ok (.invokevirtual 380, 3) := by decide +kernel
theorem dX12_wrongBy_17 : decode cX12_wrongBy 17 = .ok (.ifCond .le 43, 3) := by decide +kernel
theorem dX12_wrongBy_20 : decode cX12_wrongBy 20 = .ok (.aload_n 0, 1) := by decide +kernel
theorem dX12_wrongBy_21 : decode cX12_wrongBy 21 = .ok (.iload_n 3, 1) := by decide +kernel
theorem dX12_wrongBy_22 : decode cX12_wrongBy 22 = .ok (.iconst 0, 1) := by decide +kernel
theorem dX12_wrongBy_23 : decode cX12_wrongBy 23 = .ok (.invokevirtual 301, 3) := by decide +kernel
theorem dX12_wrongBy_26 : decode cX12_wrongBy 26 = .ok (.ifCond .le 7, 3) := by decide +kernel
theorem dX12_wrongBy_29 : decode cX12_wrongBy 29 = .ok (.iconst 1, 1) := by decide +kernel
theorem dX12_wrongBy_30 : decode cX12_wrongBy 30 = .ok (.goto 4, 3) := by decide +kernel
theorem dX12_wrongBy_33 : decode cX12_wrongBy 33 = .ok (.iconst 0, 1) := by decide +kernel
theorem dX12_wrongBy_34 : decode cX12_wrongBy 34 = .ok (.aload_n 0, 1) := by decide +kernel
theorem dX12_wrongBy_35 : decode cX12_wrongBy 35 = .ok (.iload_n 1, 1) := by decide +kernel
theorem dX12_wrongBy_36 : decode cX12_wrongBy 36 = .ok (.iload_n 3, 1) := by decide +kernel
theorem dX12_wrongBy_37 : decode cX12_wrongBy 37 = .ok (.invokevirtual 323, 3) := by decide +kernel
theorem dX12_wrongBy_40 : decode cX12_wrongBy 40 = .ok (.aload_n 0, 1) := by decide +kernel
theorem dX12_wrongBy_41 : decode cX12_wrongBy 41 = .ok (.getfield 37, 3) := by decide +kernel
theorem dX12_wrongBy_44 : decode cX12_wrongBy 44 = .ok (.iconst 1, 1) := by decide +kernel
theorem dX12_wrongBy_45 : decode cX12_wrongBy 45 = .ok (.iaload, 1) := by decide +kernel
theorem dX12_wrongBy_46 : decode cX12_wrongBy 46 = .ok (.if_icmp .lt 7, 3) := by decide +kernel
theorem dX12_wrongBy_49 : decode cX12_wrongBy 49 = .ok (.iconst 1, 1) := by decide +kernel
theorem dX12_wrongBy_50 : decode cX12_wrongBy 50 = .ok (.goto 4, 3) := by decide +kernel
theorem dX12_wrongBy_53 : decode cX12_wrongBy 53 = .ok (.iconst 0, 1) := by decide +kernel
theorem dX12_wrongBy_54 : decode cX12_wrongBy 54 = .ok (.if_icmp .eq 6, 3) := by decide +kernel
theorem dX12_wrongBy_57 : decode cX12_wrongBy 57 = .ok (.iinc 2 1, 3) := by decide +kernel
theorem dX12_wrongBy_60 : decode cX12_wrongBy 60 = .ok (.iinc 3 1, 3) := by decide +kernel
theorem dX12_wrongBy_63 : decode cX12_wrongBy 63 = .ok (.goto (-59), 3) := by decide +kernel
theorem dX12_wrongBy_66 : decode cX12_wrongBy 66 = .ok (.iload_n 2, 1) := by decide +kernel
theorem dX12_wrongBy_67 : decode cX12_wrongBy 67 = .ok (.ireturn, 1) := by decide +kernel
theorem dX12_wronged_0 : decode cX12_wronged 0 = .ok (.aload_n 0, 1) := by decide +kernel
theorem dX12_wronged_1 : decode cX12_wronged 1 = .ok (.iconst 0, 1) := by decide +kernel
theorem dX12_wronged_2 : decode cX12_wronged 2 = .ok (.putfield 100, 3) := by decide +kernel
theorem dX12_wronged_5 : decode cX12_wronged 5 = .ok (.aload_n 0, 1) := by decide +kernel
theorem dX12_wronged_6 : decode cX12_wronged 6 = .ok (.getfield 286, 3) := by decide +kernel
theorem dX12_wronged_9 : decode cX12_wronged 9 = .ok (.ifCond .le 29, 3) := by decide +kernel
theorem dX12_wronged_12 : decode cX12_wronged 12 = .ok (.iload_n 1, 1) := by decide +kernel
theorem dX12_wronged_13 : decode cX12_wronged 13 = .ok (.i2l, 1) := by decide +kernel
theorem dX12_wronged_14 : decode cX12_wronged 14 = .ok (.ldc2_w 439, 3) := by decide +kernel
theorem dX12_wronged_17 : decode cX12_wronged 17 = .ok (.aload_n 0, 1) := by decide +kernel
theorem dX12_wronged_18 : decode cX12_wronged 18 = .ok (.getfield 278, 3) := by decide +kernel
theorem dX12_wronged_21 : decode cX12_wronged 21 = .ok (.iconst 1, 1) := by decide +kernel
theorem dX12_wronged_22 : decode cX12_wronged 22 = .ok (.isub, 1) := by decide +kernel
theorem dX12_wronged_23 : decode cX12_wronged 23 = .ok (.i2l, 1) := by decide +kernel
theorem dX12_wronged_24 : decode cX12_wronged 24 = .ok (.invokestatic 221, 3) := by decide +kernel
theorem dX12_wronged_27 : decode cX12_wronged 27 = .ok (.ifCond .eq 11, 3) := by decide +kernel
theorem dX12_wronged_30 : decode cX12_wronged 30 = .ok (.aload_n 0, 1) := by decide +kernel
theorem dX12_wronged_31 : decode cX12_wronged 31 = .ok (.iload_n 1, 1) := by decide +kernel
theorem dX12_wronged_32 : decode cX12_wronged 32 = .ok (.invokevirtual 441, 3) := by decide +kernel
theorem dX12_wronged_35 : decode cX12_wronged 35 = .ok (.goto 4, 3) := by decide +kernel
theorem dX12_wronged_38 : decode cX12_wronged 38 = .ok (.iconst (-1), 1) := by decide +kernel
theorem dX12_wronged_39 : decode cX12_wronged 39 = .ok (.ireturn, 1) := by decide +kernel
theorem dX12_better_0 : decode cX12_better 0 = .ok (.aload_n 0, 1) := by decide +kernel
theorem dX12_better_1 : decode cX12_better 1 = .ok (.iconst 0, 1) := by decide +kernel
theorem dX12_better_2 : decode cX12_better 2 = .ok (.putfield 100, 3) := by decide +kernel
theorem dX12_better_5 : decode cX12_better 5 = .ok (.aload_n 0, 1) := by decide +kernel
theorem dX12_better_6 : decode cX12_better 6 = .ok (.getfield 286, 3) := by decide +kernel
theorem dX12_better_9 : decode cX12_better 9 = .ok (.ifCond .eq 10, 3) := by decide +kernel
theorem dX12_better_12 : decode cX12_better 12 = .ok (.aload_n 0, 1) := by decide +kernel
theorem dX12_better_13 : decode cX12_better 13 = .ok (.getfield 278, 3) := by decide +kernel
theorem dX12_better_16 : decode cX12_better 16 = .ok (.ifCond .ne 5, 3) := by decide +kernel
theorem dX12_better_19 : decode cX12_better 19 = .ok (.iconst (-1), 1) := by decide +kernel
theorem dX12_better_20 : decode cX12_better 20 = .ok (.ireturn, 1) := by decide +kernel
theorem dX12_better_21 : decode cX12_better 21 = .ok (.iconst 0, 1) := by decide +kernel
theorem dX12_better_22 : decode cX12_better 22 = .ok (.istore_n 1, 1) := by decide +kernel
theorem dX12_better_23 : decode cX12_better 23 = .ok (.iconst 1, 1) := by decide +kernel
theorem dX12_better_24 : decode cX12_better 24 = .ok (.istore_n 2, 1) := by decide +kernel
theorem dX12_better_25 : decode cX12_better 25 = .ok (.iload_n 2, 1) := by decide +kernel
theorem dX12_better_26 : decode cX12_better 26 = .ok (.aload_n 0, 1) := by decide +kernel
theorem dX12_better_27 : decode cX12_better 27 = .ok (.getfield 278, 3) := by decide +kernel
theorem dX12_better_30 : decode cX12_better 30 = .ok (.if_icmp .ge 28, 3) := by decide +kernel
theorem dX12_better_33 : decode cX12_better 33 = .ok (.aload_n 0, 1) := by decide +kernel
theorem dX12_better_34 : decode cX12_better 34 = .ok (.iload_n 2, 1) := by decide +kernel
theorem dX12_better_35 : decode cX12_better 35 = .ok (.invokevirtual 441, 3) := by decide +kernel
theorem dX12_better_38 : decode cX12_better 38 = .ok (.aload_n 0, 1) := by decide +kernel
theorem dX12_better_39 : decode cX12_better 39 = .ok (.iload_n 1, 1) := by decide +kernel
theorem dX12_better_40 : decode cX12_better 40 = .ok (.invokevirtual 441, 3) := by decide +kernel
theorem dX12_better_43 : decode cX12_better 43 = .ok (.if_icmp .ge 7, 3) := by decide +kernel
theorem dX12_better_46 : decode cX12_better 46 = .ok (.iload_n 2, 1) := by decide +kernel
theorem dX12_better_47 : decode cX12_better 47 = .ok (.goto 4, 3) := by decide +kernel
theorem dX12_better_50 : decode cX12_better 50 = .ok (.iload_n 1, 1) := by decide +kernel
theorem dX12_better_51 : decode cX12_better 51 = .ok (.istore_n 1, 1) := by decide +kernel
theorem dX12_better_52 : decode cX12_better 52 = .ok (.iinc 2 1, 3) := by decide +kernel
theorem dX12_better_55 : decode cX12_better 55 = .ok (.goto (-30), 3) := by decide +kernel
theorem dX12_better_58 : decode cX12_better 58 = .ok (.iload_n 1, 1) := by decide +kernel
theorem dX12_better_59 : decode cX12_better 59 = .ok (.ireturn, 1) := by decide +kernel
theorem dX12_most_0 : decode cX12_most 0 = .ok (.aload_n 0, 1) := by decide +kernel
theorem dX12_most_1 : decode cX12_most 1 = .ok (.iconst 0, 1) := by decide +kernel
theorem dX12_most_2 : decode cX12_most 2 = .ok (.putfield 100, 3) := by decide +kernel
theorem dX12_most_5 : decode cX12_most 5 = .ok (.aload_n 0, 1) := by decide +kernel
theorem dX12_most_6 : decode cX12_most 6 = .ok (.getfield 286, 3) := by decide +kernel
theorem dX12_most_9 : decode cX12_most 9 = .ok (.ifCond .eq 13, 3) := by decide +kernel
theorem dX12_most_12 : decode cX12_most 12 = .ok (.iload_n 1, 1) := by decide +kernel
theorem dX12_most_13 : decode cX12_most 13 = .ok (.i2l, 1) := by decide +kernel
theorem dX12_most_14 : decode cX12_most 14 = .ok (.lconst 0, 1) := by decide +kernel
theorem dX12_most_15 : decode cX12_most 15 = .ok (.lconst 1, 1) := by decide +kernel
theorem dX12_most_16 : decode cX12_most 16 = .ok (.invokestatic 221, 3) := by decide +kernel
theorem dX12_most_19 : decode cX12_most 19 = .ok (.ifCond .ne 5, 3) := by decide +kernel
theorem dX12_most_22 : decode cX12_most 22 = .ok (.iconst (-1), 1) := by decide +kernel
theorem dX12_most_23 : decode cX12_most 23 = .ok (.ireturn, 1) := by decide +kernel
theorem dX12_most_24 : decode cX12_most 24 = .ok (.iconst 0, 1) := by decide +kernel
theorem dX12_most_25 : decode cX12_most 25 = .ok (.istore_n 2, 1) := by decide +kernel
theorem dX12_most_26 : decode cX12_most 26 = .ok (.iconst 1, 1) := by decide +kernel
theorem dX12_most_27 : decode cX12_most 27 = .ok (.istore_n 3, 1) := by decide +kernel
theorem dX12_most_28 : decode cX12_most 28 = .ok (.iload_n 3, 1) := by decide +kernel
theorem dX12_most_29 : decode cX12_most 29 = .ok (.aload_n 0, 1) := by decide +kernel
theorem dX12_most_30 : decode cX12_most 30 = .ok (.getfield 286, 3) := by decide +kernel
theorem dX12_most_33 : decode cX12_most 33 = .ok (.if_icmp .ge 63, 3) := by decide +kernel
theorem dX12_most_36 : decode cX12_most 36 = .ok (.iload_n 1, 1) := by decide +kernel
theorem dX12_most_37 : decode cX12_most 37 = .ok (.ifCond .ne 26, 3) := by decide +kernel
theorem dX12_most_40 : decode cX12_most 40 = .ok (.aload_n 0, 1) := by decide +kernel
theorem dX12_most_41 : decode cX12_most 41 = .ok (.iload_n 3, 1) := by decide +kernel
theorem dX12_most_42 : decode cX12_most 42 = .ok (.iconst 2, 1) := by decide +kernel
theorem dX12_most_43 : decode cX12_most 43 = .ok (.invokevirtual 301, 3) := by decide +kernel
theorem dX12_most_46 : decode cX12_most 46 = .ok (.aload_n 0, 1) := by decide +kernel
theorem dX12_most_47 : decode cX12_most 47 = .ok (.iload_n 2, 1) := by decide +kernel
theorem dX12_most_48 : decode cX12_most 48 = .ok (.iconst 2, 1) := by decide +kernel
theorem dX12_most_49 : decode cX12_most 49 = .ok (.invokevirtual 301, 3) := by decide +kernel
theorem dX12_most_52 : decode cX12_most 52 = .ok (.if_icmp .le 7, 3) := by decide +kernel
theorem dX12_most_55 : decode cX12_most 55 = .ok (.iconst 1, 1) := by decide +kernel
theorem dX12_most_56 : decode cX12_most 56 = .ok (.goto 25, 3) := by decide +kernel
theorem dX12_most_59 : decode cX12_most 59 = .ok (.iconst 0, 1) := by decide +kernel
theorem dX12_most_60 : decode cX12_most 60 = .ok (.goto 21, 3) := by decide +kernel
theorem dX12_most_63 : decode cX12_most 63 = .ok (.aload_n 0, 1) := by decide +kernel
theorem dX12_most_64 : decode cX12_most 64 = .ok (.iload_n 3, 1) := by decide +kernel
theorem dX12_most_65 : decode cX12_most 65 = .ok (.invokevirtual 397, 3) := by decide +kernel
theorem dX12_most_68 : decode cX12_most 68 = .ok (.aload_n 0, 1) := by decide +kernel
theorem dX12_most_69 : decode cX12_most 69 = .ok (.iload_n 2, 1) := by decide +kernel
theorem dX12_most_70 : decode cX12_most 70 = .ok (.invokevirtual 397, 3) := by decide +kernel
theorem dX12_most_73 : decode cX12_most 73 = .ok (.if_icmp .le 7, 3) := by decide +kernel
theorem dX12_most_76 : decode cX12_most 76 = .ok (.iconst 1, 1) := by decide +kernel
theorem dX12_most_77 : decode cX12_most 77 = .ok (.goto 4, 3) := by decide +kernel
theorem dX12_most_80 : decode cX12_most 80 = .ok (.iconst 0, 1) := by decide +kernel
theorem dX12_most_81 : decode cX12_most 81 = .ok (.istore 4, 2) := by decide +kernel
theorem dX12_most_83 : decode cX12_most 83 = .ok (.iload 4, 2) := by decide +kernel
theorem dX12_most_85 : decode cX12_most 85 = .ok (.ifCond .eq 5, 3) := by decide +kernel
theorem dX12_most_88 : decode cX12_most 88 = .ok (.iload_n 3, 1) := by decide +kernel
theorem dX12_most_89 : decode cX12_most 89 = .ok (.istore_n 2, 1) := by decide +kernel
theorem dX12_most_90 : decode cX12_most 90 = .ok (.iinc 3 1, 3) := by decide +kernel
theorem dX12_most_93 : decode cX12_most 93 = .ok (.goto (-65), 3) := by decide +kernel
theorem dX12_most_96 : decode cX12_most 96 = .ok (.iload_n 2, 1) := by decide +kernel
theorem dX12_most_97 : decode cX12_most 97 = .ok (.ireturn, 1) := by decide +kernel
theorem dX12_people_0 : decode cX12_people 0 = .ok (.aload_n 0, 1) := by decide +kernel
theorem dX12_people_1 : decode cX12_people 1 = .ok (.iconst 0, 1) := by decide +kernel
theorem dX12_people_2 : decode cX12_people 2 = .ok (.putfield 100, 3) := by decide +kernel
theorem dX12_people_5 : decode cX12_people 5 = .ok (.aload_n 0, 1) := by decide +kernel
theorem dX12_people_6 : decode cX12_people 6 = .ok (.getfield 286, 3) := by decide +kernel
theorem dX12_people_9 : decode cX12_people 9 = .ok (.ifCond .eq 15, 3) := by decide +kernel
theorem dX12_people_12 : decode cX12_people 12 = .ok (.iload_n 1, 1) := by decide +kernel
theorem dX12_people_13 : decode cX12_people 13 = .ok (.i2l, 1) := by decide +kernel
theorem dX12_people_14 : decode cX12_people 14 = .ok (.lconst 0, 1) := by decide +kernel
theorem dX12_people_15 : decode cX12_people 15 = .ok (.ldc2_w 266, 3) := by decide +kernel
theorem dX12_people_18 : decode cX12_people 18 = .ok (.invokestatic 221, 3) := by decide +kernel
theorem dX12_people_21 : decode cX12_people 21 = .ok (.ifCond .ne 5, 3) := by decide +kernel
theorem dX12_people_24 : decode cX12_people 24 = .ok (.iconst (-1), 1) := by decide +kernel
theorem dX12_people_25 : decode cX12_people 25 = .ok (.ireturn, 1) := by decide +kernel
theorem dX12_people_26 : decode cX12_people 26 = .ok (.iconst 0, 1) := by decide +kernel
theorem dX12_people_27 : decode cX12_people 27 = .ok (.istore_n 2, 1) := by decide +kernel
theorem dX12_people_28 : decode cX12_people 28 = .ok (.iconst 0, 1) := by decide +kernel
theorem dX12_people_29 : decode cX12_people 29 = .ok (.istore_n 3, 1) := by decide +kernel
theorem dX12_people_30 : decode cX12_people 30 = .ok (.iload_n 3, 1) := by decide +kernel
theorem dX12_people_31 : decode cX12_people 31 = .ok (.aload_n 0, 1) := by decide +kernel
theorem dX12_people_32 : decode cX12_people 32 = .ok (.getfield 286, 3) := by decide +kernel
theorem dX12_people_35 : decode cX12_people 35 = .ok (.if_icmp .ge 88, 3) := by decide +kernel
theorem dX12_people_38 : decode cX12_people 38 = .ok (.iload_n 1, 1) := by decide +kernel
theorem dX12_people_39 : decode cX12_people 39 = .ok (.ifCond .ne 20, 3) := by decide +kernel
theorem dX12_people_42 : decode cX12_people 42 = .ok (.aload_n 0, 1) := by decide +kernel
theorem dX12_people_43 : decode cX12_people 43 = .ok (.iload_n 3, 1) := by decide +kernel
theorem dX12_people_44 : decode cX12_people 44 = .ok (.iconst 5, 1) := by decide +kernel
theorem dX12_people_45 : decode cX12_people 45 = .ok (.invokevirtual 301, 3) := by decide +kernel
theorem dX12_people_48 : decode cX12_people 48 = .ok (.ifCond .ne 7, 3) := by decide +kernel
theorem dX12_people_51 : decode cX12_people 51 = .ok (.iconst 1, 1) := by decide +kernel
theorem dX12_people_52 : decode cX12_people 52 = .ok (.goto 48, 3) := by decide +kernel
theorem dX12_people_55 : decode cX12_people 55 = .ok (.iconst 0, 1) := by decide +kernel
theorem dX12_people_56 : decode cX12_people 56 = .ok (.goto 44, 3) := by decide +kernel
theorem dX12_people_59 : decode cX12_people 59 = .ok (.iload_n 1, 1) := by decide +kernel
theorem dX12_people_60 : decode cX12_people 60 = .ok (.iconst 1, 1) := by decide +kernel
theorem dX12_people_61 : decode cX12_people 61 = .ok (.if_icmp .ne 20, 3) := by decide +kernel
theorem dX12_people_64 : decode cX12_people 64 = .ok (.aload_n 0, 1) := by decide +kernel
theorem dX12_people_65 : decode cX12_people 65 = .ok (.iload_n 3, 1) := by decide +kernel
theorem dX12_people_66 : decode cX12_people 66 = .ok (.iconst 0, 1) := by decide +kernel
theorem dX12_people_67 : decode cX12_people 67 = .ok (.invokevirtual 301, 3) := by decide +kernel
theorem dX12_people_70 : decode cX12_people 70 = .ok (.ifCond .ne 7, 3) := by decide +kernel
theorem dX12_people_73 : decode cX12_people 73 = .ok (.iconst 1, 1) := by decide +kernel
theorem dX12_people_74 : decode cX12_people 74 = .ok (.goto 26, 3) := by decide +kernel
theorem dX12_people_77 : decode cX12_people 77 = .ok (.iconst 0, 1) := by decide +kernel
theorem dX12_people_78 : decode cX12_people 78 = .ok (.goto 22, 3) := by decide +kernel
theorem dX12_people_81 : decode cX12_people 81 = .ok (.aload_n 0, 1) := by decide +kernel
theorem dX12_people_82 : decode cX12_people 82 = .ok (.iload_n 3, 1) := by decide +kernel
theorem dX12_people_83 : decode cX12_people 83 = .ok (.invokevirtual 383, 3) := by decide +kernel
theorem dX12_people_86 : decode cX12_people 86 = .ok (.aload_n 0, 1) := by decide +kernel
theorem dX12_people_87 : decode cX12_people 87 = .ok (.getfield 37, 3) := by decide +kernel
theorem dX12_people_90 : decode cX12_people 90 = .ok (.iconst 1, 1) := by decide +kernel
theorem dX12_people_91 : decode cX12_people 91 = .ok (.iaload, 1) := by decide +kernel
theorem dX12_people_92 : decode cX12_people 92 = .ok (.if_icmp .lt 7, 3) := by decide +kernel
theorem dX12_people_95 : decode cX12_people 95 = .ok (.iconst 1, 1) := by decide +kernel
theorem dX12_people_96 : decode cX12_people 96 = .ok (.goto 4, 3) := by decide +kernel
theorem dX12_people_99 : decode cX12_people 99 = .ok (.iconst 0, 1) := by decide +kernel
theorem dX12_people_100 : decode cX12_people 100 = .ok (.istore 4, 2) := by decide +kernel
theorem dX12_people_102 : decode cX12_people 102 = .ok (.iload_n 2, 1) := by decide +kernel
theorem dX12_people_103 : decode cX12_people 103 = .ok (.iload 4, 2) := by decide +kernel
theorem dX12_people_105 : decode cX12_people 105 = .ok (.ifCond .eq 9, 3) := by decide +kernel
theorem dX12_people_108 : decode cX12_people 108 = .ok (.iconst 1, 1) := by decide +kernel
theorem dX12_people_109 : decode cX12_people 109 = .ok (.iload_n 3, 1) := by decide +kernel
theorem dX12_people_110 : decode cX12_people 110 = .ok (.ishl, 1) := by decide +kernel
theorem dX12_people_111 : decode cX12_people 111 = .ok (.goto 4, 3) := by decide +kernel
theorem dX12_people_114 : decode cX12_people 114 = .ok (.iconst 0, 1) := by decide +kernel
theorem dX12_people_115 : decode cX12_people 115 = .ok (.ior, 1) := by decide +kernel
theorem dX12_people_116 : decode cX12_people 116 = .ok (.istore_n 2, 1) := by decide +kernel
theorem dX12_people_117 : decode cX12_people 117 = .ok (.iinc 3 1, 3) := by decide +kernel
theorem dX12_people_120 : decode cX12_people 120 = .ok (.goto (-90), 3) := by decide +kernel
theorem dX12_people_123 : decode cX12_people 123 = .ok (.iload_n 2, 1) := by decide +kernel
theorem dX12_people_124 : decode cX12_people 124 = .ok (.ireturn, 1) := by decide +kernel
theorem dX12_cries_0 : decode cX12_cries 0 = .ok (.aload_n 0, 1) := by decide +kernel
theorem dX12_cries_1 : decode cX12_cries 1 = .ok (.iconst 0, 1) := by decide +kernel
theorem dX12_cries_2 : decode cX12_cries 2 = .ok (.putfield 100, 3) := by decide +kernel
theorem dX12_cries_5 : decode cX12_cries 5 = .ok (.aload_n 0, 1) := by decide +kernel
theorem dX12_cries_6 : decode cX12_cries 6 = .ok (.iload_n 1, 1) := by decide +kernel
theorem dX12_cries_7 : decode cX12_cries 7 = .ok (.invokevirtual 366, 3) := by decide +kernel
theorem dX12_cries_10 : decode cX12_cries 10 = .ok (.ifCond .ne 5, 3) := by decide +kernel
theorem dX12_cries_13 : decode cX12_cries 13 = .ok (.iconst (-1), 1) := by decide +kernel
theorem dX12_cries_14 : decode cX12_cries 14 = .ok (.ireturn, 1) := by decide +kernel
theorem dX12_cries_15 : decode cX12_cries 15 = .ok (.iconst 0, 1) := by decide +kernel
theorem dX12_cries_16 : decode cX12_cries 16 = .ok (.istore_n 2, 1) := by decide +kernel
theorem dX12_cries_17 : decode cX12_cries 17 = .ok (.iconst 0, 1) := by decide +kernel
theorem dX12_cries_18 : decode cX12_cries 18 = .ok (.istore_n 3, 1) := by decide +kernel
theorem dX12_cries_19 : decode cX12_cries 19 = .ok (.iload_n 3, 1) := by decide +kernel
theorem dX12_cries_20 : decode cX12_cries 20 = .ok (.aload_n 0, 1) := by decide +kernel
theorem dX12_cries_21 : decode cX12_cries 21 = .ok (.getfield 286, 3) := by decide +kernel
theorem dX12_cries_24 : decode cX12_cries 24 = .ok (.if_icmp .ge 18, 3) := by decide +kernel
theorem dX12_cries_27 : decode cX12_cries 27 = .ok (.iload_n 2, 1) := by decide +kernel
theorem dX12_cries_28 : decode cX12_cries 28 = .ok (.aload_n 0, 1) := by decide +kernel
theorem dX12_cries_29 : decode cX12_cries 29 = .ok (.iload_n 3, 1) := by decide +kernel
theorem dX12_cries_30 : decode cX12_cries 30 = .ok (.iload_n 1, 1) := by decide +kernel
theorem dX12_cries_31 : decode cX12_cries 31 = .ok (.invokevirtual 340, 3) := by decide +kernel
theorem dX12_cries_34 : decode cX12_cries 34 = .ok (.iadd, 1) := by decide +kernel
theorem dX12_cries_35 : decode cX12_cries 35 = .ok (.istore_n 2, 1) := by decide +kernel
theorem dX12_cries_36 : decode cX12_cries 36 = .ok (.iinc 3 1, 3) := by decide +kernel
theorem dX12_cries_39 : decode cX12_cries 39 = .ok (.goto (-20), 3) := by decide +kernel
theorem dX12_cries_42 : decode cX12_cries 42 = .ok (.iload_n 2, 1) := by decide +kernel
theorem dX12_cries_43 : decode cX12_cries 43 = .ok (.ireturn, 1) := by decide +kernel
theorem dX12_booked_0 : decode cX12_booked 0 = .ok (.aload_n 0, 1) := by decide +kernel
theorem dX12_booked_1 : decode cX12_booked 1 = .ok (.iconst 0, 1) := by decide +kernel
theorem dX12_booked_2 : decode cX12_booked 2 = .ok (.putfield 100, 3) := by decide +kernel
theorem dX12_booked_5 : decode cX12_booked 5 = .ok (.aload_n 0, 1) := by decide +kernel
theorem dX12_booked_6 : decode cX12_booked 6 = .ok (.iload_n 1, 1) := by decide +kernel
theorem dX12_booked_7 : decode cX12_booked 7 = .ok (.invokevirtual 347, 3) := by decide +kernel
theorem dX12_booked_10 : decode cX12_booked 10 = .ok (.ifCond .eq 13, 3) := by decide +kernel
theorem dX12_booked_13 : decode cX12_booked 13 = .ok (.iload_n 2, 1) := by decide +kernel
theorem dX12_booked_14 : decode cX12_booked 14 = .ok (.i2l, 1) := by decide +kernel
theorem dX12_booked_15 : decode cX12_booked 15 = .ok (.lconst 0, 1) := by decide +kernel
theorem dX12_booked_16 : decode cX12_booked 16 = .ok (.lconst 1, 1) := by decide +kernel
theorem dX12_booked_17 : decode cX12_booked 17 = .ok (.invokestatic 221, 3) := by decide +kernel
theorem dX12_booked_20 : decode cX12_booked 20 = .ok (.ifCond .ne 5, 3) := by decide +kernel
theorem dX12_booked_23 : decode cX12_booked 23 = .ok (.iconst (-1), 1) := by decide +kernel
theorem dX12_booked_24 : decode cX12_booked 24 = .ok (.ireturn, 1) := by decide +kernel
theorem dX12_booked_25 : decode cX12_booked 25 = .ok (.iload_n 2, 1) := by decide +kernel
theorem dX12_booked_26 : decode cX12_booked 26 = .ok (.ifCond .ne 9, 3) := by decide +kernel
theorem dX12_booked_29 : decode cX12_booked 29 = .ok (.aload_n 0, 1) := by decide +kernel
theorem dX12_booked_30 : decode cX12_booked 30 = .ok (.iload_n 1, 1) := by decide +kernel
theorem dX12_booked_31 : decode cX12_booked 31 = .ok (.invokevirtual 380, 3) := by decide +kernel
theorem dX12_booked_34 : decode cX12_booked 34 = .ok (.ireturn, 1) := by decide +kernel
theorem dX12_booked_35 : decode cX12_booked 35 = .ok (.aload_n 0, 1) := by decide +kernel
theorem dX12_booked_36 : decode cX12_booked 36 = .ok (.iload_n 1, 1) := by decide +kernel
theorem dX12_booked_37 : decode cX12_booked 37 = .ok (.invokevirtual 383, 3) := by decide +kernel
theorem dX12_booked_40 : decode cX12_booked 40 = .ok (.istore_n 3, 1) := by decide +kernel
theorem dX12_booked_41 : decode cX12_booked 41 = .ok (.aload_n 0, 1) := by decide +kernel
theorem dX12_booked_42 : decode cX12_booked 42 = .ok (.aload_n 0, 1) := by decide +kernel
theorem dX12_booked_43 : decode cX12_booked 43 = .ok (.getfield 58, 3) := by decide +kernel
theorem dX12_booked_46 : decode cX12_booked 46 = .ok (.iload_n 1, 1) := by decide +kernel
theorem dX12_booked_47 : decode cX12_booked 47 = .ok (.aload_n 0, 1) := by decide +kernel
theorem dX12_booked_48 : decode cX12_booked 48 = .ok (.iload_n 1, 1) := by decide +kernel
theorem dX12_booked_49 : decode cX12_booked 49 = .ok (.iconst 2, 1) := by decide +kernel
theorem dX12_booked_50 : decode cX12_booked 50 = .ok (.invokevirtual 301, 3) := by decide +kernel
theorem dX12_booked_53 : decode cX12_booked 53 = .ok (.iconst 0, 1) := by decide +kernel
theorem dX12_booked_54 : decode cX12_booked 54 = .ok (.iconst 0, 1) := by decide +kernel
theorem dX12_booked_55 : decode cX12_booked 55 = .ok (.invokevirtual 319, 3) := by decide +kernel
theorem dX12_booked_58 : decode cX12_booked 58 = .ok (.istore 4, 2) := by decide +kernel
theorem dX12_booked_60 : decode cX12_booked 60 = .ok (.iconst 0, 1) := by decide +kernel
theorem dX12_booked_61 : decode cX12_booked 61 = .ok (.istore 5, 2) := by decide +kernel
theorem dX12_booked_63 : decode cX12_booked 63 = .ok (.iload 5, 2) := by decide +kernel
theorem dX12_booked_65 : decode cX12_booked 65 = .ok (.bipush 100, 2) := by decide +kernel
theorem dX12_booked_67 : decode cX12_booked 67 = .ok (.if_icmp .ge 28, 3) := by decide +kernel
theorem dX12_booked_70 : decode cX12_booked 70 = .ok (.iload_n 3, 1) := by decide +kernel
theorem dX12_booked_71 : decode cX12_booked 71 = .ok (.iload 5, 2) := by decide +kernel
theorem dX12_booked_73 : decode cX12_booked 73 = .ok (.iload 4, 2) := by decide +kernel
theorem dX12_booked_75 : decode cX12_booked 75 = .ok (.imul, 1) := by decide +kernel
theorem dX12_booked_76 : decode cX12_booked 76 = .ok (.iadd, 1) := by decide +kernel
theorem dX12_booked_77 : decode cX12_booked 77 = .ok (.aload_n 0, 1) := by decide +kernel
theorem dX12_booked_78 : decode cX12_booked 78 = .ok (.getfield 37, 3) := by decide +kernel
theorem dX12_booked_81 : decode cX12_booked 81 = .ok (.iconst 1, 1) := by decide +kernel
theorem dX12_booked_82 : decode cX12_booked 82 = .ok (.iaload, 1) := by decide +kernel
theorem dX12_booked_83 : decode cX12_booked 83 = .ok (.if_icmp .lt 6, 3) := by decide +kernel
theorem dX12_booked_86 : decode cX12_booked 86 = .ok (.iload 5, 2) := by decide +kernel
theorem dX12_booked_88 : decode cX12_booked 88 = .ok (.ireturn, 1) := by decide +kernel
theorem dX12_booked_89 : decode cX12_booked 89 = .ok (.iinc 5 1, 3) := by decide +kernel
theorem dX12_booked_92 : decode cX12_booked 92 = .ok (.goto (-29), 3) := by decide +kernel
theorem dX12_booked_95 : decode cX12_booked 95 = .ok (.iconst (-1), 1) := by decide +kernel
theorem dX12_booked_96 : decode cX12_booked 96 = .ok (.ireturn, 1) := by decide +kernel
theorem dX12_meet_0 : decode cX12_meet 0 = .ok (.aload_n 0, 1) := by decide +kernel
theorem dX12_meet_1 : decode cX12_meet 1 = .ok (.iconst 0, 1) := by decide +kernel
theorem dX12_meet_2 : decode cX12_meet 2 = .ok (.putfield 100, 3) := by decide +kernel
theorem dX12_meet_5 : decode cX12_meet 5 = .ok (.aload_n 0, 1) := by decide +kernel
theorem dX12_meet_6 : decode cX12_meet 6 = .ok (.iload_n 1, 1) := by decide +kernel
theorem dX12_meet_7 : decode cX12_meet 7 = .ok (.invokevirtual 347, 3) := by decide +kernel
theorem dX12_meet_10 : decode cX12_meet 10 = .ok (.ifCond .eq 16, 3) := by decide +kernel
theorem dX12_meet_13 : decode cX12_meet 13 = .ok (.aload_n 0, 1) := by decide +kernel
theorem dX12_meet_14 : decode cX12_meet 14 = .ok (.iload_n 2, 1) := by decide +kernel
theorem dX12_meet_15 : decode cX12_meet 15 = .ok (.invokevirtual 347, 3) := by decide +kernel
theorem dX12_meet_18 : decode cX12_meet 18 = .ok (.ifCond .eq 8, 3) := by decide +kernel
theorem dX12_meet_21 : decode cX12_meet 21 = .ok (.iload_n 1, 1) := by decide +kernel
theorem dX12_meet_22 : decode cX12_meet 22 = .ok (.iload_n 2, 1) := by decide +kernel
theorem dX12_meet_23 : decode cX12_meet 23 = .ok (.if_icmp .ne 5, 3) := by decide +kernel
theorem dX12_meet_26 : decode cX12_meet 26 = .ok (.iconst (-1), 1) := by decide +kernel
theorem dX12_meet_27 : decode cX12_meet 27 = .ok (.ireturn, 1) := by decide +kernel
theorem dX12_meet_28 : decode cX12_meet 28 = .ok (.ldc2_w 393, 3) := by decide +kernel
theorem dX12_meet_31 : decode cX12_meet 31 = .ok (.lstore_n 3, 1) := by decide +kernel
theorem dX12_meet_32 : decode cX12_meet 32 = .ok (.iconst 0, 1) := by decide +kernel
theorem dX12_meet_33 : decode cX12_meet 33 = .ok (.istore 5, 2) := by decide +kernel
theorem dX12_meet_35 : decode cX12_meet 35 = .ok (.iload 5, 2) := by decide +kernel
theorem dX12_meet_37 : decode cX12_meet 37 = .ok (.aload_n 0, 1) := by decide +kernel
theorem dX12_meet_38 : decode cX12_meet 38 = .ok (.getfield 37, 3) := by decide +kernel
theorem dX12_meet_41 : decode cX12_meet 41 = .ok (.iconst 0, 1) := by decide +kernel
theorem dX12_meet_42 : decode cX12_meet 42 = .ok (.iaload, 1) := by decide +kernel
theorem dX12_meet_43 : decode cX12_meet 43 = .ok (.if_icmp .ge 35, 3) := by decide +kernel
theorem dX12_meet_46 : decode cX12_meet 46 = .ok (.lload_n 3, 1) := by decide +kernel
theorem dX12_meet_47 : decode cX12_meet 47 = .ok (.lload_n 3, 1) := by decide +kernel
theorem dX12_meet_48 : decode cX12_meet 48 = .ok (.aload_n 0, 1) := by decide +kernel
theorem dX12_meet_49 : decode cX12_meet 49 = .ok (.iload_n 1, 1) := by decide +kernel
theorem dX12_meet_50 : decode cX12_meet 50 = .ok (.iload 5, 2) := by decide +kernel
theorem dX12_meet_52 : decode cX12_meet 52 = .ok (.invokevirtual 340, 3) := by decide +kernel
theorem dX12_meet_55 : decode cX12_meet 55 = .ok (.i2l, 1) := by decide +kernel
theorem dX12_meet_56 : decode cX12_meet 56 = .ok (.lmul, 1) := by decide +kernel
theorem dX12_meet_57 : decode cX12_meet 57 = .ok (.aload_n 0, 1) := by decide +kernel
theorem dX12_meet_58 : decode cX12_meet 58 = .ok (.iload_n 2, 1) := by decide +kernel
theorem dX12_meet_59 : decode cX12_meet 59 = .ok (.iload 5, 2) := by decide +kernel
theorem dX12_meet_61 : decode cX12_meet 61 = .ok (.invokevirtual 340, 3) := by decide +kernel
theorem dX12_meet_64 : decode cX12_meet 64 = .ok (.i2l, 1) := by decide +kernel
theorem dX12_meet_65 : decode cX12_meet 65 = .ok (.lmul, 1) := by decide +kernel
theorem dX12_meet_66 : decode cX12_meet 66 = .ok (.ldc2_w 444, 3) := by decide +kernel
theorem dX12_meet_69 : decode cX12_meet 69 = .ok (.ldiv, 1) := by decide +kernel
theorem dX12_meet_70 : decode cX12_meet 70 = .ok (.lsub, 1) := by decide +kernel
theorem dX12_meet_71 : decode cX12_meet 71 = .ok (.lstore_n 3, 1) := by decide +kernel
theorem dX12_meet_72 : decode cX12_meet 72 = .ok (.iinc 5 1, 3) := by decide +kernel
theorem dX12_meet_75 : decode cX12_meet 75 = .ok (.goto (-40), 3) := by decide +kernel
theorem dX12_meet_78 : decode cX12_meet 78 = .ok (.ldc2_w 393, 3) := by decide +kernel
theorem dX12_meet_81 : decode cX12_meet 81 = .ok (.lload_n 3, 1) := by decide +kernel
theorem dX12_meet_82 : decode cX12_meet 82 = .ok (.lsub, 1) := by decide +kernel
theorem dX12_meet_83 : decode cX12_meet 83 = .ok (.l2i, 1) := by decide +kernel
theorem dX12_meet_84 : decode cX12_meet 84 = .ok (.ireturn, 1) := by decide +kernel
theorem dX12_needs_0 : decode cX12_needs 0 = .ok (.aload_n 0, 1) := by decide +kernel
theorem dX12_needs_1 : decode cX12_needs 1 = .ok (.iconst 0, 1) := by decide +kernel
theorem dX12_needs_2 : decode cX12_needs 2 = .ok (.putfield 100, 3) := by decide +kernel
theorem dX12_needs_5 : decode cX12_needs 5 = .ok (.aload_n 0, 1) := by decide +kernel
theorem dX12_needs_6 : decode cX12_needs 6 = .ok (.iload_n 1, 1) := by decide +kernel
theorem dX12_needs_7 : decode cX12_needs 7 = .ok (.invokevirtual 347, 3) := by decide +kernel
theorem dX12_needs_10 : decode cX12_needs 10 = .ok (.ifCond .eq 23, 3) := by decide +kernel
theorem dX12_needs_13 : decode cX12_needs 13 = .ok (.aload_n 0, 1) := by decide +kernel
theorem dX12_needs_14 : decode cX12_needs 14 = .ok (.iload_n 2, 1) := by decide +kernel
theorem dX12_needs_15 : decode cX12_needs 15 = .ok (.invokevirtual 366, 3) := by decide +kernel
theorem dX12_needs_18 : decode cX12_needs 18 = .ok (.ifCond .eq 15, 3) := by decide +kernel
theorem dX12_needs_21 : decode cX12_needs 21 = .ok (.iload_n 3, 1) := by decide +kernel
theorem dX12_needs_22 : decode cX12_needs 22 = .ok (.i2l, 1) := by decide +kernel
theorem dX12_needs_23 : decode cX12_needs 23 = .ok (.lconst 0, 1) := by decide +kernel
theorem dX12_needs_24 : decode cX12_needs 24 = .ok (.ldc2_w 395, 3) := by decide +kernel
theorem dX12_needs_27 : decode cX12_needs 27 = .ok (.invokestatic 221, 3) := by decide +kernel
theorem dX12_needs_30 : decode cX12_needs 30 = .ok (.ifCond .ne 5, 3) := by decide +kernel
theorem dX12_needs_33 : decode cX12_needs 33 = .ok (.iconst (-1), 1) := by decide +kernel
theorem dX12_needs_34 : decode cX12_needs 34 = .ok (.ireturn, 1) := by decide +kernel
theorem dX12_needs_35 : decode cX12_needs 35 = .ok (.aload_n 0, 1) := by decide +kernel
theorem dX12_needs_36 : decode cX12_needs 36 = .ok (.iload_n 1, 1) := by decide +kernel
theorem dX12_needs_37 : decode cX12_needs 37 = .ok (.iconst 1, 1) := by decide +kernel
theorem dX12_needs_38 : decode cX12_needs 38 = .ok (.invokevirtual 301, 3) := by decide +kernel
theorem dX12_needs_41 : decode cX12_needs 41 = .ok (.istore 4, 2) := by decide +kernel
theorem dX12_needs_43 : decode cX12_needs 43 = .ok (.iconst (-1), 1) := by decide +kernel
theorem dX12_needs_44 : decode cX12_needs 44 = .ok (.istore 5, 2) := by decide +kernel
theorem dX12_needs_46 : decode cX12_needs 46 = .ok (.bipush 9, 2) := by decide +kernel
theorem dX12_needs_48 : decode cX12_needs 48 = .ok (.istore 6, 2) := by decide +kernel
theorem dX12_needs_50 : decode cX12_needs 50 = .ok (.iload 6, 2) := by decide +kernel
theorem dX12_needs_52 : decode cX12_needs 52 = .ok (.ifCond .lt 36, 3) := by decide +kernel
theorem dX12_needs_55 : decode cX12_needs 55 = .ok (.aload_n 0, 1) := by decide +kernel
theorem dX12_needs_56 : decode cX12_needs 56 = .ok (.getfield 55, 3) := by decide +kernel
theorem dX12_needs_59 : decode cX12_needs 59 = .ok (.bipush 6, 2) := by decide +kernel
theorem dX12_needs_61 : decode cX12_needs 61 = .ok (.iload_n 1, 1) := by decide +kernel
theorem dX12_needs_62 : decode cX12_needs 62 = .ok (.imul, 1) := by decide +kernel
theorem dX12_needs_63 : decode cX12_needs 63 = .ok (.iconst 1, 1) := by decide +kernel
theorem dX12_needs_64 : decode cX12_needs 64 = .ok (.iadd, 1) := by decide +kernel
theorem dX12_needs_65 : decode cX12_needs 65 = .ok (.iload 6, 2) := by decide +kernel
theorem dX12_needs_67 : decode cX12_needs 67 = .ok (.iastore, 1) := by decide +kernel
theorem dX12_needs_68 : decode cX12_needs 68 = .ok (.aload_n 0, 1) := by decide +kernel
theorem dX12_needs_69 : decode cX12_needs 69 = .ok (.iload_n 1, 1) := by decide +kernel
theorem dX12_needs_70 : decode cX12_needs 70 = .ok (.iload_n 2, 1) := by decide +kernel
theorem dX12_needs_71 : decode cX12_needs 71 = .ok (.invokevirtual 340, 3) := by decide +kernel
theorem dX12_needs_74 : decode cX12_needs 74 = .ok (.iload_n 3, 1) := by decide +kernel
theorem dX12_needs_75 : decode cX12_needs 75 = .ok (.if_icmp .lt 7, 3) := by decide +kernel
theorem dX12_needs_78 : decode cX12_needs 78 = .ok (.iload 6, 2) := by decide +kernel
theorem dX12_needs_80 : decode cX12_needs 80 = .ok (.istore 5, 2) := by decide +kernel
theorem dX12_needs_82 : decode cX12_needs 82 = .ok (.iinc 6 (-1), 3) := by decide +kernel
theorem dX12_needs_85 : decode cX12_needs 85 = .ok (.goto (-35), 3) := by decide +kernel
theorem dX12_needs_88 : decode cX12_needs 88 = .ok (.aload_n 0, 1) := by decide +kernel
theorem dX12_needs_89 : decode cX12_needs 89 = .ok (.getfield 55, 3) := by decide +kernel
theorem dX12_needs_92 : decode cX12_needs 92 = .ok (.bipush 6, 2) := by decide +kernel
theorem dX12_needs_94 : decode cX12_needs 94 = .ok (.iload_n 1, 1) := by decide +kernel
theorem dX12_needs_95 : decode cX12_needs 95 = .ok (.imul, 1) := by decide +kernel
theorem dX12_needs_96 : decode cX12_needs 96 = .ok (.iconst 1, 1) := by decide +kernel
theorem dX12_needs_97 : decode cX12_needs 97 = .ok (.iadd, 1) := by decide +kernel
theorem dX12_needs_98 : decode cX12_needs 98 = .ok (.iload 4, 2) := by decide +kernel
theorem dX12_needs_100 : decode cX12_needs 100 = .ok (.iastore, 1) := by decide +kernel
theorem dX12_needs_101 : decode cX12_needs 101 = .ok (.iload 5, 2) := by decide +kernel
theorem dX12_needs_103 : decode cX12_needs 103 = .ok (.ireturn, 1) := by decide +kernel
theorem dX12_line_0 : decode cX12_line 0 = .ok (.aload_n 0, 1) := by decide +kernel
theorem dX12_line_1 : decode cX12_line 1 = .ok (.iconst 0, 1) := by decide +kernel
theorem dX12_line_2 : decode cX12_line 2 = .ok (.putfield 100, 3) := by decide +kernel
theorem dX12_line_5 : decode cX12_line 5 = .ok (.aload_n 0, 1) := by decide +kernel
theorem dX12_line_6 : decode cX12_line 6 = .ok (.getfield 286, 3) := by decide +kernel
theorem dX12_line_9 : decode cX12_line 9 = .ok (.ifCond .ne 5, 3) := by decide +kernel
theorem dX12_line_12 : decode cX12_line 12 = .ok (.iconst (-1), 1) := by decide +kernel
theorem dX12_line_13 : decode cX12_line 13 = .ok (.ireturn, 1) := by decide +kernel
theorem dX12_line_14 : decode cX12_line 14 = .ok (.iconst 0, 1) := by decide +kernel
theorem dX12_line_15 : decode cX12_line 15 = .ok (.istore_n 1, 1) := by decide +kernel
theorem dX12_line_16 : decode cX12_line 16 = .ok (.iconst 0, 1) := by decide +kernel
theorem dX12_line_17 : decode cX12_line 17 = .ok (.istore_n 2, 1) := by decide +kernel
theorem dX12_line_18 : decode cX12_line 18 = .ok (.iconst 0, 1) := by decide +kernel
theorem dX12_line_19 : decode cX12_line 19 = .ok (.istore_n 3, 1) := by decide +kernel
theorem dX12_line_20 : decode cX12_line 20 = .ok (.iload_n 3, 1) := by decide +kernel
theorem dX12_line_21 : decode cX12_line 21 = .ok (.aload_n 0, 1) := by decide +kernel
theorem dX12_line_22 : decode cX12_line 22 = .ok (.getfield 286, 3) := by decide +kernel
theorem dX12_line_25 : decode cX12_line 25 = .ok (.if_icmp .ge 79, 3) := by decide +kernel
theorem dX12_line_28 : decode cX12_line 28 = .ok (.iconst (-1), 1) := by decide +kernel
theorem dX12_line_29 : decode cX12_line 29 = .ok (.istore 4, 2) := by decide +kernel
theorem dX12_line_31 : decode cX12_line 31 = .ok (.iconst 0, 1) := by decide +kernel
theorem dX12_line_32 : decode cX12_line 32 = .ok (.istore 5, 2) := by decide +kernel
theorem dX12_line_34 : decode cX12_line 34 = .ok (.iload 5, 2) := by decide +kernel
theorem dX12_line_36 : decode cX12_line 36 = .ok (.aload_n 0, 1) := by decide +kernel
theorem dX12_line_37 : decode cX12_line 37 = .ok (.getfield 286, 3) := by decide +kernel
theorem dX12_line_40 : decode cX12_line 40 = .ok (.if_icmp .ge 43, 3) := by decide +kernel
theorem dX12_line_43 : decode cX12_line 43 = .ok (.iload_n 2, 1) := by decide +kernel
theorem dX12_line_44 : decode cX12_line 44 = .ok (.iload 5, 2) := by decide +kernel
theorem dX12_line_46 : decode cX12_line 46 = .ok (.invokestatic 233, 3) := by decide +kernel
theorem dX12_line_49 : decode cX12_line 49 = .ok (.ifCond .ne 28, 3) := by decide +kernel
theorem dX12_line_52 : decode cX12_line 52 = .ok (.iload 4, 2) := by decide +kernel
theorem dX12_line_54 : decode cX12_line 54 = .ok (.iconst (-1), 1) := by decide +kernel
theorem dX12_line_55 : decode cX12_line 55 = .ok (.if_icmp .eq 18, 3) := by decide +kernel
theorem dX12_line_58 : decode cX12_line 58 = .ok (.aload_n 0, 1) := by decide +kernel
theorem dX12_line_59 : decode cX12_line 59 = .ok (.iload 5, 2) := by decide +kernel
theorem dX12_line_61 : decode cX12_line 61 = .ok (.invokevirtual 383, 3) := by decide +kernel
theorem dX12_line_64 : decode cX12_line 64 = .ok (.aload_n 0, 1) := by decide +kernel
theorem dX12_line_65 : decode cX12_line 65 = .ok (.iload 4, 2) := by decide +kernel
theorem dX12_line_67 : decode cX12_line 67 = .ok (.invokevirtual 383, 3) := by decide +kernel
theorem dX12_line_70 : decode cX12_line 70 = .ok (.if_icmp .le 7, 3) := by decide +kernel
theorem dX12_line_73 : decode cX12_line 73 = .ok (.iload 5, 2) := by decide +kernel
theorem dX12_line_75 : decode cX12_line 75 = .ok (.istore 4, 2) := by decide +kernel
theorem dX12_line_77 : decode cX12_line 77 = .ok (.iinc 5 1, 3) := by decide +kernel
theorem dX12_line_80 : decode cX12_line 80 = .ok (.goto (-46), 3) := by decide +kernel
theorem dX12_line_83 : decode cX12_line 83 = .ok (.iload_n 2, 1) := by decide +kernel
theorem dX12_line_84 : decode cX12_line 84 = .ok (.iconst 1, 1) := by decide +kernel
theorem dX12_line_85 : decode cX12_line 85 = .ok (.iload 4, 2) := by decide +kernel
theorem dX12_line_87 : decode cX12_line 87 = .ok (.ishl, 1) := by decide +kernel
theorem dX12_line_88 : decode cX12_line 88 = .ok (.ior, 1) := by decide +kernel
theorem dX12_line_89 : decode cX12_line 89 = .ok (.istore_n 2, 1) := by decide +kernel
theorem dX12_line_90 : decode cX12_line 90 = .ok (.bipush 10, 2) := by decide +kernel
theorem dX12_line_92 : decode cX12_line 92 = .ok (.iload_n 1, 1) := by decide +kernel
theorem dX12_line_93 : decode cX12_line 93 = .ok (.imul, 1) := by decide +kernel
theorem dX12_line_94 : decode cX12_line 94 = .ok (.iload 4, 2) := by decide +kernel
theorem dX12_line_96 : decode cX12_line 96 = .ok (.iadd, 1) := by decide +kernel
theorem dX12_line_97 : decode cX12_line 97 = .ok (.istore_n 1, 1) := by decide +kernel
theorem dX12_line_98 : decode cX12_line 98 = .ok (.iinc 3 1, 3) := by decide +kernel
theorem dX12_line_101 : decode cX12_line 101 = .ok (.goto (-81), 3) := by decide +kernel
theorem dX12_line_104 : decode cX12_line 104 = .ok (.iload_n 1, 1) := by decide +kernel
theorem dX12_line_105 : decode cX12_line 105 = .ok (.ireturn, 1) := by decide +kernel
theorem dX12_image_0 : decode cX12_image 0 = .ok (.aload_n 0, 1) := by decide +kernel
theorem dX12_image_1 : decode cX12_image 1 = .ok (.iconst 0, 1) := by decide +kernel
theorem dX12_image_2 : decode cX12_image 2 = .ok (.putfield 100, 3) := by decide +kernel
theorem dX12_image_5 : decode cX12_image 5 = .ok (.aload_n 0, 1) := by decide +kernel
theorem dX12_image_6 : decode cX12_image 6 = .ok (.getfield 286, 3) := by decide +kernel
theorem dX12_image_9 : decode cX12_image 9 = .ok (.ifCond .ne 5, 3) := by decide +kernel
theorem dX12_image_12 : decode cX12_image 12 = .ok (.iconst (-1), 1) := by decide +kernel
theorem dX12_image_13 : decode cX12_image 13 = .ok (.ireturn, 1) := by decide +kernel
theorem dX12_image_14 : decode cX12_image 14 = .ok (.iconst 0, 1) := by decide +kernel
theorem dX12_image_15 : decode cX12_image 15 = .ok (.istore_n 1, 1) := by decide +kernel
theorem dX12_image_16 : decode cX12_image 16 = .ok (.iload_n 1, 1) := by decide +kernel
theorem dX12_image_17 : decode cX12_image 17 = .ok (.sipush 533, 3) := by decide +kernel
theorem dX12_image_20 : decode cX12_image 20 = .ok (.if_icmp .ge 21, 3) := by decide +kernel
theorem dX12_image_23 : decode cX12_image 23 = .ok (.aload_n 0, 1) := by decide +kernel
theorem dX12_image_24 : decode cX12_image 24 = .ok (.getfield 97, 3) := by decide +kernel
theorem dX12_image_27 : decode cX12_image 27 = .ok (.iload_n 1, 1) := by decide +kernel
theorem dX12_image_28 : decode cX12_image 28 = .ok (.aload_n 0, 1) := by decide +kernel
theorem dX12_image_29 : decode cX12_image 29 = .ok (.getfield 55, 3) := by decide +kernel
theorem dX12_image_32 : decode cX12_image 32 = .ok (.iload_n 1, 1) := by decide +kernel
theorem dX12_image_33 : decode cX12_image 33 = .ok (.iaload, 1) := by decide +kernel
theorem dX12_image_34 : decode cX12_image 34 = .ok (.iastore, 1) := by decide +kernel
theorem dX12_image_35 : decode cX12_image 35 = .ok (.iinc 1 1, 3) := by decide +kernel
theorem dX12_image_38 : decode cX12_image 38 = .ok (.goto (-22), 3) := by decide +kernel
theorem dX12_image_41 : decode cX12_image 41 = .ok (.aload_n 0, 1) := by decide +kernel
theorem dX12_image_42 : decode cX12_image 42 = .ok (.iconst 1, 1) := by decide +kernel
theorem dX12_image_43 : decode cX12_image 43 = .ok (.putfield 295, 3) := by decide +kernel
theorem dX12_image_46 : decode cX12_image 46 = .ok (.aload_n 0, 1) := by decide +kernel
theorem dX12_image_47 : decode cX12_image 47 = .ok (.getfield 55, 3) := by decide +kernel
theorem dX12_image_50 : decode cX12_image 50 = .ok (.bipush 48, 2) := by decide +kernel
theorem dX12_image_52 : decode cX12_image 52 = .ok (.iaload, 1) := by decide +kernel
theorem dX12_image_53 : decode cX12_image 53 = .ok (.ireturn, 1) := by decide +kernel
theorem dX12_back_0 : decode cX12_back 0 = .ok (.aload_n 0, 1) := by decide +kernel
theorem dX12_back_1 : decode cX12_back 1 = .ok (.iconst 0, 1) := by decide +kernel
theorem dX12_back_2 : decode cX12_back 2 = .ok (.putfield 100, 3) := by decide +kernel
theorem dX12_back_5 : decode cX12_back 5 = .ok (.aload_n 0, 1) := by decide +kernel
theorem dX12_back_6 : decode cX12_back 6 = .ok (.getfield 295, 3) := by decide +kernel
theorem dX12_back_9 : decode cX12_back 9 = .ok (.ifCond .ne 5, 3) := by decide +kernel
theorem dX12_back_12 : decode cX12_back 12 = .ok (.iconst (-1), 1) := by decide +kernel
theorem dX12_back_13 : decode cX12_back 13 = .ok (.ireturn, 1) := by decide +kernel
theorem dX12_back_14 : decode cX12_back 14 = .ok (.iconst 0, 1) := by decide +kernel
theorem dX12_back_15 : decode cX12_back 15 = .ok (.istore_n 1, 1) := by decide +kernel
theorem dX12_back_16 : decode cX12_back 16 = .ok (.iload_n 1, 1) := by decide +kernel
theorem dX12_back_17 : decode cX12_back 17 = .ok (.sipush 533, 3) := by decide +kernel
theorem dX12_back_20 : decode cX12_back 20 = .ok (.if_icmp .ge 21, 3) := by decide +kernel
theorem dX12_back_23 : decode cX12_back 23 = .ok (.aload_n 0, 1) := by decide +kernel
theorem dX12_back_24 : decode cX12_back 24 = .ok (.getfield 55, 3) := by decide +kernel
theorem dX12_back_27 : decode cX12_back 27 = .ok (.iload_n 1, 1) := by decide +kernel
theorem dX12_back_28 : decode cX12_back 28 = .ok (.aload_n 0, 1) := by decide +kernel
theorem dX12_back_29 : decode cX12_back 29 = .ok (.getfield 97, 3) := by decide +kernel
theorem dX12_back_32 : decode cX12_back 32 = .ok (.iload_n 1, 1) := by decide +kernel
theorem dX12_back_33 : decode cX12_back 33 = .ok (.iaload, 1) := by decide +kernel
theorem dX12_back_34 : decode cX12_back 34 = .ok (.iastore, 1) := by decide +kernel
theorem dX12_back_35 : decode cX12_back 35 = .ok (.iinc 1 1, 3) := by decide +kernel
theorem dX12_back_38 : decode cX12_back 38 = .ok (.goto (-22), 3) := by decide +kernel
theorem dX12_back_41 : decode cX12_back 41 = .ok (.aload_n 0, 1) := by decide +kernel
theorem dX12_back_42 : decode cX12_back 42 = .ok (.iconst 0, 1) := by decide +kernel
theorem dX12_back_43 : decode cX12_back 43 = .ok (.putfield 292, 3) := by decide +kernel
theorem dX12_back_46 : decode cX12_back 46 = .ok (.aload_n 0, 1) := by decide +kernel
theorem dX12_back_47 : decode cX12_back 47 = .ok (.getfield 55, 3) := by decide +kernel
theorem dX12_back_50 : decode cX12_back 50 = .ok (.bipush 48, 2) := by decide +kernel
theorem dX12_back_52 : decode cX12_back 52 = .ok (.iaload, 1) := by decide +kernel
theorem dX12_back_53 : decode cX12_back 53 = .ok (.ireturn, 1) := by decide +kernel
theorem dX12_count_0 : decode cX12_count 0 = .ok (.aload_n 0, 1) := by decide +kernel
theorem dX12_count_1 : decode cX12_count 1 = .ok (.iconst 0, 1) := by decide +kernel
theorem dX12_count_2 : decode cX12_count 2 = .ok (.putfield 100, 3) := by decide +kernel
theorem dX12_count_5 : decode cX12_count 5 = .ok (.iload_n 1, 1) := by decide +kernel
theorem dX12_count_6 : decode cX12_count 6 = .ok (.tableswitch 156 0 13 #[70, 75, 80, 85, 90, 95, 100, 108, 116, 124, 129, 134, 142, 151], 70) := by decide +kernel
theorem dX12_count_76 : decode cX12_count 76 = .ok (.aload_n 0, 1) := by decide +kernel
theorem dX12_count_77 : decode cX12_count 77 = .ok (.getfield 286, 3) := by decide +kernel
theorem dX12_count_80 : decode cX12_count 80 = .ok (.ireturn, 1) := by decide +kernel
theorem dX12_count_81 : decode cX12_count 81 = .ok (.aload_n 0, 1) := by decide +kernel
theorem dX12_count_82 : decode cX12_count 82 = .ok (.getfield 278, 3) := by decide +kernel
theorem dX12_count_85 : decode cX12_count 85 = .ok (.ireturn, 1) := by decide +kernel
theorem dX12_count_86 : decode cX12_count 86 = .ok (.aload_n 0, 1) := by decide +kernel
theorem dX12_count_87 : decode cX12_count 87 = .ok (.getfield 281, 3) := by decide +kernel
theorem dX12_count_90 : decode cX12_count 90 = .ok (.ireturn, 1) := by decide +kernel
theorem dX12_count_91 : decode cX12_count 91 = .ok (.aload_n 0, 1) := by decide +kernel
theorem dX12_count_92 : decode cX12_count 92 = .ok (.getfield 113, 3) := by decide +kernel
theorem dX12_count_95 : decode cX12_count 95 = .ok (.ireturn, 1) := by decide +kernel
theorem dX12_count_96 : decode cX12_count 96 = .ok (.aload_n 0, 1) := by decide +kernel
theorem dX12_count_97 : decode cX12_count 97 = .ok (.getfield 58, 3) := by decide +kernel
theorem dX12_count_100 : decode cX12_count 100 = .ok (.ireturn, 1) := by decide +kernel
theorem dX12_count_101 : decode cX12_count 101 = .ok (.aload_n 0, 1) := by decide +kernel
theorem dX12_count_102 : decode cX12_count 102 = .ok (.getfield 62, 3) := by decide +kernel
theorem dX12_count_105 : decode cX12_count 105 = .ok (.ireturn, 1) := by decide +kernel
theorem dX12_count_106 : decode cX12_count 106 = .ok (.aload_n 0, 1) := by decide +kernel
theorem dX12_count_107 : decode cX12_count 107 = .ok (.getfield 55, 3) := by decide +kernel
theorem dX12_count_110 : decode cX12_count 110 = .ok (.bipush 48, 2) := by decide +kernel
theorem dX12_count_112 : decode cX12_count 112 = .ok (.iaload, 1) := by decide +kernel
theorem dX12_count_113 : decode cX12_count 113 = .ok (.ireturn, 1) := by decide +kernel
theorem dX12_count_114 : decode cX12_count 114 = .ok (.aload_n 0, 1) := by decide +kernel
theorem dX12_count_115 : decode cX12_count 115 = .ok (.getfield 55, 3) := by decide +kernel
theorem dX12_count_118 : decode cX12_count 118 = .ok (.bipush 49, 2) := by decide +kernel
theorem dX12_count_120 : decode cX12_count 120 = .ok (.iaload, 1) := by decide +kernel
theorem dX12_count_121 : decode cX12_count 121 = .ok (.ireturn, 1) := by decide +kernel
theorem dX12_count_122 : decode cX12_count 122 = .ok (.aload_n 0, 1) := by decide +kernel
theorem dX12_count_123 : decode cX12_count 123 = .ok (.getfield 55, 3) := by decide +kernel
theorem dX12_count_126 : decode cX12_count 126 = .ok (.bipush 50, 2) := by decide +kernel
theorem dX12_count_128 : decode cX12_count 128 = .ok (.iaload, 1) := by decide +kernel
theorem dX12_count_129 : decode cX12_count 129 = .ok (.ireturn, 1) := by decide +kernel
theorem dX12_count_130 : decode cX12_count 130 = .ok (.aload_n 0, 1) := by decide +kernel
theorem dX12_count_131 : decode cX12_count 131 = .ok (.getfield 363, 3) := by decide +kernel
theorem dX12_count_134 : decode cX12_count 134 = .ok (.ireturn, 1) := by decide +kernel
theorem dX12_count_135 : decode cX12_count 135 = .ok (.aload_n 0, 1) := by decide +kernel
theorem dX12_count_136 : decode cX12_count 136 = .ok (.getfield 289, 3) := by decide +kernel
theorem dX12_count_139 : decode cX12_count 139 = .ok (.ireturn, 1) := by decide +kernel
theorem dX12_count_140 : decode cX12_count 140 = .ok (.aload_n 0, 1) := by decide +kernel
theorem dX12_count_141 : decode cX12_count 141 = .ok (.getfield 55, 3) := by decide +kernel
theorem dX12_count_144 : decode cX12_count 144 = .ok (.bipush 51, 2) := by decide +kernel
theorem dX12_count_146 : decode cX12_count 146 = .ok (.iaload, 1) := by decide +kernel
theorem dX12_count_147 : decode cX12_count 147 = .ok (.ireturn, 1) := by decide +kernel
theorem dX12_count_148 : decode cX12_count 148 = .ok (.aload_n 0, 1) := by decide +kernel
theorem dX12_count_149 : decode cX12_count 149 = .ok (.getfield 55, 3) := by decide +kernel
theorem dX12_count_152 : decode cX12_count 152 = .ok (.sipush 352, 3) := by decide +kernel
theorem dX12_count_155 : decode cX12_count 155 = .ok (.iaload, 1) := by decide +kernel
theorem dX12_count_156 : decode cX12_count 156 = .ok (.ireturn, 1) := by decide +kernel
theorem dX12_count_157 : decode cX12_count 157 = .ok (.aload_n 0, 1) := by decide +kernel
theorem dX12_count_158 : decode cX12_count 158 = .ok (.getfield 292, 3) := by decide +kernel
theorem dX12_count_161 : decode cX12_count 161 = .ok (.ireturn, 1) := by decide +kernel
theorem dX12_count_162 : decode cX12_count 162 = .ok (.ldc_w 360, 3) := by decide +kernel
theorem dX12_count_165 : decode cX12_count 165 = .ok (.ireturn, 1) := by decide +kernel
