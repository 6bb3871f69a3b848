theorem dX10_hasRoom_0 : decode cX10_hasRoom 0 = .ok (.aload_n 0, 1) := by decide +kernel
theorem dX10_hasRoom_1 : decode cX10_hasRoom 1 = .ok (.getfield 15, 3) := by decide +kernel
theorem dX10_hasRoom_4 : decode cX10_hasRoom 4 = .ok (.bipush 20, 2) := by decide +kernel
theorem dX10_hasRoom_6 : decode cX10_hasRoom 6 = .ok (.iadd, 1) := by decide +kernel
theorem dX10_hasRoom_7 : decode cX10_hasRoom 7 = .ok (.sipush 400, 3) := by decide +kernel
theorem dX10_hasRoom_10 : decode cX10_hasRoom 10 = .ok (.if_icmp .gt 7, 3) := by decide +kernel
theorem dX10_hasRoom_13 : decode cX10_hasRoom 13 = .ok (.iconst 1, 1) := by decide +kernel
theorem dX10_hasRoom_14 : decode cX10_hasRoom 14 = .ok (.goto 4, 3) := by decide +kernel
theorem dX10_hasRoom_18 : decode cX10_hasRoom 18 = .ok (.ireturn, 1) := by decide +kernel
theorem dX10_put_0 : decode cX10_put 0 = .ok (.bipush 24, 2) := by decide +kernel
theorem dX10_put_2 : decode cX10_put 2 = .ok (.istore_n 2, 1) := by decide +kernel
theorem dX10_put_3 : decode cX10_put 3 = .ok (.iload_n 2, 1) := by decide +kernel
theorem dX10_put_4 : decode cX10_put 4 = .ok (.ifCond .lt 42, 3) := by decide +kernel
theorem dX10_put_7 : decode cX10_put 7 = .ok (.aload_n 0, 1) := by decide +kernel
theorem dX10_put_8 : decode cX10_put 8 = .ok (.getfield 15, 3) := by decide +kernel
theorem dX10_put_11 : decode cX10_put 11 = .ok (.sipush 400, 3) := by decide +kernel
theorem dX10_put_14 : decode cX10_put 14 = .ok (.if_icmp .ge 26, 3) := by decide +kernel
theorem dX10_put_17 : decode cX10_put 17 = .ok (.aload_n 0, 1) := by decide +kernel
theorem dX10_put_18 : decode cX10_put 18 = .ok (.getfield 11, 3) := by decide +kernel
theorem dX10_put_21 : decode cX10_put 21 = .ok (.aload_n 0, 1) := by decide +kernel
theorem dX10_put_22 : decode cX10_put 22 = .ok (.getfield 15, 3) := by decide +kernel
theorem dX10_put_25 : decode cX10_put 25 = .ok (.iload_n 1, 1) := by decide +kernel
theorem dX10_put_26 : decode cX10_put 26 = .ok (.iload_n 2, 1) := by decide +kernel
theorem dX10_put_27 : decode cX10_put 27 = .ok (.iushr, 1) := by decide +kernel
theorem dX10_put_28 : decode cX10_put 28 = .ok (.i2b, 1) := by decide +kernel
theorem dX10_put_29 : decode cX10_put 29 = .ok (.bastore, 1) := by decide +kernel
theorem dX10_put_30 : decode cX10_put 30 = .ok (.aload_n 0, 1) := by decide +kernel
theorem dX10_put_31 : decode cX10_put 31 = .ok (.dup, 1) := by decide +kernel
theorem dX10_put_32 : decode cX10_put 32 = .ok (.getfield 15, 3) := by decide +kernel
theorem dX10_put_35 : decode cX10_put 35 = .ok (.iconst 1, 1) := by decide +kernel
theorem dX10_put_36 : decode cX10_put 36 = .ok (.iadd, 1) := by decide +kernel
theorem dX10_put_37 : decode cX10_put 37 = .ok (.putfield 15, 3) := by decide +kernel
theorem dX10_put_40 : decode cX10_put 40 = .ok (.iinc 2 (-8), 3) := by decide +kernel
theorem dX10_put_43 : decode cX10_put 43 = .ok (.goto (-40), 3) := by decide +kernel
theorem dX10_put_46 : decode cX10_put 46 = .ok (.return_, 1) := by decide +kernel
theorem dX11_ahead_0 : decode cX11_ahead 0 = .ok (.aload_n 0, 1) := by decide +kernel
theorem dX11_ahead_1 : decode cX11_ahead 1 = .ok (.iload_n 1, 1) := by decide +kernel
theorem dX11_ahead_2 : decode cX11_ahead 2 = .ok (.invokevirtual 141, 3) := by decide +kernel
theorem dX11_ahead_5 : decode cX11_ahead 5 = .ok (.ifCond .eq 22, 3) := by decide +kernel
theorem dX11_ahead_27 : decode cX11_ahead 27 = .ok (.iconst (-1), 1) := by decide +kernel
theorem dX11_ahead_28 : decode cX11_ahead 28 = .ok (.ireturn, 1) := by decide +kernel
theorem dX11_back_0 : decode cX11_back 0 = .ok (.iload_n 1, 1) := by decide +kernel
theorem dX11_back_1 : decode cX11_back 1 = .ok (.iconst 0, 1) := by decide +kernel
theorem dX11_back_2 : decode cX11_back 2 = .ok (.iconst 3, 1) := by decide +kernel
theorem dX11_back_3 : decode cX11_back 3 = .ok (.invokestatic 222, 3) := by decide +kernel
theorem dX11_back_6 : decode cX11_back 6 = .ok (.ifCond .eq 15, 3) := by decide +kernel
theorem dX11_back_21 : decode cX11_back 21 = .ok (.iconst (-1), 1) := by decide +kernel
theorem dX11_back_22 : decode cX11_back 22 = .ok (.ireturn, 1) := by decide +kernel
theorem dX11_carves_0 : decode cX11_carves 0 = .ok (.aload_n 0, 1) := by decide +kernel
theorem dX11_carves_1 : decode cX11_carves 1 = .ok (.getfield 39, 3) := by decide +kernel
theorem dX11_carves_4 : decode cX11_carves 4 = .ok (.getfield 112, 3) := by decide +kernel
theorem dX11_carves_7 : decode cX11_carves 7 = .ok (.getfield 195, 3) := by decide +kernel
theorem dX11_carves_10 : decode cX11_carves 10 = .ok (.ifCond .eq 22, 3) := by decide +kernel
theorem dX11_carves_32 : decode cX11_carves 32 = .ok (.iconst (-1), 1) := by decide +kernel
theorem dX11_carves_33 : decode cX11_carves 33 = .ok (.ireturn, 1) := by decide +kernel
theorem dX11_count_0 : decode cX11_count 0 = .ok (.iload_n 1, 1) := by decide +kernel
theorem dX11_count_1 : decode cX11_count 1 = .ok (.tableswitch 231 0 13 #[71, 82, 93, 104, 115, 120, 128, 139, 157, 178, 199, 207, 215, 223], 71) := by decide +kernel
theorem dX11_count_72 : decode cX11_count 72 = .ok (.aload_n 0, 1) := by decide +kernel
theorem dX11_count_73 : decode cX11_count 73 = .ok (.getfield 39, 3) := by decide +kernel
theorem dX11_count_76 : decode cX11_count 76 = .ok (.getfield 112, 3) := by decide +kernel
theorem dX11_count_79 : decode cX11_count 79 = .ok (.getfield 168, 3) := by decide +kernel
theorem dX11_count_82 : decode cX11_count 82 = .ok (.ireturn, 1) := by decide +kernel
theorem dX11_count_83 : decode cX11_count 83 = .ok (.aload_n 0, 1) := by decide +kernel
theorem dX11_count_84 : decode cX11_count 84 = .ok (.getfield 39, 3) := by decide +kernel
theorem dX11_count_87 : decode cX11_count 87 = .ok (.getfield 112, 3) := by decide +kernel
theorem dX11_count_90 : decode cX11_count 90 = .ok (.getfield 171, 3) := by decide +kernel
theorem dX11_count_93 : decode cX11_count 93 = .ok (.ireturn, 1) := by decide +kernel
theorem dX11_count_94 : decode cX11_count 94 = .ok (.aload_n 0, 1) := by decide +kernel
theorem dX11_count_95 : decode cX11_count 95 = .ok (.getfield 39, 3) := by decide +kernel
theorem dX11_count_98 : decode cX11_count 98 = .ok (.getfield 112, 3) := by decide +kernel
theorem dX11_count_101 : decode cX11_count 101 = .ok (.getfield 128, 3) := by decide +kernel
theorem dX11_count_104 : decode cX11_count 104 = .ok (.ireturn, 1) := by decide +kernel
theorem dX11_count_105 : decode cX11_count 105 = .ok (.aload_n 0, 1) := by decide +kernel
theorem dX11_count_106 : decode cX11_count 106 = .ok (.getfield 39, 3) := by decide +kernel
theorem dX11_count_109 : decode cX11_count 109 = .ok (.getfield 112, 3) := by decide +kernel
theorem dX11_count_112 : decode cX11_count 112 = .ok (.getfield 174, 3) := by decide +kernel
theorem dX11_count_115 : decode cX11_count 115 = .ok (.ireturn, 1) := by decide +kernel
theorem dX11_count_116 : decode cX11_count 116 = .ok (.aload_n 0, 1) := by decide +kernel
theorem dX11_count_117 : decode cX11_count 117 = .ok (.getfield 131, 3) := by decide +kernel
theorem dX11_count_120 : decode cX11_count 120 = .ok (.ireturn, 1) := by decide +kernel
theorem dX11_count_121 : decode cX11_count 121 = .ok (.aload_n 0, 1) := by decide +kernel
theorem dX11_count_122 : decode cX11_count 122 = .ok (.getfield 39, 3) := by decide +kernel
theorem dX11_count_125 : decode cX11_count 125 = .ok (.getfield 138, 3) := by decide +kernel
theorem dX11_count_128 : decode cX11_count 128 = .ok (.ireturn, 1) := by decide +kernel
theorem dX11_count_129 : decode cX11_count 129 = .ok (.aload_n 0, 1) := by decide +kernel
theorem dX11_count_130 : decode cX11_count 130 = .ok (.getfield 39, 3) := by decide +kernel
theorem dX11_count_133 : decode cX11_count 133 = .ok (.getfield 115, 3) := by decide +kernel
theorem dX11_count_136 : decode cX11_count 136 = .ok (.getfield 177, 3) := by decide +kernel
theorem dX11_count_139 : decode cX11_count 139 = .ok (.ireturn, 1) := by decide +kernel
theorem dX11_count_140 : decode cX11_count 140 = .ok (.aload_n 0, 1) := by decide +kernel
theorem dX11_count_141 : decode cX11_count 141 = .ok (.getfield 39, 3) := by decide +kernel
theorem dX11_count_144 : decode cX11_count 144 = .ok (.getfield 115, 3) := by decide +kernel
theorem dX11_count_147 : decode cX11_count 147 = .ok (.aload_n 0, 1) := by decide +kernel
theorem dX11_count_148 : decode cX11_count 148 = .ok (.getfield 39, 3) := by decide +kernel
theorem dX11_count_151 : decode cX11_count 151 = .ok (.getfield 112, 3) := by decide +kernel
theorem dX11_count_154 : decode cX11_count 154 = .ok (.invokevirtual 180, 3) := by decide +kernel
theorem dX11_count_157 : decode cX11_count 157 = .ok (.ireturn, 1) := by decide +kernel
theorem dX11_count_158 : decode cX11_count 158 = .ok (.aload_n 0, 1) := by decide +kernel
theorem dX11_count_159 : decode cX11_count 159 = .ok (.getfield 39, 3) := by decide +kernel
theorem dX11_count_162 : decode cX11_count 162 = .ok (.getfield 115, 3) := by decide +kernel
theorem dX11_count_165 : decode cX11_count 165 = .ok (.aload_n 0, 1) := by decide +kernel
theorem dX11_count_166 : decode cX11_count 166 = .ok (.getfield 39, 3) := by decide +kernel
theorem dX11_count_169 : decode cX11_count 169 = .ok (.getfield 112, 3) := by decide +kernel
theorem dX11_count_172 : decode cX11_count 172 = .ok (.getfield 128, 3) := by decide +kernel
theorem dX11_count_175 : decode cX11_count 175 = .ok (.invokevirtual 184, 3) := by decide +kernel
theorem dX11_count_178 : decode cX11_count 178 = .ok (.ireturn, 1) := by decide +kernel
theorem dX11_count_179 : decode cX11_count 179 = .ok (.aload_n 0, 1) := by decide +kernel
theorem dX11_count_180 : decode cX11_count 180 = .ok (.getfield 39, 3) := by decide +kernel
theorem dX11_count_183 : decode cX11_count 183 = .ok (.getfield 115, 3) := by decide +kernel
theorem dX11_count_186 : decode cX11_count 186 = .ok (.aload_n 0, 1) := by decide +kernel
theorem dX11_count_187 : decode cX11_count 187 = .ok (.getfield 39, 3) := by decide +kernel
theorem dX11_count_190 : decode cX11_count 190 = .ok (.getfield 112, 3) := by decide +kernel
theorem dX11_count_193 : decode cX11_count 193 = .ok (.getfield 128, 3) := by decide +kernel
theorem dX11_count_196 : decode cX11_count 196 = .ok (.invokevirtual 188, 3) := by decide +kernel
theorem dX11_count_199 : decode cX11_count 199 = .ok (.ireturn, 1) := by decide +kernel
theorem dX11_count_200 : decode cX11_count 200 = .ok (.aload_n 0, 1) := by decide +kernel
theorem dX11_count_201 : decode cX11_count 201 = .ok (.getfield 39, 3) := by decide +kernel
theorem dX11_count_204 : decode cX11_count 204 = .ok (.getfield 122, 3) := by decide +kernel
theorem dX11_count_207 : decode cX11_count 207 = .ok (.ireturn, 1) := by decide +kernel
theorem dX11_count_208 : decode cX11_count 208 = .ok (.aload_n 0, 1) := by decide +kernel
theorem dX11_count_209 : decode cX11_count 209 = .ok (.getfield 50, 3) := by decide +kernel
theorem dX11_count_212 : decode cX11_count 212 = .ok (.getfield 191, 3) := by decide +kernel
theorem dX11_count_215 : decode cX11_count 215 = .ok (.ireturn, 1) := by decide +kernel
theorem dX11_count_216 : decode cX11_count 216 = .ok (.aload_n 0, 1) := by decide +kernel
theorem dX11_count_217 : decode cX11_count 217 = .ok (.getfield 39, 3) := by decide +kernel
theorem dX11_count_220 : decode cX11_count 220 = .ok (.getfield 192, 3) := by decide +kernel
theorem dX11_count_223 : decode cX11_count 223 = .ok (.ireturn, 1) := by decide +kernel
theorem dX11_count_224 : decode cX11_count 224 = .ok (.aload_n 0, 1) := by decide +kernel
theorem dX11_count_225 : decode cX11_count 225 = .ok (.getfield 10, 3) := by decide +kernel
theorem dX11_count_228 : decode cX11_count 228 = .ok (.getfield 101, 3) := by decide +kernel
theorem dX11_count_231 : decode cX11_count 231 = .ok (.ireturn, 1) := by decide +kernel
theorem dX11_darn_0 : decode cX11_darn 0 = .ok (.aload_n 0, 1) := by decide +kernel
theorem dX11_darn_1 : decode cX11_darn 1 = .ok (.iload_n 1, 1) := by decide +kernel
theorem dX11_darn_2 : decode cX11_darn 2 = .ok (.invokevirtual 141, 3) := by decide +kernel
theorem dX11_darn_5 : decode cX11_darn 5 = .ok (.ifCond .eq 18, 3) := by decide +kernel
theorem dX11_darn_23 : decode cX11_darn 23 = .ok (.iconst (-1), 1) := by decide +kernel
theorem dX11_darn_24 : decode cX11_darn 24 = .ok (.ireturn, 1) := by decide +kernel
theorem dX11_end_0 : decode cX11_end 0 = .ok (.iload_n 1, 1) := by decide +kernel
theorem dX11_end_1 : decode cX11_end 1 = .ok (.ifCond .lt 14, 3) := by decide +kernel
theorem dX11_end_4 : decode cX11_end 4 = .ok (.iload_n 1, 1) := by decide +kernel
theorem dX11_end_5 : decode cX11_end 5 = .ok (.aload_n 0, 1) := by decide +kernel
theorem dX11_end_6 : decode cX11_end 6 = .ok (.getfield 10, 3) := by decide +kernel
theorem dX11_end_9 : decode cX11_end 9 = .ok (.getfield 101, 3) := by decide +kernel
theorem dX11_end_12 : decode cX11_end 12 = .ok (.if_icmp .le 5, 3) := by decide +kernel
theorem dX11_end_15 : decode cX11_end 15 = .ok (.iconst (-1), 1) := by decide +kernel
theorem dX11_end_16 : decode cX11_end 16 = .ok (.ireturn, 1) := by decide +kernel
theorem dX11_end_17 : decode cX11_end 17 = .ok (.aload_n 0, 1) := by decide +kernel
theorem dX11_end_18 : decode cX11_end 18 = .ok (.getfield 10, 3) := by decide +kernel
theorem dX11_end_21 : decode cX11_end 21 = .ok (.iload_n 1, 1) := by decide +kernel
theorem dX11_end_22 : decode cX11_end 22 = .ok (.putfield 101, 3) := by decide +kernel
theorem dX11_end_25 : decode cX11_end 25 = .ok (.iload_n 1, 1) := by decide +kernel
theorem dX11_end_26 : decode cX11_end 26 = .ok (.ireturn, 1) := by decide +kernel
theorem dX11_even_0 : decode cX11_even 0 = .ok (.aload_n 0, 1) := by decide +kernel
theorem dX11_even_1 : decode cX11_even 1 = .ok (.getfield 39, 3) := by decide +kernel
theorem dX11_even_4 : decode cX11_even 4 = .ok (.getfield 112, 3) := by decide +kernel
theorem dX11_even_7 : decode cX11_even 7 = .ok (.getfield 195, 3) := by decide +kernel
theorem dX11_even_10 : decode cX11_even 10 = .ok (.ifCond .ne 5, 3) := by decide +kernel
theorem dX11_even_13 : decode cX11_even 13 = .ok (.iconst (-1), 1) := by decide +kernel
theorem dX11_even_14 : decode cX11_even 14 = .ok (.ireturn, 1) := by decide +kernel
theorem dX11_feed_0 : decode cX11_feed 0 = .ok (.aload_n 0, 1) := by decide +kernel
theorem dX11_feed_1 : decode cX11_feed 1 = .ok (.getfield 10, 3) := by decide +kernel
theorem dX11_feed_4 : decode cX11_feed 4 = .ok (.invokevirtual 93, 3) := by decide +kernel
theorem dX11_feed_7 : decode cX11_feed 7 = .ok (.ifCond .ne 5, 3) := by decide +kernel
theorem dX11_feed_12 : decode cX11_feed 12 = .ok (.aload_n 0, 1) := by decide +kernel
theorem dX11_feed_13 : decode cX11_feed 13 = .ok (.getfield 10, 3) := by decide +kernel
theorem dX11_feed_16 : decode cX11_feed 16 = .ok (.iload_n 1, 1) := by decide +kernel
theorem dX11_feed_17 : decode cX11_feed 17 = .ok (.invokevirtual 97, 3) := by decide +kernel
theorem dX11_feed_20 : decode cX11_feed 20 = .ok (.aload_n 0, 1) := by decide +kernel
theorem dX11_feed_21 : decode cX11_feed 21 = .ok (.getfield 10, 3) := by decide +kernel
theorem dX11_feed_24 : decode cX11_feed 24 = .ok (.iload_n 2, 1) := by decide +kernel
theorem dX11_feed_25 : decode cX11_feed 25 = .ok (.invokevirtual 97, 3) := by decide +kernel
theorem dX11_feed_28 : decode cX11_feed 28 = .ok (.aload_n 0, 1) := by decide +kernel
theorem dX11_feed_29 : decode cX11_feed 29 = .ok (.getfield 10, 3) := by decide +kernel
theorem dX11_feed_32 : decode cX11_feed 32 = .ok (.iload_n 3, 1) := by decide +kernel
theorem dX11_feed_33 : decode cX11_feed 33 = .ok (.invokevirtual 97, 3) := by decide +kernel
theorem dX11_feed_36 : decode cX11_feed 36 = .ok (.aload_n 0, 1) := by decide +kernel
theorem dX11_feed_37 : decode cX11_feed 37 = .ok (.getfield 10, 3) := by decide +kernel
theorem dX11_feed_40 : decode cX11_feed 40 = .ok (.iload 4, 2) := by decide +kernel
theorem dX11_feed_42 : decode cX11_feed 42 = .ok (.invokevirtual 97, 3) := by decide +kernel
theorem dX11_feed_45 : decode cX11_feed 45 = .ok (.aload_n 0, 1) := by decide +kernel
theorem dX11_feed_46 : decode cX11_feed 46 = .ok (.getfield 10, 3) := by decide +kernel
theorem dX11_feed_49 : decode cX11_feed 49 = .ok (.iload 5, 2) := by decide +kernel
theorem dX11_feed_51 : decode cX11_feed 51 = .ok (.invokevirtual 97, 3) := by decide +kernel
theorem dX11_feed_54 : decode cX11_feed 54 = .ok (.aload_n 0, 1) := by decide +kernel
theorem dX11_feed_55 : decode cX11_feed 55 = .ok (.getfield 10, 3) := by decide +kernel
theorem dX11_feed_58 : decode cX11_feed 58 = .ok (.getfield 101, 3) := by decide +kernel
theorem dX11_feed_61 : decode cX11_feed 61 = .ok (.ireturn, 1) := by decide +kernel
theorem dX11_firstOfPairs_0 : decode cX11_firstOfPairs 0 = .ok (.aload_n 0, 1) := by decide +kernel
theorem dX11_firstOfPairs_1 : decode cX11_firstOfPairs 1 = .ok (.getfield 39, 3) := by decide +kernel
theorem dX11_firstOfPairs_4 : decode cX11_firstOfPairs 4 = .ok (.getfield 112, 3) := by decide +kernel
theorem dX11_firstOfPairs_7 : decode cX11_firstOfPairs 7 = .ok (.getfield 195, 3) := by decide +kernel
theorem dX11_firstOfPairs_10 : decode cX11_firstOfPairs 10 = .ok (.ifCond .eq 12, 3) := by decide +kernel
theorem dX11_firstOfPairs_22 : decode cX11_firstOfPairs 22 = .ok (.iconst (-1), 1) := by decide +kernel
theorem dX11_firstOfPairs_23 : decode cX11_firstOfPairs 23 = .ok (.ireturn, 1) := by decide +kernel
theorem dX11_force_0 : decode cX11_force 0 = .ok (.iload_n 1, 1) := by decide +kernel
theorem dX11_force_1 : decode cX11_force 1 = .ok (.iconst (-1), 1) := by decide +kernel
theorem dX11_force_2 : decode cX11_force 2 = .ok (.if_icmp .lt 11, 3) := by decide +kernel
theorem dX11_force_5 : decode cX11_force 5 = .ok (.iload_n 1, 1) := by decide +kernel
theorem dX11_force_6 : decode cX11_force 6 = .ok (.aload_n 0, 1) := by decide +kernel
theorem dX11_force_7 : decode cX11_force 7 = .ok (.getfield 131, 3) := by decide +kernel
theorem dX11_force_10 : decode cX11_force 10 = .ok (.if_icmp .lt 6, 3) := by decide +kernel
theorem dX11_force_13 : decode cX11_force 13 = .ok (.bipush (-2), 2) := by decide +kernel
theorem dX11_force_15 : decode cX11_force 15 = .ok (.ireturn, 1) := by decide +kernel
theorem dX11_force_16 : decode cX11_force 16 = .ok (.aload_n 0, 1) := by decide +kernel
theorem dX11_force_17 : decode cX11_force 17 = .ok (.getfield 39, 3) := by decide +kernel
theorem dX11_force_20 : decode cX11_force 20 = .ok (.getfield 138, 3) := by decide +kernel
theorem dX11_force_23 : decode cX11_force 23 = .ok (.istore_n 2, 1) := by decide +kernel
theorem dX11_force_24 : decode cX11_force 24 = .ok (.aload_n 0, 1) := by decide +kernel
theorem dX11_force_25 : decode cX11_force 25 = .ok (.getfield 39, 3) := by decide +kernel
theorem dX11_force_28 : decode cX11_force 28 = .ok (.iload_n 1, 1) := by decide +kernel
theorem dX11_force_29 : decode cX11_force 29 = .ok (.putfield 138, 3) := by decide +kernel
theorem dX11_force_32 : decode cX11_force 32 = .ok (.iload_n 2, 1) := by decide +kernel
theorem dX11_force_33 : decode cX11_force 33 = .ok (.ireturn, 1) := by decide +kernel
theorem dX11_game_0 : decode cX11_game 0 = .ok (.aload_n 0, 1) := by decide +kernel
theorem dX11_game_1 : decode cX11_game 1 = .ok (.iload_n 1, 1) := by decide +kernel
theorem dX11_game_2 : decode cX11_game 2 = .ok (.invokevirtual 141, 3) := by decide +kernel
theorem dX11_game_5 : decode cX11_game 5 = .ok (.ifCond .eq 35, 3) := by decide +kernel
theorem dX11_game_40 : decode cX11_game 40 = .ok (.sipush (-1000), 3) := by decide +kernel
theorem dX11_game_43 : decode cX11_game 43 = .ok (.ireturn, 1) := by decide +kernel
theorem dX11_home_0 : decode cX11_home 0 = .ok (.aload_n 0, 1) := by decide +kernel
theorem dX11_home_1 : decode cX11_home 1 = .ok (.getfield 39, 3) := by decide +kernel
theorem dX11_home_4 : decode cX11_home 4 = .ok (.getfield 112, 3) := by decide +kernel
theorem dX11_home_7 : decode cX11_home 7 = .ok (.getfield 195, 3) := by decide +kernel
theorem dX11_home_10 : decode cX11_home 10 = .ok (.ifCond .ne 5, 3) := by decide +kernel
theorem dX11_home_13 : decode cX11_home 13 = .ok (.iconst (-1), 1) := by decide +kernel
theorem dX11_home_14 : decode cX11_home 14 = .ok (.ireturn, 1) := by decide +kernel
theorem dX11_image_0 : decode cX11_image 0 = .ok (.iload_n 1, 1) := by decide +kernel
theorem dX11_image_1 : decode cX11_image 1 = .ok (.iconst 0, 1) := by decide +kernel
theorem dX11_image_2 : decode cX11_image 2 = .ok (.iconst 3, 1) := by decide +kernel
theorem dX11_image_3 : decode cX11_image 3 = .ok (.invokestatic 222, 3) := by decide +kernel
theorem dX11_image_6 : decode cX11_image 6 = .ok (.ifCond .ne 5, 3) := by decide +kernel
theorem dX11_image_9 : decode cX11_image 9 = .ok (.iconst (-1), 1) := by decide +kernel
theorem dX11_image_10 : decode cX11_image 10 = .ok (.ireturn, 1) := by decide +kernel
theorem dX11_isLodger_0 : decode cX11_isLodger 0 = .ok (.iload_n 1, 1) := by decide +kernel
theorem dX11_isLodger_1 : decode cX11_isLodger 1 = .ok (.ifCond .lt 21, 3) := by decide +kernel
theorem dX11_isLodger_4 : decode cX11_isLodger 4 = .ok (.iload_n 1, 1) := by decide +kernel
theorem dX11_isLodger_5 : decode cX11_isLodger 5 = .ok (.aload_n 0, 1) := by decide +kernel
theorem dX11_isLodger_6 : decode cX11_isLodger 6 = .ok (.getfield 39, 3) := by decide +kernel
theorem dX11_isLodger_9 : decode cX11_isLodger 9 = .ok (.getfield 112, 3) := by decide +kernel
theorem dX11_isLodger_12 : decode cX11_isLodger 12 = .ok (.getfield 128, 3) := by decide +kernel
theorem dX11_isLodger_15 : decode cX11_isLodger 15 = .ok (.if_icmp .ge 7, 3) := by decide +kernel
theorem dX11_isLodger_22 : decode cX11_isLodger 22 = .ok (.iconst 0, 1) := by decide +kernel
theorem dX11_isLodger_23 : decode cX11_isLodger 23 = .ok (.ireturn, 1) := by decide +kernel
theorem dX11_isWithin_0 : decode cX11_isWithin 0 = .ok (.iload_n 0, 1) := by decide +kernel
theorem dX11_isWithin_1 : decode cX11_isWithin 1 = .ok (.iload_n 1, 1) := by decide +kernel
theorem dX11_isWithin_2 : decode cX11_isWithin 2 = .ok (.if_icmp .lt 12, 3) := by decide +kernel
theorem dX11_isWithin_5 : decode cX11_isWithin 5 = .ok (.iload_n 0, 1) := by decide +kernel
theorem dX11_isWithin_6 : decode cX11_isWithin 6 = .ok (.iload_n 2, 1) := by decide +kernel
theorem dX11_isWithin_7 : decode cX11_isWithin 7 = .ok (.if_icmp .gt 7, 3) := by decide +kernel
theorem dX11_isWithin_10 : decode cX11_isWithin 10 = .ok (.iconst 1, 1) := by decide +kernel
theorem dX11_isWithin_11 : decode cX11_isWithin 11 = .ok (.goto 4, 3) := by decide +kernel
theorem dX11_isWithin_14 : decode cX11_isWithin 14 = .ok (.iconst 0, 1) := by decide +kernel
theorem dX11_isWithin_15 : decode cX11_isWithin 15 = .ok (.ireturn, 1) := by decide +kernel
theorem dX11_laundries_0 : decode cX11_laundries 0 = .ok (.aload_n 0, 1) := by decide +kernel
theorem dX11_laundries_1 : decode cX11_laundries 1 = .ok (.getfield 39, 3) := by decide +kernel
theorem dX11_laundries_4 : decode cX11_laundries 4 = .ok (.getfield 112, 3) := by decide +kernel
theorem dX11_laundries_7 : decode cX11_laundries 7 = .ok (.getfield 195, 3) := by decide +kernel
theorem dX11_laundries_10 : decode cX11_laundries 10 = .ok (.ifCond .eq 43, 3) := by decide +kernel
theorem dX11_laundries_53 : decode cX11_laundries 53 = .ok (.iconst (-1), 1) := by decide +kernel
theorem dX11_laundries_54 : decode cX11_laundries 54 = .ok (.ireturn, 1) := by decide +kernel
theorem dX11_lets_0 : decode cX11_lets 0 = .ok (.aload_n 0, 1) := by decide +kernel
theorem dX11_lets_1 : decode cX11_lets 1 = .ok (.getfield 39, 3) := by decide +kernel
theorem dX11_lets_4 : decode cX11_lets 4 = .ok (.getfield 112, 3) := by decide +kernel
theorem dX11_lets_7 : decode cX11_lets 7 = .ok (.getfield 195, 3) := by decide +kernel
theorem dX11_lets_10 : decode cX11_lets 10 = .ok (.ifCond .eq 13, 3) := by decide +kernel
theorem dX11_lets_23 : decode cX11_lets 23 = .ok (.iconst (-1), 1) := by decide +kernel
theorem dX11_lets_24 : decode cX11_lets 24 = .ok (.ireturn, 1) := by decide +kernel
theorem dX11_lock_0 : decode cX11_lock 0 = .ok (.aload_n 0, 1) := by decide +kernel
theorem dX11_lock_1 : decode cX11_lock 1 = .ok (.getfield 39, 3) := by decide +kernel
theorem dX11_lock_4 : decode cX11_lock 4 = .ok (.getfield 112, 3) := by decide +kernel
theorem dX11_lock_7 : decode cX11_lock 7 = .ok (.getfield 195, 3) := by decide +kernel
theorem dX11_lock_10 : decode cX11_lock 10 = .ok (.ifCond .eq 22, 3) := by decide +kernel
theorem dX11_lock_32 : decode cX11_lock 32 = .ok (.bipush (-2), 2) := by decide +kernel
theorem dX11_lock_34 : decode cX11_lock 34 = .ok (.ireturn, 1) := by decide +kernel
theorem dX11_lodger_0 : decode cX11_lodger 0 = .ok (.aload_n 0, 1) := by decide +kernel
theorem dX11_lodger_1 : decode cX11_lodger 1 = .ok (.iload_n 1, 1) := by decide +kernel
theorem dX11_lodger_2 : decode cX11_lodger 2 = .ok (.invokevirtual 141, 3) := by decide +kernel
theorem dX11_lodger_5 : decode cX11_lodger 5 = .ok (.ifCond .ne 5, 3) := by decide +kernel
theorem dX11_lodger_8 : decode cX11_lodger 8 = .ok (.iconst (-1), 1) := by decide +kernel
theorem dX11_lodger_9 : decode cX11_lodger 9 = .ok (.ireturn, 1) := by decide +kernel
theorem dX11_look_0 : decode cX11_look 0 = .ok (.aload_n 0, 1) := by decide +kernel
theorem dX11_look_1 : decode cX11_look 1 = .ok (.getfield 39, 3) := by decide +kernel
theorem dX11_look_4 : decode cX11_look 4 = .ok (.getfield 112, 3) := by decide +kernel
theorem dX11_look_7 : decode cX11_look 7 = .ok (.getfield 195, 3) := by decide +kernel
theorem dX11_look_10 : decode cX11_look 10 = .ok (.ifCond .eq 22, 3) := by decide +kernel
theorem dX11_look_32 : decode cX11_look 32 = .ok (.iconst (-1), 1) := by decide +kernel
theorem dX11_look_33 : decode cX11_look 33 = .ok (.ireturn, 1) := by decide +kernel
theorem dX11_most_0 : decode cX11_most 0 = .ok (.aload_n 0, 1) := by decide +kernel
theorem dX11_most_1 : decode cX11_most 1 = .ok (.getfield 39, 3) := by decide +kernel
theorem dX11_most_4 : decode cX11_most 4 = .ok (.getfield 112, 3) := by decide +kernel
theorem dX11_most_7 : decode cX11_most 7 = .ok (.getfield 195, 3) := by decide +kernel
theorem dX11_most_10 : decode cX11_most 10 = .ok (.ifCond .eq 13, 3) := by decide +kernel
theorem dX11_most_23 : decode cX11_most 23 = .ok (.bipush (-3), 2) := by decide +kernel
theorem dX11_most_25 : decode cX11_most 25 = .ok (.ireturn, 1) := by decide +kernel
theorem dX11_nearer_0 : decode cX11_nearer 0 = .ok (.aload_n 0, 1) := by decide +kernel
theorem dX11_nearer_1 : decode cX11_nearer 1 = .ok (.iload_n 1, 1) := by decide +kernel
theorem dX11_nearer_2 : decode cX11_nearer 2 = .ok (.iconst 0, 1) := by decide +kernel
theorem dX11_nearer_3 : decode cX11_nearer 3 = .ok (.invokevirtual 249, 3) := by decide +kernel
theorem dX11_nearer_6 : decode cX11_nearer 6 = .ok (.ireturn, 1) := by decide +kernel
theorem dX11_note_0 : decode cX11_note 0 = .ok (.iload_n 1, 1) := by decide +kernel
theorem dX11_note_1 : decode cX11_note 1 = .ok (.iconst (-1), 1) := by decide +kernel
theorem dX11_note_2 : decode cX11_note 2 = .ok (.if_icmp .ne 13, 3) := by decide +kernel
theorem dX11_note_5 : decode cX11_note 5 = .ok (.aload_n 0, 1) := by decide +kernel
theorem dX11_note_6 : decode cX11_note 6 = .ok (.getfield 39, 3) := by decide +kernel
theorem dX11_note_9 : decode cX11_note 9 = .ok (.iconst 0, 1) := by decide +kernel
theorem dX11_note_10 : decode cX11_note 10 = .ok (.putfield 122, 3) := by decide +kernel
theorem dX11_note_13 : decode cX11_note 13 = .ok (.iconst 0, 1) := by decide +kernel
theorem dX11_note_14 : decode cX11_note 14 = .ok (.ireturn, 1) := by decide +kernel
theorem dX11_note_15 : decode cX11_note 15 = .ok (.iload_n 1, 1) := by decide +kernel
theorem dX11_note_16 : decode cX11_note 16 = .ok (.iconst 0, 1) := by decide +kernel
theorem dX11_note_17 : decode cX11_note 17 = .ok (.bipush 60, 2) := by decide +kernel
theorem dX11_note_19 : decode cX11_note 19 = .ok (.invokestatic 222, 3) := by decide +kernel
theorem dX11_note_22 : decode cX11_note 22 = .ok (.ifCond .eq 31, 3) := by decide +kernel
theorem dX11_note_25 : decode cX11_note 25 = .ok (.aload_n 0, 1) := by decide +kernel
theorem dX11_note_26 : decode cX11_note 26 = .ok (.iload_n 2, 1) := by decide +kernel
theorem dX11_note_27 : decode cX11_note 27 = .ok (.invokevirtual 141, 3) := by decide +kernel
theorem dX11_note_30 : decode cX11_note 30 = .ok (.ifCond .eq 23, 3) := by decide +kernel
theorem dX11_note_53 : decode cX11_note 53 = .ok (.bipush (-2), 2) := by decide +kernel
theorem dX11_note_55 : decode cX11_note 55 = .ok (.ireturn, 1) := by decide +kernel
theorem dX11_pence_0 : decode cX11_pence 0 = .ok (.aload_n 0, 1) := by decide +kernel
theorem dX11_pence_1 : decode cX11_pence 1 = .ok (.iload_n 2, 1) := by decide +kernel
theorem dX11_pence_2 : decode cX11_pence 2 = .ok (.invokevirtual 141, 3) := by decide +kernel
theorem dX11_pence_5 : decode cX11_pence 5 = .ok (.ifCond .eq 14, 3) := by decide +kernel
theorem dX11_pence_19 : decode cX11_pence 19 = .ok (.iconst (-1), 1) := by decide +kernel
theorem dX11_pence_20 : decode cX11_pence 20 = .ok (.ireturn, 1) := by decide +kernel
theorem dX11_right_0 : decode cX11_right 0 = .ok (.aload_n 0, 1) := by decide +kernel
theorem dX11_right_1 : decode cX11_right 1 = .ok (.getfield 39, 3) := by decide +kernel
theorem dX11_right_4 : decode cX11_right 4 = .ok (.getfield 112, 3) := by decide +kernel
theorem dX11_right_7 : decode cX11_right 7 = .ok (.getfield 195, 3) := by decide +kernel
theorem dX11_right_10 : decode cX11_right 10 = .ok (.ifCond .eq 12, 3) := by decide +kernel
theorem dX11_right_22 : decode cX11_right 22 = .ok (.iconst (-1), 1) := by decide +kernel
theorem dX11_right_23 : decode cX11_right 23 = .ok (.ireturn, 1) := by decide +kernel
theorem dX11_ring_0 : decode cX11_ring 0 = .ok (.aload_n 0, 1) := by decide +kernel
theorem dX11_ring_1 : decode cX11_ring 1 = .ok (.iload_n 1, 1) := by decide +kernel
theorem dX11_ring_2 : decode cX11_ring 2 = .ok (.invokevirtual 141, 3) := by decide +kernel
theorem dX11_ring_5 : decode cX11_ring 5 = .ok (.ifCond .eq 12, 3) := by decide +kernel
theorem dX11_ring_17 : decode cX11_ring 17 = .ok (.iconst (-1), 1) := by decide +kernel
theorem dX11_ring_18 : decode cX11_ring 18 = .ok (.ireturn, 1) := by decide +kernel
theorem dX11_ruled_0 : decode cX11_ruled 0 = .ok (.aload_n 0, 1) := by decide +kernel
theorem dX11_ruled_1 : decode cX11_ruled 1 = .ok (.getfield 39, 3) := by decide +kernel
theorem dX11_ruled_4 : decode cX11_ruled 4 = .ok (.getfield 112, 3) := by decide +kernel
theorem dX11_ruled_7 : decode cX11_ruled 7 = .ok (.getfield 195, 3) := by decide +kernel
theorem dX11_ruled_10 : decode cX11_ruled 10 = .ok (.ifCond .eq 12, 3) := by decide +kernel
theorem dX11_ruled_22 : decode cX11_ruled 22 = .ok (.bipush (-3), 2) := by decide +kernel
theorem dX11_ruled_24 : decode cX11_ruled 24 = .ok (.ireturn, 1) := by decide +kernel
theorem dX11_seed_0 : decode cX11_seed 0 = .ok (.iload_n 1, 1) := by decide +kernel
theorem dX11_seed_1 : decode cX11_seed 1 = .ok (.ifCond .ge 5, 3) := by decide +kernel
theorem dX11_seed_4 : decode cX11_seed 4 = .ok (.iconst (-1), 1) := by decide +kernel
theorem dX11_seed_5 : decode cX11_seed 5 = .ok (.ireturn, 1) := by decide +kernel
theorem dX11_seed_6 : decode cX11_seed 6 = .ok (.aload_n 0, 1) := by decide +kernel
theorem dX11_seed_7 : decode cX11_seed 7 = .ok (.getfield 39, 3) := by decide +kernel
theorem dX11_seed_10 : decode cX11_seed 10 = .ok (.getfield 192, 3) := by decide +kernel
theorem dX11_seed_13 : decode cX11_seed 13 = .ok (.istore_n 2, 1) := by decide +kernel
theorem dX11_seed_14 : decode cX11_seed 14 = .ok (.aload_n 0, 1) := by decide +kernel
theorem dX11_seed_15 : decode cX11_seed 15 = .ok (.getfield 39, 3) := by decide +kernel
theorem dX11_seed_18 : decode cX11_seed 18 = .ok (.iload_n 1, 1) := by decide +kernel
theorem dX11_seed_19 : decode cX11_seed 19 = .ok (.putfield 192, 3) := by decide +kernel
theorem dX11_seed_22 : decode cX11_seed 22 = .ok (.iload_n 2, 1) := by decide +kernel
theorem dX11_seed_23 : decode cX11_seed 23 = .ok (.ireturn, 1) := by decide +kernel
theorem dX11_sheet_0 : decode cX11_sheet 0 = .ok (.aload_n 0, 1) := by decide +kernel
theorem dX11_sheet_1 : decode cX11_sheet 1 = .ok (.iload_n 1, 1) := by decide +kernel
theorem dX11_sheet_2 : decode cX11_sheet 2 = .ok (.invokevirtual 141, 3) := by decide +kernel
theorem dX11_sheet_5 : decode cX11_sheet 5 = .ok (.ifCond .ne 5, 3) := by decide +kernel
theorem dX11_sheet_8 : decode cX11_sheet 8 = .ok (.iconst (-1), 1) := by decide +kernel
theorem dX11_sheet_9 : decode cX11_sheet 9 = .ok (.ireturn, 1) := by decide +kernel
theorem dX11_starch_0 : decode cX11_starch 0 = .ok (.aload_n 0, 1) := by decide +kernel
theorem dX11_starch_1 : decode cX11_starch 1 = .ok (.iload_n 1, 1) := by decide +kernel
theorem dX11_starch_2 : decode cX11_starch 2 = .ok (.invokevirtual 141, 3) := by decide +kernel
theorem dX11_starch_5 : decode cX11_starch 5 = .ok (.ifCond .eq 16, 3) := by decide +kernel
theorem dX11_starch_21 : decode cX11_starch 21 = .ok (.iconst (-1), 1) := by decide +kernel
theorem dX11_starch_22 : decode cX11_starch 22 = .ok (.ireturn, 1) := by decide +kernel
theorem dX11_swap_0 : decode cX11_swap 0 = .ok (.aload_n 0, 1) := by decide +kernel
theorem dX11_swap_1 : decode cX11_swap 1 = .ok (.iload_n 1, 1) := by decide +kernel
theorem dX11_swap_2 : decode cX11_swap 2 = .ok (.invokevirtual 141, 3) := by decide +kernel
theorem dX11_swap_5 : decode cX11_swap 5 = .ok (.ifCond .eq 16, 3) := by decide +kernel
theorem dX11_swap_21 : decode cX11_swap 21 = .ok (.iconst (-1), 1) := by decide +kernel
theorem dX11_swap_22 : decode cX11_swap 22 = .ok (.ireturn, 1) := by decide +kernel
theorem dX11_thin_0 : decode cX11_thin 0 = .ok (.aload_n 0, 1) := by decide +kernel
theorem dX11_thin_1 : decode cX11_thin 1 = .ok (.getfield 39, 3) := by decide +kernel
theorem dX11_thin_4 : decode cX11_thin 4 = .ok (.getfield 112, 3) := by decide +kernel
theorem dX11_thin_7 : decode cX11_thin 7 = .ok (.getfield 195, 3) := by decide +kernel
theorem dX11_thin_10 : decode cX11_thin 10 = .ok (.ifCond .ne 5, 3) := by decide +kernel
theorem dX11_thin_13 : decode cX11_thin 13 = .ok (.iconst (-1), 1) := by decide +kernel
theorem dX11_thin_14 : decode cX11_thin 14 = .ok (.ireturn, 1) := by decide +kernel
theorem dX11_told_0 : decode cX11_told 0 = .ok (.aload_n 0, 1) := by decide +kernel
theorem dX11_told_1 : decode cX11_told 1 = .ok (.getfield 39, 3) := by decide +kernel
theorem dX11_told_4 : decode cX11_told 4 = .ok (.getfield 112, 3) := by decide +kernel
theorem dX11_told_7 : decode cX11_told 7 = .ok (.getfield 195, 3) := by decide +kernel
theorem dX11_told_10 : decode cX11_told 10 = .ok (.ifCond .eq 35, 3) := by decide +kernel
theorem dX11_told_45 : decode cX11_told 45 = .ok (.bipush (-3), 2) := by decide +kernel
theorem dX11_told_47 : decode cX11_told 47 = .ok (.ireturn, 1) := by decide +kernel
theorem dX11_turned_0 : decode cX11_turned 0 = .ok (.aload_n 0, 1) := by decide +kernel
theorem dX11_turned_1 : decode cX11_turned 1 = .ok (.iload_n 1, 1) := by decide +kernel
theorem dX11_turned_2 : decode cX11_turned 2 = .ok (.invokevirtual 141, 3) := by decide +kernel
theorem dX11_turned_5 : decode cX11_turned 5 = .ok (.ifCond .ne 5, 3) := by decide +kernel
theorem dX11_turned_8 : decode cX11_turned 8 = .ok (.iconst (-1), 1) := by decide +kernel
theorem dX11_turned_9 : decode cX11_turned 9 = .ok (.ireturn, 1) := by decide +kernel
theorem dX11_twos_0 : decode cX11_twos 0 = .ok (.aload_n 0, 1) := by decide +kernel
theorem dX11_twos_1 : decode cX11_twos 1 = .ok (.iload_n 1, 1) := by decide +kernel
theorem dX11_twos_2 : decode cX11_twos 2 = .ok (.iconst 1, 1) := by decide +kernel
theorem dX11_twos_3 : decode cX11_twos 3 = .ok (.invokevirtual 249, 3) := by decide +kernel
theorem dX11_twos_6 : decode cX11_twos 6 = .ok (.ireturn, 1) := by decide +kernel
theorem dX11_undo_0 : decode cX11_undo 0 = .ok (.aload_n 0, 1) := by decide +kernel
theorem dX11_undo_1 : decode cX11_undo 1 = .ok (.getfield 50, 3) := by decide +kernel
theorem dX11_undo_4 : decode cX11_undo 4 = .ok (.getfield 191, 3) := by decide +kernel
theorem dX11_undo_7 : decode cX11_undo 7 = .ok (.ifCond .ne 5, 3) := by decide +kernel
theorem dX11_undo_10 : decode cX11_undo 10 = .ok (.iconst (-1), 1) := by decide +kernel
theorem dX11_undo_11 : decode cX11_undo 11 = .ok (.ireturn, 1) := by decide +kernel
theorem dX11_week_0 : decode cX11_week 0 = .ok (.aload_n 0, 1) := by decide +kernel
theorem dX11_week_1 : decode cX11_week 1 = .ok (.getfield 39, 3) := by decide +kernel
theorem dX11_week_4 : decode cX11_week 4 = .ok (.getfield 112, 3) := by decide +kernel
theorem dX11_week_7 : decode cX11_week 7 = .ok (.getfield 195, 3) := by decide +kernel
theorem dX11_week_10 : decode cX11_week 10 = .ok (.ifCond .eq 19, 3) := by decide +kernel
theorem dX11_week_29 : decode cX11_week 29 = .ok (.iconst (-1), 1) := by decide +kernel
theorem dX11_week_30 : decode cX11_week 30 = .ok (.ireturn, 1) := by decide +kernel
theorem dX5_allWas_0 : decode cX5_allWas 0 = .ok (.iconst 0, 1) := by decide +kernel
theorem dX5_allWas_1 : decode cX5_allWas 1 = .ok (.istore_n 2, 1) := by decide +kernel
theorem dX5_allWas_2 : decode cX5_allWas 2 = .ok (.iconst 0, 1) := by decide +kernel
theorem dX5_allWas_3 : decode cX5_allWas 3 = .ok (.istore_n 3, 1) := by decide +kernel
theorem dX5_allWas_4 : decode cX5_allWas 4 = .ok (.iload_n 3, 1) := by decide +kernel
theorem dX5_allWas_5 : decode cX5_allWas 5 = .ok (.iload_n 1, 1) := by decide +kernel
theorem dX5_allWas_6 : decode cX5_allWas 6 = .ok (.if_icmp .ge 18, 3) := by decide +kernel
theorem dX5_allWas_24 : decode cX5_allWas 24 = .ok (.iload_n 2, 1) := by decide +kernel
theorem dX5_allWas_25 : decode cX5_allWas 25 = .ok (.ireturn, 1) := by decide +kernel
theorem dX5_homeBits_0 : decode cX5_homeBits 0 = .ok (.iconst 0, 1) := by decide +kernel
theorem dX5_homeBits_1 : decode cX5_homeBits 1 = .ok (.istore_n 2, 1) := by decide +kernel
theorem dX5_homeBits_2 : decode cX5_homeBits 2 = .ok (.iconst 0, 1) := by decide +kernel
theorem dX5_homeBits_3 : decode cX5_homeBits 3 = .ok (.istore_n 3, 1) := by decide +kernel
theorem dX5_homeBits_4 : decode cX5_homeBits 4 = .ok (.iload_n 3, 1) := by decide +kernel
theorem dX5_homeBits_5 : decode cX5_homeBits 5 = .ok (.iload_n 1, 1) := by decide +kernel
theorem dX5_homeBits_6 : decode cX5_homeBits 6 = .ok (.if_icmp .ge 25, 3) := by decide +kernel
theorem dX5_homeBits_31 : decode cX5_homeBits 31 = .ok (.iload_n 2, 1) := by decide +kernel
theorem dX5_homeBits_32 : decode cX5_homeBits 32 = .ok (.ireturn, 1) := by decide +kernel
theorem dX5_letBits_0 : decode cX5_letBits 0 = .ok (.iconst 0, 1) := by decide +kernel
theorem dX5_letBits_1 : decode cX5_letBits 1 = .ok (.istore_n 2, 1) := by decide +kernel
theorem dX5_letBits_2 : decode cX5_letBits 2 = .ok (.iconst 0, 1) := by decide +kernel
theorem dX5_letBits_3 : decode cX5_letBits 3 = .ok (.istore_n 3, 1) := by decide +kernel
theorem dX5_letBits_4 : decode cX5_letBits 4 = .ok (.iload_n 3, 1) := by decide +kernel
theorem dX5_letBits_5 : decode cX5_letBits 5 = .ok (.aload_n 1, 1) := by decide +kernel
theorem dX5_letBits_6 : decode cX5_letBits 6 = .ok (.getfield 39, 3) := by decide +kernel
theorem dX5_letBits_9 : decode cX5_letBits 9 = .ok (.if_icmp .ge 24, 3) := by decide +kernel
theorem dX5_letBits_33 : decode cX5_letBits 33 = .ok (.iload_n 2, 1) := by decide +kernel
theorem dX5_letBits_34 : decode cX5_letBits 34 = .ok (.ireturn, 1) := by decide +kernel
