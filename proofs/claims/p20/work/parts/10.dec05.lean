theorem dX12_contract_86 : decode cX12_contract 86 = .ok (.goto (-24), 3) := by decide +kernel
theorem dX12_contract_89 : decode cX12_contract 89 = .ok (.aload_n 0, 1) := by decide +kernel
theorem dX12_contract_90 : decode cX12_contract 90 = .ok (.iconst 0, 1) := by decide +kernel
theorem dX12_contract_91 : decode cX12_contract 91 = .ok (.putfield 245, 3) := by decide +kernel
theorem dX12_contract_94 : decode cX12_contract 94 = .ok (.aload_n 0, 1) := by decide +kernel
theorem dX12_contract_95 : decode cX12_contract 95 = .ok (.getfield 251, 3) := by decide +kernel
theorem dX12_contract_98 : decode cX12_contract 98 = .ok (.ifCond .lt 11, 3) := by decide +kernel
theorem dX12_contract_101 : decode cX12_contract 101 = .ok (.bipush (-100), 2) := by decide +kernel
theorem dX12_contract_103 : decode cX12_contract 103 = .ok (.aload_n 0, 1) := by decide +kernel
theorem dX12_contract_104 : decode cX12_contract 104 = .ok (.getfield 251, 3) := by decide +kernel
theorem dX12_contract_107 : decode cX12_contract 107 = .ok (.isub, 1) := by decide +kernel
theorem dX12_contract_108 : decode cX12_contract 108 = .ok (.ireturn, 1) := by decide +kernel
theorem dX12_contract_109 : decode cX12_contract 109 = .ok (.aload_n 0, 1) := by decide +kernel
theorem dX12_contract_110 : decode cX12_contract 110 = .ok (.getfield 120, 3) := by decide +kernel
theorem dX12_contract_113 : decode cX12_contract 113 = .ok (.iload_n 1, 1) := by decide +kernel
theorem dX12_contract_114 : decode cX12_contract 114 = .ok (.aload_n 0, 1) := by decide +kernel
theorem dX12_contract_115 : decode cX12_contract 115 = .ok (.getfield 120, 3) := by decide +kernel
theorem dX12_contract_118 : decode cX12_contract 118 = .ok (.bipush 10, 2) := by decide +kernel
theorem dX12_contract_120 : decode cX12_contract 120 = .ok (.iaload, 1) := by decide +kernel
theorem dX12_contract_121 : decode cX12_contract 121 = .ok (.iastore, 1) := by decide +kernel
theorem dX12_contract_122 : decode cX12_contract 122 = .ok (.iconst 0, 1) := by decide +kernel
theorem dX12_contract_123 : decode cX12_contract 123 = .ok (.istore 4, 2) := by decide +kernel
theorem dX12_contract_125 : decode cX12_contract 125 = .ok (.iload 4, 2) := by decide +kernel
theorem dX12_contract_127 : decode cX12_contract 127 = .ok (.aload_n 0, 1) := by decide +kernel
theorem dX12_contract_128 : decode cX12_contract 128 = .ok (.getfield 120, 3) := by decide +kernel
theorem dX12_contract_131 : decode cX12_contract 131 = .ok (.iload_n 1, 1) := by decide +kernel
theorem dX12_contract_132 : decode cX12_contract 132 = .ok (.iaload, 1) := by decide +kernel
theorem dX12_contract_133 : decode cX12_contract 133 = .ok (.if_icmp .ge 101, 3) := by decide +kernel
theorem dX12_contract_136 : decode cX12_contract 136 = .ok (.aload_n 0, 1) := by decide +kernel
theorem dX12_contract_137 : decode cX12_contract 137 = .ok (.getfield 123, 3) := by decide +kernel
theorem dX12_contract_140 : decode cX12_contract 140 = .ok (.bipush 32, 2) := by decide +kernel
theorem dX12_contract_142 : decode cX12_contract 142 = .ok (.iload_n 1, 1) := by decide +kernel
theorem dX12_contract_143 : decode cX12_contract 143 = .ok (.imul, 1) := by decide +kernel
theorem dX12_contract_144 : decode cX12_contract 144 = .ok (.iload 4, 2) := by decide +kernel
theorem dX12_contract_146 : decode cX12_contract 146 = .ok (.iadd, 1) := by decide +kernel
theorem dX12_contract_147 : decode cX12_contract 147 = .ok (.aload_n 0, 1) := by decide +kernel
theorem dX12_contract_148 : decode cX12_contract 148 = .ok (.getfield 123, 3) := by decide +kernel
theorem dX12_contract_151 : decode cX12_contract 151 = .ok (.sipush 320, 3) := by decide +kernel
theorem dX12_contract_154 : decode cX12_contract 154 = .ok (.iload 4, 2) := by decide +kernel
theorem dX12_contract_156 : decode cX12_contract 156 = .ok (.iadd, 1) := by decide +kernel
theorem dX12_contract_157 : decode cX12_contract 157 = .ok (.iaload, 1) := by decide +kernel
theorem dX12_contract_158 : decode cX12_contract 158 = .ok (.iastore, 1) := by decide +kernel
theorem dX12_contract_159 : decode cX12_contract 159 = .ok (.aload_n 0, 1) := by decide +kernel
theorem dX12_contract_160 : decode cX12_contract 160 = .ok (.getfield 126, 3) := by decide +kernel
theorem dX12_contract_163 : decode cX12_contract 163 = .ok (.bipush 32, 2) := by decide +kernel
theorem dX12_contract_165 : decode cX12_contract 165 = .ok (.iload_n 1, 1) := by decide +kernel
theorem dX12_contract_166 : decode cX12_contract 166 = .ok (.imul, 1) := by decide +kernel
theorem dX12_contract_167 : decode cX12_contract 167 = .ok (.iload 4, 2) := by decide +kernel
theorem dX12_contract_169 : decode cX12_contract 169 = .ok (.iadd, 1) := by decide +kernel
theorem dX12_contract_170 : decode cX12_contract 170 = .ok (.aload_n 0, 1) := by decide +kernel
theorem dX12_contract_171 : decode cX12_contract 171 = .ok (.getfield 126, 3) := by decide +kernel
theorem dX12_contract_174 : decode cX12_contract 174 = .ok (.sipush 320, 3) := by decide +kernel
theorem dX12_contract_177 : decode cX12_contract 177 = .ok (.iload 4, 2) := by decide +kernel
theorem dX12_contract_179 : decode cX12_contract 179 = .ok (.iadd, 1) := by decide +kernel
theorem dX12_contract_180 : decode cX12_contract 180 = .ok (.iaload, 1) := by decide +kernel
theorem dX12_contract_181 : decode cX12_contract 181 = .ok (.iastore, 1) := by decide +kernel
theorem dX12_contract_182 : decode cX12_contract 182 = .ok (.aload_n 0, 1) := by decide +kernel
theorem dX12_contract_183 : decode cX12_contract 183 = .ok (.getfield 129, 3) := by decide +kernel
theorem dX12_contract_186 : decode cX12_contract 186 = .ok (.bipush 32, 2) := by decide +kernel
theorem dX12_contract_188 : decode cX12_contract 188 = .ok (.iload_n 1, 1) := by decide +kernel
theorem dX12_contract_189 : decode cX12_contract 189 = .ok (.imul, 1) := by decide +kernel
theorem dX12_contract_190 : decode cX12_contract 190 = .ok (.iload 4, 2) := by decide +kernel
theorem dX12_contract_192 : decode cX12_contract 192 = .ok (.iadd, 1) := by decide +kernel
theorem dX12_contract_193 : decode cX12_contract 193 = .ok (.aload_n 0, 1) := by decide +kernel
theorem dX12_contract_194 : decode cX12_contract 194 = .ok (.getfield 129, 3) := by decide +kernel
theorem dX12_contract_197 : decode cX12_contract 197 = .ok (.sipush 320, 3) := by decide +kernel
theorem dX12_contract_200 : decode cX12_contract 200 = .ok (.iload 4, 2) := by decide +kernel
theorem dX12_contract_202 : decode cX12_contract 202 = .ok (.iadd, 1) := by decide +kernel
theorem dX12_contract_203 : decode cX12_contract 203 = .ok (.iaload, 1) := by decide +kernel
theorem dX12_contract_204 : decode cX12_contract 204 = .ok (.iastore, 1) := by decide +kernel
theorem dX12_contract_205 : decode cX12_contract 205 = .ok (.aload_n 0, 1) := by decide +kernel
theorem dX12_contract_206 : decode cX12_contract 206 = .ok (.getfield 132, 3) := by decide +kernel
theorem dX12_contract_209 : decode cX12_contract 209 = .ok (.bipush 32, 2) := by decide +kernel
theorem dX12_contract_211 : decode cX12_contract 211 = .ok (.iload_n 1, 1) := by decide +kernel
theorem dX12_contract_212 : decode cX12_contract 212 = .ok (.imul, 1) := by decide +kernel
theorem dX12_contract_213 : decode cX12_contract 213 = .ok (.iload 4, 2) := by decide +kernel
theorem dX12_contract_215 : decode cX12_contract 215 = .ok (.iadd, 1) := by decide +kernel
theorem dX12_contract_216 : decode cX12_contract 216 = .ok (.aload_n 0, 1) := by decide +kernel
theorem dX12_contract_217 : decode cX12_contract 217 = .ok (.getfield 132, 3) := by decide +kernel
theorem dX12_contract_220 : decode cX12_contract 220 = .ok (.sipush 320, 3) := by decide +kernel
theorem dX12_contract_223 : decode cX12_contract 223 = .ok (.iload 4, 2) := by decide +kernel
theorem dX12_contract_225 : decode cX12_contract 225 = .ok (.iadd, 1) := by decide +kernel
theorem dX12_contract_226 : decode cX12_contract 226 = .ok (.iaload, 1) := by decide +kernel
theorem dX12_contract_227 : decode cX12_contract 227 = .ok (.iastore, 1) := by decide +kernel
theorem dX12_contract_228 : decode cX12_contract 228 = .ok (.iinc 4 1, 3) := by decide +kernel
theorem dX12_contract_231 : decode cX12_contract 231 = .ok (.goto (-106), 3) := by decide +kernel
theorem dX12_contract_234 : decode cX12_contract 234 = .ok (.aload_n 0, 1) := by decide +kernel
theorem dX12_contract_235 : decode cX12_contract 235 = .ok (.getfield 114, 3) := by decide +kernel
theorem dX12_contract_238 : decode cX12_contract 238 = .ok (.iload_n 1, 1) := by decide +kernel
theorem dX12_contract_239 : decode cX12_contract 239 = .ok (.iload_n 2, 1) := by decide +kernel
theorem dX12_contract_240 : decode cX12_contract 240 = .ok (.iastore, 1) := by decide +kernel
theorem dX12_contract_241 : decode cX12_contract 241 = .ok (.aload_n 0, 1) := by decide +kernel
theorem dX12_contract_242 : decode cX12_contract 242 = .ok (.getfield 117, 3) := by decide +kernel
theorem dX12_contract_245 : decode cX12_contract 245 = .ok (.iload_n 1, 1) := by decide +kernel
theorem dX12_contract_246 : decode cX12_contract 246 = .ok (.iload_n 3, 1) := by decide +kernel
theorem dX12_contract_247 : decode cX12_contract 247 = .ok (.iastore, 1) := by decide +kernel
theorem dX12_contract_248 : decode cX12_contract 248 = .ok (.aload_n 0, 1) := by decide +kernel
theorem dX12_contract_249 : decode cX12_contract 249 = .ok (.getfield 120, 3) := by decide +kernel
theorem dX12_contract_252 : decode cX12_contract 252 = .ok (.iload_n 1, 1) := by decide +kernel
theorem dX12_contract_253 : decode cX12_contract 253 = .ok (.iaload, 1) := by decide +kernel
theorem dX12_contract_254 : decode cX12_contract 254 = .ok (.ireturn, 1) := by decide +kernel
theorem dX12_hasContract_0 : decode cX12_hasContract 0 = .ok (.aload_n 0, 1) := by decide +kernel
theorem dX12_hasContract_1 : decode cX12_hasContract 1 = .ok (.getfield 114, 3) := by decide +kernel
theorem dX12_hasContract_4 : decode cX12_hasContract 4 = .ok (.iload_n 1, 1) := by decide +kernel
theorem dX12_hasContract_5 : decode cX12_hasContract 5 = .ok (.iaload, 1) := by decide +kernel
theorem dX12_hasContract_6 : decode cX12_hasContract 6 = .ok (.ifCond .lt 7, 3) := by decide +kernel
theorem dX12_hasContract_9 : decode cX12_hasContract 9 = .ok (.iconst 1, 1) := by decide +kernel
theorem dX12_hasContract_10 : decode cX12_hasContract 10 = .ok (.goto 4, 3) := by decide +kernel
theorem dX12_hasContract_13 : decode cX12_hasContract 13 = .ok (.iconst 0, 1) := by decide +kernel
theorem dX12_hasContract_14 : decode cX12_hasContract 14 = .ok (.ireturn, 1) := by decide +kernel
theorem dX12_bitsOf_0 : decode cX12_bitsOf 0 = .ok (.iconst 0, 1) := by decide +kernel
theorem dX12_bitsOf_1 : decode cX12_bitsOf 1 = .ok (.istore_n 1, 1) := by decide +kernel
theorem dX12_bitsOf_2 : decode cX12_bitsOf 2 = .ok (.iload_n 0, 1) := by decide +kernel
theorem dX12_bitsOf_3 : decode cX12_bitsOf 3 = .ok (.istore_n 2, 1) := by decide +kernel
theorem dX12_bitsOf_4 : decode cX12_bitsOf 4 = .ok (.iload_n 2, 1) := by decide +kernel
theorem dX12_bitsOf_5 : decode cX12_bitsOf 5 = .ok (.ifCond .eq 15, 3) := by decide +kernel
theorem dX12_bitsOf_8 : decode cX12_bitsOf 8 = .ok (.iinc 1 1, 3) := by decide +kernel
theorem dX12_bitsOf_11 : decode cX12_bitsOf 11 = .ok (.iload_n 2, 1) := by decide +kernel
theorem dX12_bitsOf_12 : decode cX12_bitsOf 12 = .ok (.iload_n 2, 1) := by decide +kernel
theorem dX12_bitsOf_13 : decode cX12_bitsOf 13 = .ok (.iconst 1, 1) := by decide +kernel
theorem dX12_bitsOf_14 : decode cX12_bitsOf 14 = .ok (.isub, 1) := by decide +kernel
theorem dX12_bitsOf_15 : decode cX12_bitsOf 15 = .ok (.iand, 1) := by decide +kernel
theorem dX12_bitsOf_16 : decode cX12_bitsOf 16 = .ok (.istore_n 2, 1) := by decide +kernel
theorem dX12_bitsOf_17 : decode cX12_bitsOf 17 = .ok (.goto (-13), 3) := by decide +kernel
theorem dX12_bitsOf_20 : decode cX12_bitsOf 20 = .ok (.iload_n 1, 1) := by decide +kernel
theorem dX12_bitsOf_21 : decode cX12_bitsOf 21 = .ok (.ireturn, 1) := by decide +kernel
theorem dX12_bestCost_0 : decode cX12_bestCost 0 = .ok (.aload_n 0, 1) := by decide +kernel
theorem dX12_bestCost_1 : decode cX12_bestCost 1 = .ok (.getfield 368, 3) := by decide +kernel
theorem dX12_bestCost_4 : decode cX12_bestCost 4 = .ok (.ifCond .eq 10, 3) := by decide +kernel
theorem dX12_bestCost_7 : decode cX12_bestCost 7 = .ok (.aload_n 0, 1) := by decide +kernel
theorem dX12_bestCost_8 : decode cX12_bestCost 8 = .ok (.getfield 372, 3) := by decide +kernel
theorem dX12_bestCost_11 : decode cX12_bestCost 11 = .ok (.goto 5, 3) := by decide +kernel
theorem dX12_bestCost_14 : decode cX12_bestCost 14 = .ok (.ldc 236, 2) := by decide +kernel
theorem dX12_bestCost_16 : decode cX12_bestCost 16 = .ok (.ireturn, 1) := by decide +kernel
theorem dX12_reserve_0 : decode cX12_reserve 0 = .ok (.aload_n 0, 1) := by decide +kernel
theorem dX12_reserve_1 : decode cX12_reserve 1 = .ok (.iload_n 1, 1) := by decide +kernel
theorem dX12_reserve_2 : decode cX12_reserve 2 = .ok (.invokevirtual 169, 3) := by decide +kernel
theorem dX12_reserve_5 : decode cX12_reserve 5 = .ok (.ifCond .eq 25, 3) := by decide +kernel
theorem dX12_reserve_8 : decode cX12_reserve 8 = .ok (.aload_n 0, 1) := by decide +kernel
theorem dX12_reserve_9 : decode cX12_reserve 9 = .ok (.iload_n 2, 1) := by decide +kernel
theorem dX12_reserve_10 : decode cX12_reserve 10 = .ok (.invokevirtual 173, 3) := by decide +kernel
theorem dX12_reserve_13 : decode cX12_reserve 13 = .ok (.ifCond .eq 17, 3) := by decide +kernel
theorem dX12_reserve_16 : decode cX12_reserve 16 = .ok (.aload_n 0, 1) := by decide +kernel
theorem dX12_reserve_17 : decode cX12_reserve 17 = .ok (.getfield 37, 3) := by decide +kernel
theorem dX12_reserve_20 : decode cX12_reserve 20 = .ok (.bipush 10, 2) := by decide +kernel
theorem dX12_reserve_22 : decode cX12_reserve 22 = .ok (.iload_n 1, 1) := by decide +kernel
theorem dX12_reserve_23 : decode cX12_reserve 23 = .ok (.imul, 1) := by decide +kernel
theorem dX12_reserve_24 : decode cX12_reserve 24 = .ok (.iload_n 2, 1) := by decide +kernel
theorem dX12_reserve_25 : decode cX12_reserve 25 = .ok (.iadd, 1) := by decide +kernel
theorem dX12_reserve_26 : decode cX12_reserve 26 = .ok (.iaload, 1) := by decide +kernel
theorem dX12_reserve_27 : decode cX12_reserve 27 = .ok (.goto 4, 3) := by decide +kernel
theorem dX12_reserve_30 : decode cX12_reserve 30 = .ok (.iconst (-1), 1) := by decide +kernel
theorem dX12_reserve_31 : decode cX12_reserve 31 = .ok (.ireturn, 1) := by decide +kernel
theorem dX12_link_0 : decode cX12_link 0 = .ok (.aload_n 0, 1) := by decide +kernel
theorem dX12_link_1 : decode cX12_link 1 = .ok (.iload_n 1, 1) := by decide +kernel
theorem dX12_link_2 : decode cX12_link 2 = .ok (.invokevirtual 169, 3) := by decide +kernel
theorem dX12_link_5 : decode cX12_link 5 = .ok (.ifCond .eq 23, 3) := by decide +kernel
theorem dX12_link_8 : decode cX12_link 8 = .ok (.iload_n 2, 1) := by decide +kernel
theorem dX12_link_9 : decode cX12_link 9 = .ok (.iconst 0, 1) := by decide +kernel
theorem dX12_link_10 : decode cX12_link 10 = .ok (.bipush 9, 2) := by decide +kernel
theorem dX12_link_12 : decode cX12_link 12 = .ok (.invokestatic 151, 3) := by decide +kernel
theorem dX12_link_15 : decode cX12_link 15 = .ok (.ifCond .eq 13, 3) := by decide +kernel
theorem dX12_link_18 : decode cX12_link 18 = .ok (.iload_n 3, 1) := by decide +kernel
theorem dX12_link_19 : decode cX12_link 19 = .ok (.iconst 0, 1) := by decide +kernel
theorem dX12_link_20 : decode cX12_link 20 = .ok (.ldc 164, 2) := by decide +kernel
theorem dX12_link_22 : decode cX12_link 22 = .ok (.invokestatic 151, 3) := by decide +kernel
theorem dX12_link_25 : decode cX12_link 25 = .ok (.ifCond .ne 5, 3) := by decide +kernel
theorem dX12_link_28 : decode cX12_link 28 = .ok (.iconst (-1), 1) := by decide +kernel
theorem dX12_link_29 : decode cX12_link 29 = .ok (.ireturn, 1) := by decide +kernel
theorem dX12_link_30 : decode cX12_link 30 = .ok (.aload_n 0, 1) := by decide +kernel
theorem dX12_link_31 : decode cX12_link 31 = .ok (.getfield 141, 3) := by decide +kernel
theorem dX12_link_34 : decode cX12_link 34 = .ok (.iload_n 1, 1) := by decide +kernel
theorem dX12_link_35 : decode cX12_link 35 = .ok (.iaload, 1) := by decide +kernel
theorem dX12_link_36 : decode cX12_link 36 = .ok (.iconst 4, 1) := by decide +kernel
theorem dX12_link_37 : decode cX12_link 37 = .ok (.if_icmp .ne 6, 3) := by decide +kernel
theorem dX12_link_40 : decode cX12_link 40 = .ok (.bipush (-3), 2) := by decide +kernel
theorem dX12_link_42 : decode cX12_link 42 = .ok (.ireturn, 1) := by decide +kernel
theorem dX12_link_43 : decode cX12_link 43 = .ok (.aload_n 0, 1) := by decide +kernel
theorem dX12_link_44 : decode cX12_link 44 = .ok (.getfield 144, 3) := by decide +kernel
theorem dX12_link_47 : decode cX12_link 47 = .ok (.iconst 4, 1) := by decide +kernel
theorem dX12_link_48 : decode cX12_link 48 = .ok (.iload_n 1, 1) := by decide +kernel
theorem dX12_link_49 : decode cX12_link 49 = .ok (.imul, 1) := by decide +kernel
theorem dX12_link_50 : decode cX12_link 50 = .ok (.aload_n 0, 1) := by decide +kernel
theorem dX12_link_51 : decode cX12_link 51 = .ok (.getfield 141, 3) := by decide +kernel
theorem dX12_link_54 : decode cX12_link 54 = .ok (.iload_n 1, 1) := by decide +kernel
theorem dX12_link_55 : decode cX12_link 55 = .ok (.iaload, 1) := by decide +kernel
theorem dX12_link_56 : decode cX12_link 56 = .ok (.iadd, 1) := by decide +kernel
theorem dX12_link_57 : decode cX12_link 57 = .ok (.iload_n 3, 1) := by decide +kernel
theorem dX12_link_58 : decode cX12_link 58 = .ok (.iastore, 1) := by decide +kernel
theorem dX12_link_59 : decode cX12_link 59 = .ok (.aload_n 0, 1) := by decide +kernel
theorem dX12_link_60 : decode cX12_link 60 = .ok (.getfield 141, 3) := by decide +kernel
theorem dX12_link_63 : decode cX12_link 63 = .ok (.iload_n 1, 1) := by decide +kernel
theorem dX12_link_64 : decode cX12_link 64 = .ok (.dup2, 1) := by decide +kernel
theorem dX12_link_65 : decode cX12_link 65 = .ok (.iaload, 1) := by decide +kernel
theorem dX12_link_66 : decode cX12_link 66 = .ok (.iconst 1, 1) := by decide +kernel
theorem dX12_link_67 : decode cX12_link 67 = .ok (.iadd, 1) := by decide +kernel
theorem dX12_link_68 : decode cX12_link 68 = .ok (.iastore, 1) := by decide +kernel
theorem dX12_link_69 : decode cX12_link 69 = .ok (.aload_n 0, 1) := by decide +kernel
theorem dX12_link_70 : decode cX12_link 70 = .ok (.getfield 141, 3) := by decide +kernel
theorem dX12_link_73 : decode cX12_link 73 = .ok (.iload_n 1, 1) := by decide +kernel
theorem dX12_link_74 : decode cX12_link 74 = .ok (.iaload, 1) := by decide +kernel
theorem dX12_link_75 : decode cX12_link 75 = .ok (.ireturn, 1) := by decide +kernel
theorem dX12_net_0 : decode cX12_net 0 = .ok (.aload_n 0, 1) := by decide +kernel
theorem dX12_net_1 : decode cX12_net 1 = .ok (.iload_n 1, 1) := by decide +kernel
theorem dX12_net_2 : decode cX12_net 2 = .ok (.invokevirtual 169, 3) := by decide +kernel
theorem dX12_net_5 : decode cX12_net 5 = .ok (.ifCond .eq 30, 3) := by decide +kernel
theorem dX12_net_8 : decode cX12_net 8 = .ok (.iload_n 2, 1) := by decide +kernel
theorem dX12_net_9 : decode cX12_net 9 = .ok (.iconst 0, 1) := by decide +kernel
theorem dX12_net_10 : decode cX12_net 10 = .ok (.aload_n 0, 1) := by decide +kernel
theorem dX12_net_11 : decode cX12_net 11 = .ok (.getfield 141, 3) := by decide +kernel
theorem dX12_net_14 : decode cX12_net 14 = .ok (.iload_n 1, 1) := by decide +kernel
theorem dX12_net_15 : decode cX12_net 15 = .ok (.iaload, 1) := by decide +kernel
theorem dX12_net_16 : decode cX12_net 16 = .ok (.iconst 1, 1) := by decide +kernel
theorem dX12_net_17 : decode cX12_net 17 = .ok (.isub, 1) := by decide +kernel
theorem dX12_net_18 : decode cX12_net 18 = .ok (.invokestatic 151, 3) := by decide +kernel
theorem dX12_net_21 : decode cX12_net 21 = .ok (.ifCond .eq 14, 3) := by decide +kernel
theorem dX12_net_24 : decode cX12_net 24 = .ok (.iload_n 3, 1) := by decide +kernel
theorem dX12_net_25 : decode cX12_net 25 = .ok (.iconst 1, 1) := by decide +kernel
theorem dX12_net_26 : decode cX12_net 26 = .ok (.sipush 999, 3) := by decide +kernel
theorem dX12_net_29 : decode cX12_net 29 = .ok (.invokestatic 151, 3) := by decide +kernel
theorem dX12_net_32 : decode cX12_net 32 = .ok (.ifCond .ne 6, 3) := by decide +kernel
theorem dX12_net_35 : decode cX12_net 35 = .ok (.ldc 236, 2) := by decide +kernel
theorem dX12_net_37 : decode cX12_net 37 = .ok (.ireturn, 1) := by decide +kernel
theorem dX12_net_38 : decode cX12_net 38 = .ok (.iload_n 2, 1) := by decide +kernel
theorem dX12_net_39 : decode cX12_net 39 = .ok (.iconst 1, 1) := by decide +kernel
theorem dX12_net_40 : decode cX12_net 40 = .ok (.iadd, 1) := by decide +kernel
theorem dX12_net_41 : decode cX12_net 41 = .ok (.aload_n 0, 1) := by decide +kernel
theorem dX12_net_42 : decode cX12_net 42 = .ok (.getfield 141, 3) := by decide +kernel
theorem dX12_net_45 : decode cX12_net 45 = .ok (.iload_n 1, 1) := by decide +kernel
theorem dX12_net_46 : decode cX12_net 46 = .ok (.iaload, 1) := by decide +kernel
theorem dX12_net_47 : decode cX12_net 47 = .ok (.if_icmp .ge 18, 3) := by decide +kernel
theorem dX12_net_50 : decode cX12_net 50 = .ok (.aload_n 0, 1) := by decide +kernel
theorem dX12_net_51 : decode cX12_net 51 = .ok (.getfield 144, 3) := by decide +kernel
theorem dX12_net_54 : decode cX12_net 54 = .ok (.iconst 4, 1) := by decide +kernel
theorem dX12_net_55 : decode cX12_net 55 = .ok (.iload_n 1, 1) := by decide +kernel
theorem dX12_net_56 : decode cX12_net 56 = .ok (.imul, 1) := by decide +kernel
theorem dX12_net_57 : decode cX12_net 57 = .ok (.iload_n 2, 1) := by decide +kernel
theorem dX12_net_58 : decode cX12_net 58 = .ok (.iadd, 1) := by decide +kernel
theorem dX12_net_59 : decode cX12_net 59 = .ok (.iconst 1, 1) := by decide +kernel
theorem dX12_net_60 : decode cX12_net 60 = .ok (.iadd, 1) := by decide +kernel
theorem dX12_net_61 : decode cX12_net 61 = .ok (.iaload, 1) := by decide +kernel
theorem dX12_net_62 : decode cX12_net 62 = .ok (.goto 4, 3) := by decide +kernel
theorem dX12_net_65 : decode cX12_net 65 = .ok (.iconst 0, 1) := by decide +kernel
theorem dX12_net_66 : decode cX12_net 66 = .ok (.istore 4, 2) := by decide +kernel
theorem dX12_net_68 : decode cX12_net 68 = .ok (.aload_n 0, 1) := by decide +kernel
theorem dX12_net_69 : decode cX12_net 69 = .ok (.getfield 144, 3) := by decide +kernel
theorem dX12_net_72 : decode cX12_net 72 = .ok (.iconst 4, 1) := by decide +kernel
theorem dX12_net_73 : decode cX12_net 73 = .ok (.iload_n 1, 1) := by decide +kernel
theorem dX12_net_74 : decode cX12_net 74 = .ok (.imul, 1) := by decide +kernel
theorem dX12_net_75 : decode cX12_net 75 = .ok (.iload_n 2, 1) := by decide +kernel
theorem dX12_net_76 : decode cX12_net 76 = .ok (.iadd, 1) := by decide +kernel
theorem dX12_net_77 : decode cX12_net 77 = .ok (.iaload, 1) := by decide +kernel
theorem dX12_net_78 : decode cX12_net 78 = .ok (.iload 4, 2) := by decide +kernel
theorem dX12_net_80 : decode cX12_net 80 = .ok (.isub, 1) := by decide +kernel
theorem dX12_net_81 : decode cX12_net 81 = .ok (.iload_n 3, 1) := by decide +kernel
theorem dX12_net_82 : decode cX12_net 82 = .ok (.imul, 1) := by decide +kernel
theorem dX12_net_83 : decode cX12_net 83 = .ok (.ireturn, 1) := by decide +kernel
theorem dX12_partsAt_0 : decode cX12_partsAt 0 = .ok (.iconst 0, 1) := by decide +kernel
theorem dX12_partsAt_1 : decode cX12_partsAt 1 = .ok (.istore_n 2, 1) := by decide +kernel
theorem dX12_partsAt_2 : decode cX12_partsAt 2 = .ok (.iconst 0, 1) := by decide +kernel
theorem dX12_partsAt_3 : decode cX12_partsAt 3 = .ok (.istore_n 3, 1) := by decide +kernel
theorem dX12_partsAt_4 : decode cX12_partsAt 4 = .ok (.iload_n 3, 1) := by decide +kernel
theorem dX12_partsAt_5 : decode cX12_partsAt 5 = .ok (.aload_n 0, 1) := by decide +kernel
theorem dX12_partsAt_6 : decode cX12_partsAt 6 = .ok (.getfield 166, 3) := by decide +kernel
theorem dX12_partsAt_9 : decode cX12_partsAt 9 = .ok (.if_icmp .ge 27, 3) := by decide +kernel
theorem dX12_partsAt_12 : decode cX12_partsAt 12 = .ok (.iload_n 2, 1) := by decide +kernel
theorem dX12_partsAt_13 : decode cX12_partsAt 13 = .ok (.aload_n 0, 1) := by decide +kernel
theorem dX12_partsAt_14 : decode cX12_partsAt 14 = .ok (.getfield 46, 3) := by decide +kernel
theorem dX12_partsAt_17 : decode cX12_partsAt 17 = .ok (.iload_n 3, 1) := by decide +kernel
theorem dX12_partsAt_18 : decode cX12_partsAt 18 = .ok (.iaload, 1) := by decide +kernel
theorem dX12_partsAt_19 : decode cX12_partsAt 19 = .ok (.iload_n 1, 1) := by decide +kernel
theorem dX12_partsAt_20 : decode cX12_partsAt 20 = .ok (.if_icmp .ne 7, 3) := by decide +kernel
theorem dX12_partsAt_23 : decode cX12_partsAt 23 = .ok (.iconst 1, 1) := by decide +kernel
theorem dX12_partsAt_24 : decode cX12_partsAt 24 = .ok (.goto 4, 3) := by decide +kernel
theorem dX12_partsAt_27 : decode cX12_partsAt 27 = .ok (.iconst 0, 1) := by decide +kernel
theorem dX12_partsAt_28 : decode cX12_partsAt 28 = .ok (.iadd, 1) := by decide +kernel
theorem dX12_partsAt_29 : decode cX12_partsAt 29 = .ok (.istore_n 2, 1) := by decide +kernel
theorem dX12_partsAt_30 : decode cX12_partsAt 30 = .ok (.iinc 3 1, 3) := by decide +kernel
theorem dX12_partsAt_33 : decode cX12_partsAt 33 = .ok (.goto (-29), 3) := by decide +kernel
theorem dX12_partsAt_36 : decode cX12_partsAt 36 = .ok (.iload_n 2, 1) := by decide +kernel
theorem dX12_partsAt_37 : decode cX12_partsAt 37 = .ok (.ireturn, 1) := by decide +kernel
theorem dJ0_length_8abf5_0 : decode cJ0_length_8abf5 0 = .ok (.aload_n 0, 1) := by decide +kernel
theorem dJ0_length_8abf5_1 : decode cJ0_length_8abf5 1 = .ok (.getfield 9, 3) := by decide +kernel
theorem dJ0_length_8abf5_4 : decode cJ0_length_8abf5 4 = .ok (.arraylength, 1) := by decide +kernel
theorem dJ0_length_8abf5_5 : decode cJ0_length_8abf5 5 = .ok (.aload_n 0, 1) := by decide +kernel
theorem dJ0_length_8abf5_6 : decode cJ0_length_8abf5 6 = .ok (.invokevirtual 335, 3) := by decide +kernel
theorem dJ0_length_8abf5_9 : decode cJ0_length_8abf5 9 = .ok (.ishr, 1) := by decide +kernel
theorem dJ0_length_8abf5_10 : decode cJ0_length_8abf5 10 = .ok (.ireturn, 1) := by decide +kernel
theorem dJ0_indexOf_0f7a4_0 : decode cJ0_indexOf_0f7a4 0 = .ok (.aload_n 0, 1) := by decide +kernel
theorem dJ0_indexOf_0f7a4_1 : decode cJ0_indexOf_0f7a4 1 = .ok (.iload_n 1, 1) := by decide +kernel
theorem dJ0_indexOf_0f7a4_2 : decode cJ0_indexOf_0f7a4 2 = .ok (.iconst 0, 1) := by decide +kernel
theorem dJ0_indexOf_0f7a4_3 : decode cJ0_indexOf_0f7a4 3 = .ok (.invokevirtual 633, 3) := by decide +kernel
theorem dJ0_indexOf_0f7a4_6 : decode cJ0_indexOf_0f7a4 6 = .ok (.ireturn, 1) := by decide +kernel
theorem dJ0_indexOf_7cf53_0 : decode cJ0_indexOf_7cf53 0 = .ok (.aload_n 0, 1) := by decide +kernel
theorem dJ0_indexOf_7cf53_1 : decode cJ0_indexOf_7cf53 1 = .ok (.invokevirtual 492, 3) := by decide +kernel
theorem dJ0_indexOf_7cf53_4 : decode cJ0_indexOf_7cf53 4 = .ok (.ifCond .eq 19, 3) := by decide +kernel
theorem dJ0_indexOf_7cf53_7 : decode cJ0_indexOf_7cf53 7 = .ok (.aload_n 0, 1) := by decide +kernel
theorem dJ0_indexOf_7cf53_8 : decode cJ0_indexOf_7cf53 8 = .ok (.getfield 9, 3) := by decide +kernel
theorem dJ0_indexOf_7cf53_11 : decode cJ0_indexOf_7cf53 11 = .ok (.iload_n 1, 1) := by decide +kernel
theorem dJ0_indexOf_7cf53_12 : decode cJ0_indexOf_7cf53 12 = .ok (.iload_n 2, 1) := by decide +kernel
theorem dJ0_indexOf_7cf53_13 : decode cJ0_indexOf_7cf53 13 = .ok (.aload_n 0, 1) := by decide +kernel
theorem dJ0_indexOf_7cf53_14 : decode cJ0_indexOf_7cf53 14 = .ok (.invokevirtual 505, 3) := by decide +kernel
theorem dJ0_indexOf_7cf53_17 : decode cJ0_indexOf_7cf53 17 = .ok (.invokestatic 637, 3) := by decide +kernel
theorem dJ0_indexOf_7cf53_20 : decode cJ0_indexOf_7cf53 20 = .ok (.goto 16, 3) := by decide +kernel
theorem dJ0_indexOf_7cf53_36 : decode cJ0_indexOf_7cf53 36 = .ok (.ireturn, 1) := by decide +kernel
theorem dJ0_coder_7d493_0 : decode cJ0_coder_7d493 0 = .ok (.getstatic 38, 3) := by decide +kernel
theorem dJ0_coder_7d493_3 : decode cJ0_coder_7d493 3 = .ok (.ifCond .eq 10, 3) := by decide +kernel
theorem dJ0_coder_7d493_6 : decode cJ0_coder_7d493 6 = .ok (.aload_n 0, 1) := by decide +kernel
theorem dJ0_coder_7d493_7 : decode cJ0_coder_7d493 7 = .ok (.getfield 15, 3) := by decide +kernel
theorem dJ0_coder_7d493_10 : decode cJ0_coder_7d493 10 = .ok (.goto 4, 3) := by decide +kernel
theorem dJ0_coder_7d493_14 : decode cJ0_coder_7d493 14 = .ok (.ireturn, 1) := by decide +kernel
theorem dJ0_isLatin1_aae02_0 : decode cJ0_isLatin1_aae02 0 = .ok (.getstatic 38, 3) := by decide +kernel
theorem dJ0_isLatin1_aae02_3 : decode cJ0_isLatin1_aae02 3 = .ok (.ifCond .eq 14, 3) := by decide +kernel
theorem dJ0_isLatin1_aae02_6 : decode cJ0_isLatin1_aae02 6 = .ok (.aload_n 0, 1) := by decide +kernel
theorem dJ0_isLatin1_aae02_7 : decode cJ0_isLatin1_aae02 7 = .ok (.getfield 15, 3) := by decide +kernel
theorem dJ0_isLatin1_aae02_10 : decode cJ0_isLatin1_aae02 10 = .ok (.ifCond .ne 7, 3) := by decide +kernel
theorem dJ0_isLatin1_aae02_13 : decode cJ0_isLatin1_aae02 13 = .ok (.iconst 1, 1) := by decide +kernel
theorem dJ0_isLatin1_aae02_14 : decode cJ0_isLatin1_aae02 14 = .ok (.goto 4, 3) := by decide +kernel
theorem dJ0_isLatin1_aae02_18 : decode cJ0_isLatin1_aae02 18 = .ok (.ireturn, 1) := by decide +kernel
theorem dJ1_canEncode_9a6ad_0 : decode cJ1_canEncode_9a6ad 0 = .ok (.iload_n 0, 1) := by decide +kernel
theorem dJ1_canEncode_9a6ad_1 : decode cJ1_canEncode_9a6ad 1 = .ok (.ifCond .lt 14, 3) := by decide +kernel
theorem dJ1_canEncode_9a6ad_4 : decode cJ1_canEncode_9a6ad 4 = .ok (.iload_n 0, 1) := by decide +kernel
theorem dJ1_canEncode_9a6ad_5 : decode cJ1_canEncode_9a6ad 5 = .ok (.sipush 255, 3) := by decide +kernel
theorem dJ1_canEncode_9a6ad_8 : decode cJ1_canEncode_9a6ad 8 = .ok (.if_icmp .gt 7, 3) := by decide +kernel
theorem dJ1_canEncode_9a6ad_11 : decode cJ1_canEncode_9a6ad 11 = .ok (.iconst 1, 1) := by decide +kernel
theorem dJ1_canEncode_9a6ad_12 : decode cJ1_canEncode_9a6ad 12 = .ok (.goto 4, 3) := by decide +kernel
theorem dJ1_canEncode_9a6ad_15 : decode cJ1_canEncode_9a6ad 15 = .ok (.iconst 0, 1) := by decide +kernel
theorem dJ1_canEncode_9a6ad_16 : decode cJ1_canEncode_9a6ad 16 = .ok (.ireturn, 1) := by decide +kernel
theorem dJ1_indexOf_4cfef_0 : decode cJ1_indexOf_4cfef 0 = .ok (.iload_n 1, 1) := by decide +kernel
theorem dJ1_indexOf_4cfef_1 : decode cJ1_indexOf_4cfef 1 = .ok (.invokestatic 88, 3) := by decide +kernel
theorem dJ1_indexOf_4cfef_4 : decode cJ1_indexOf_4cfef 4 = .ok (.ifCond .ne 5, 3) := by decide +kernel
theorem dJ1_indexOf_4cfef_7 : decode cJ1_indexOf_4cfef 7 = .ok (.iconst (-1), 1) := by decide +kernel
theorem dJ1_indexOf_4cfef_8 : decode cJ1_indexOf_4cfef 8 = .ok (.ireturn, 1) := by decide +kernel
theorem dJ1_indexOf_4cfef_9 : decode cJ1_indexOf_4cfef 9 = .ok (.iload_n 2, 1) := by decide +kernel
theorem dJ1_indexOf_4cfef_10 : decode cJ1_indexOf_4cfef 10 = .ok (.iconst 0, 1) := by decide +kernel
theorem dJ1_indexOf_4cfef_11 : decode cJ1_indexOf_4cfef 11 = .ok (.invokestatic 92, 3) := by decide +kernel
theorem dJ1_indexOf_4cfef_14 : decode cJ1_indexOf_4cfef 14 = .ok (.istore_n 2, 1) := by decide +kernel
theorem dJ1_indexOf_4cfef_15 : decode cJ1_indexOf_4cfef 15 = .ok (.iload_n 3, 1) := by decide +kernel
theorem dJ1_indexOf_4cfef_16 : decode cJ1_indexOf_4cfef 16 = .ok (.aload_n 0, 1) := by decide +kernel
theorem dJ1_indexOf_4cfef_17 : decode cJ1_indexOf_4cfef 17 = .ok (.arraylength, 1) := by decide +kernel
theorem dJ1_indexOf_4cfef_18 : decode cJ1_indexOf_4cfef 18 = .ok (.invokestatic 38, 3) := by decide +kernel
theorem dJ1_indexOf_4cfef_21 : decode cJ1_indexOf_4cfef 21 = .ok (.istore_n 3, 1) := by decide +kernel
theorem dJ1_indexOf_4cfef_22 : decode cJ1_indexOf_4cfef 22 = .ok (.iload_n 2, 1) := by decide +kernel
theorem dJ1_indexOf_4cfef_23 : decode cJ1_indexOf_4cfef 23 = .ok (.iload_n 3, 1) := by decide +kernel
theorem dJ1_indexOf_4cfef_24 : decode cJ1_indexOf_4cfef 24 = .ok (.if_icmp .lt 5, 3) := by decide +kernel
theorem dJ1_indexOf_4cfef_27 : decode cJ1_indexOf_4cfef 27 = .ok (.iconst (-1), 1) := by decide +kernel
theorem dJ1_indexOf_4cfef_28 : decode cJ1_indexOf_4cfef 28 = .ok (.ireturn, 1) := by decide +kernel
theorem dJ1_indexOf_4cfef_29 : decode cJ1_indexOf_4cfef 29 = .ok (.aload_n 0, 1) := by decide +kernel
theorem dJ1_indexOf_4cfef_30 : decode cJ1_indexOf_4cfef 30 = .ok (.iload_n 1, 1) := by decide +kernel
theorem dJ1_indexOf_4cfef_31 : decode cJ1_indexOf_4cfef 31 = .ok (.iload_n 2, 1) := by decide +kernel
theorem dJ1_indexOf_4cfef_32 : decode cJ1_indexOf_4cfef 32 = .ok (.iload_n 3, 1) := by decide +kernel
theorem dJ1_indexOf_4cfef_33 : decode cJ1_indexOf_4cfef 33 = .ok (.invokestatic 95, 3) := by decide +kernel
theorem dJ1_indexOf_4cfef_36 : decode cJ1_indexOf_4cfef 36 = .ok (.ireturn, 1) := by decide +kernel
theorem dJ1_indexOfChar_4cfef_0 : decode cJ1_indexOfChar_4cfef 0 = .ok (.iload_n 1, 1) := by decide +kernel
theorem dJ1_indexOfChar_4cfef_1 : decode cJ1_indexOfChar_4cfef 1 = .ok (.i2b, 1) := by decide +kernel
theorem dJ1_indexOfChar_4cfef_2 : decode cJ1_indexOfChar_4cfef 2 = .ok (.istore 4, 2) := by decide +kernel
theorem dJ1_indexOfChar_4cfef_4 : decode cJ1_indexOfChar_4cfef 4 = .ok (.iload_n 2, 1) := by decide +kernel
theorem dJ1_indexOfChar_4cfef_5 : decode cJ1_indexOfChar_4cfef 5 = .ok (.istore 5, 2) := by decide +kernel
theorem dJ1_indexOfChar_4cfef_7 : decode cJ1_indexOfChar_4cfef 7 = .ok (.iload 5, 2) := by decide +kernel
theorem dJ1_indexOfChar_4cfef_9 : decode cJ1_indexOfChar_4cfef 9 = .ok (.iload_n 3, 1) := by decide +kernel
theorem dJ1_indexOfChar_4cfef_10 : decode cJ1_indexOfChar_4cfef 10 = .ok (.if_icmp .ge 21, 3) := by decide +kernel
theorem dJ1_indexOfChar_4cfef_13 : decode cJ1_indexOfChar_4cfef 13 = .ok (.aload_n 0, 1) := by decide +kernel
theorem dJ1_indexOfChar_4cfef_14 : decode cJ1_indexOfChar_4cfef 14 = .ok (.iload 5, 2) := by decide +kernel
theorem dJ1_indexOfChar_4cfef_16 : decode cJ1_indexOfChar_4cfef 16 = .ok (.baload, 1) := by decide +kernel
theorem dJ1_indexOfChar_4cfef_17 : decode cJ1_indexOfChar_4cfef 17 = .ok (.iload 4, 2) := by decide +kernel
theorem dJ1_indexOfChar_4cfef_19 : decode cJ1_indexOfChar_4cfef 19 = .ok (.if_icmp .ne 6, 3) := by decide +kernel
theorem dJ1_indexOfChar_4cfef_22 : decode cJ1_indexOfChar_4cfef 22 = .ok (.iload 5, 2) := by decide +kernel
theorem dJ1_indexOfChar_4cfef_24 : decode cJ1_indexOfChar_4cfef 24 = .ok (.ireturn, 1) := by decide +kernel
theorem dJ1_indexOfChar_4cfef_25 : decode cJ1_indexOfChar_4cfef 25 = .ok (.iinc 5 1, 3) := by decide +kernel
theorem dJ1_indexOfChar_4cfef_28 : decode cJ1_indexOfChar_4cfef 28 = .ok (.goto (-21), 3) := by decide +kernel
theorem dJ1_indexOfChar_4cfef_31 : decode cJ1_indexOfChar_4cfef 31 = .ok (.iconst (-1), 1) := by decide +kernel
theorem dJ1_indexOfChar_4cfef_32 : decode cJ1_indexOfChar_4cfef 32 = .ok (.ireturn, 1) := by decide +kernel
