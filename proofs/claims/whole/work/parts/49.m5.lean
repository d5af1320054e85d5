theorem dX8_raceNow_0 : decode cX8_raceNow 0 = .ok (.iconst 0, 1) := by decide +kernel
theorem dX8_raceNow_1 : decode cX8_raceNow 1 = .ok (.istore 4, 2) := by decide +kernel
theorem dX8_raceNow_3 : decode cX8_raceNow 3 = .ok (.iload 4, 2) := by decide +kernel
theorem dX8_raceNow_5 : decode cX8_raceNow 5 = .ok (.bipush 100, 2) := by decide +kernel
theorem dX8_raceNow_7 : decode cX8_raceNow 7 = .ok (.if_icmp .ge 42, 3) := by decide +kernel
theorem dX8_raceNow_10 : decode cX8_raceNow 10 = .ok (.aload_n 0, 1) := by decide +kernel
theorem dX8_raceNow_11 : decode cX8_raceNow 11 = .ok (.getfield 59, 3) := by decide +kernel
theorem dX8_raceNow_14 : decode cX8_raceNow 14 = .ok (.iload 4, 2) := by decide +kernel
theorem dX8_raceNow_16 : decode cX8_raceNow 16 = .ok (.iload 4, 2) := by decide +kernel
theorem dX8_raceNow_18 : decode cX8_raceNow 18 = .ok (.bipush 10, 2) := by decide +kernel
theorem dX8_raceNow_20 : decode cX8_raceNow 20 = .ok (.aload_n 0, 1) := by decide +kernel
theorem dX8_raceNow_21 : decode cX8_raceNow 21 = .ok (.getfield 19, 3) := by decide +kernel
theorem dX8_raceNow_24 : decode cX8_raceNow 24 = .ok (.iload_n 1, 1) := by decide +kernel
theorem dX8_raceNow_25 : decode cX8_raceNow 25 = .ok (.iaload, 1) := by decide +kernel
theorem dX8_raceNow_26 : decode cX8_raceNow 26 = .ok (.imul, 1) := by decide +kernel
theorem dX8_raceNow_27 : decode cX8_raceNow 27 = .ok (.aload_n 0, 1) := by decide +kernel
theorem dX8_raceNow_28 : decode cX8_raceNow 28 = .ok (.getfield 19, 3) := by decide +kernel
theorem dX8_raceNow_31 : decode cX8_raceNow 31 = .ok (.iload_n 2, 1) := by decide +kernel
theorem dX8_raceNow_32 : decode cX8_raceNow 32 = .ok (.iaload, 1) := by decide +kernel
theorem dX8_raceNow_33 : decode cX8_raceNow 33 = .ok (.iadd, 1) := by decide +kernel
theorem dX8_raceNow_34 : decode cX8_raceNow 34 = .ok (.if_icmp .ne 7, 3) := by decide +kernel
theorem dX8_raceNow_37 : decode cX8_raceNow 37 = .ok (.lconst 1, 1) := by decide +kernel
theorem dX8_raceNow_38 : decode cX8_raceNow 38 = .ok (.goto 4, 3) := by decide +kernel
theorem dX8_raceNow_41 : decode cX8_raceNow 41 = .ok (.lconst 0, 1) := by decide +kernel
theorem dX8_raceNow_42 : decode cX8_raceNow 42 = .ok (.lastore, 1) := by decide +kernel
theorem dX8_raceNow_43 : decode cX8_raceNow 43 = .ok (.iinc 4 1, 3) := by decide +kernel
theorem dX8_raceNow_46 : decode cX8_raceNow 46 = .ok (.goto (-43), 3) := by decide +kernel
theorem dX8_raceNow_49 : decode cX8_raceNow 49 = .ok (.iconst 0, 1) := by decide +kernel
theorem dX8_raceNow_50 : decode cX8_raceNow 50 = .ok (.istore 4, 2) := by decide +kernel
theorem dX8_raceNow_52 : decode cX8_raceNow 52 = .ok (.iload 4, 2) := by decide +kernel
theorem dX8_raceNow_54 : decode cX8_raceNow 54 = .ok (.iload_n 3, 1) := by decide +kernel
theorem dX8_raceNow_55 : decode cX8_raceNow 55 = .ok (.if_icmp .ge 219, 3) := by decide +kernel
theorem dX8_raceNow_58 : decode cX8_raceNow 58 = .ok (.iconst 0, 1) := by decide +kernel
theorem dX8_raceNow_59 : decode cX8_raceNow 59 = .ok (.istore 5, 2) := by decide +kernel
theorem dX8_raceNow_61 : decode cX8_raceNow 61 = .ok (.iload 5, 2) := by decide +kernel
theorem dX8_raceNow_63 : decode cX8_raceNow 63 = .ok (.bipush 100, 2) := by decide +kernel
theorem dX8_raceNow_65 : decode cX8_raceNow 65 = .ok (.if_icmp .ge 17, 3) := by decide +kernel
theorem dX8_raceNow_68 : decode cX8_raceNow 68 = .ok (.aload_n 0, 1) := by decide +kernel
theorem dX8_raceNow_69 : decode cX8_raceNow 69 = .ok (.getfield 62, 3) := by decide +kernel
theorem dX8_raceNow_72 : decode cX8_raceNow 72 = .ok (.iload 5, 2) := by decide +kernel
theorem dX8_raceNow_74 : decode cX8_raceNow 74 = .ok (.lconst 0, 1) := by decide +kernel
theorem dX8_raceNow_75 : decode cX8_raceNow 75 = .ok (.lastore, 1) := by decide +kernel
theorem dX8_raceNow_76 : decode cX8_raceNow 76 = .ok (.iinc 5 1, 3) := by decide +kernel
theorem dX8_raceNow_79 : decode cX8_raceNow 79 = .ok (.goto (-18), 3) := by decide +kernel
theorem dX8_raceNow_82 : decode cX8_raceNow 82 = .ok (.iconst 0, 1) := by decide +kernel
theorem dX8_raceNow_83 : decode cX8_raceNow 83 = .ok (.istore 5, 2) := by decide +kernel
theorem dX8_raceNow_85 : decode cX8_raceNow 85 = .ok (.iload 5, 2) := by decide +kernel
theorem dX8_raceNow_87 : decode cX8_raceNow 87 = .ok (.bipush 100, 2) := by decide +kernel
theorem dX8_raceNow_89 : decode cX8_raceNow 89 = .ok (.if_icmp .ge 149, 3) := by decide +kernel
theorem dX8_raceNow_92 : decode cX8_raceNow 92 = .ok (.iload 5, 2) := by decide +kernel
theorem dX8_raceNow_94 : decode cX8_raceNow 94 = .ok (.bipush 10, 2) := by decide +kernel
theorem dX8_raceNow_96 : decode cX8_raceNow 96 = .ok (.idiv, 1) := by decide +kernel
theorem dX8_raceNow_97 : decode cX8_raceNow 97 = .ok (.bipush 9, 2) := by decide +kernel
theorem dX8_raceNow_99 : decode cX8_raceNow 99 = .ok (.if_icmp .eq 13, 3) := by decide +kernel
theorem dX8_raceNow_102 : decode cX8_raceNow 102 = .ok (.iload 5, 2) := by decide +kernel
theorem dX8_raceNow_104 : decode cX8_raceNow 104 = .ok (.bipush 10, 2) := by decide +kernel
theorem dX8_raceNow_106 : decode cX8_raceNow 106 = .ok (.irem, 1) := by decide +kernel
theorem dX8_raceNow_107 : decode cX8_raceNow 107 = .ok (.bipush 9, 2) := by decide +kernel
theorem dX8_raceNow_109 : decode cX8_raceNow 109 = .ok (.if_icmp .ne 7, 3) := by decide +kernel
theorem dX8_raceNow_112 : decode cX8_raceNow 112 = .ok (.iconst 1, 1) := by decide +kernel
theorem dX8_raceNow_113 : decode cX8_raceNow 113 = .ok (.goto 4, 3) := by decide +kernel
theorem dX8_raceNow_116 : decode cX8_raceNow 116 = .ok (.iconst 0, 1) := by decide +kernel
theorem dX8_raceNow_117 : decode cX8_raceNow 117 = .ok (.istore 6, 2) := by decide +kernel
theorem dX8_raceNow_119 : decode cX8_raceNow 119 = .ok (.iconst 0, 1) := by decide +kernel
theorem dX8_raceNow_120 : decode cX8_raceNow 120 = .ok (.istore 7, 2) := by decide +kernel
theorem dX8_raceNow_122 : decode cX8_raceNow 122 = .ok (.iload 7, 2) := by decide +kernel
theorem dX8_raceNow_124 : decode cX8_raceNow 124 = .ok (.iconst 4, 1) := by decide +kernel
theorem dX8_raceNow_125 : decode cX8_raceNow 125 = .ok (.if_icmp .gt 107, 3) := by decide +kernel
theorem dX8_raceNow_128 : decode cX8_raceNow 128 = .ok (.aload_n 0, 1) := by decide +kernel
theorem dX8_raceNow_129 : decode cX8_raceNow 129 = .ok (.getfield 7, 3) := by decide +kernel
theorem dX8_raceNow_132 : decode cX8_raceNow 132 = .ok (.iconst 3, 1) := by decide +kernel
theorem dX8_raceNow_133 : decode cX8_raceNow 133 = .ok (.iload 7, 2) := by decide +kernel
theorem dX8_raceNow_135 : decode cX8_raceNow 135 = .ok (.imul, 1) := by decide +kernel
theorem dX8_raceNow_136 : decode cX8_raceNow 136 = .ok (.iaload, 1) := by decide +kernel
theorem dX8_raceNow_137 : decode cX8_raceNow 137 = .ok (.aload_n 0, 1) := by decide +kernel
theorem dX8_raceNow_138 : decode cX8_raceNow 138 = .ok (.getfield 7, 3) := by decide +kernel
theorem dX8_raceNow_141 : decode cX8_raceNow 141 = .ok (.iconst 3, 1) := by decide +kernel
theorem dX8_raceNow_142 : decode cX8_raceNow 142 = .ok (.iload 7, 2) := by decide +kernel
theorem dX8_raceNow_144 : decode cX8_raceNow 144 = .ok (.imul, 1) := by decide +kernel
theorem dX8_raceNow_145 : decode cX8_raceNow 145 = .ok (.iconst 1, 1) := by decide +kernel
theorem dX8_raceNow_146 : decode cX8_raceNow 146 = .ok (.iadd, 1) := by decide +kernel
theorem dX8_raceNow_147 : decode cX8_raceNow 147 = .ok (.iaload, 1) := by decide +kernel
theorem dX8_raceNow_148 : decode cX8_raceNow 148 = .ok (.iadd, 1) := by decide +kernel
theorem dX8_raceNow_149 : decode cX8_raceNow 149 = .ok (.aload_n 0, 1) := by decide +kernel
theorem dX8_raceNow_150 : decode cX8_raceNow 150 = .ok (.getfield 7, 3) := by decide +kernel
theorem dX8_raceNow_153 : decode cX8_raceNow 153 = .ok (.iconst 3, 1) := by decide +kernel
theorem dX8_raceNow_154 : decode cX8_raceNow 154 = .ok (.iload 7, 2) := by decide +kernel
theorem dX8_raceNow_156 : decode cX8_raceNow 156 = .ok (.imul, 1) := by decide +kernel
theorem dX8_raceNow_157 : decode cX8_raceNow 157 = .ok (.iconst 2, 1) := by decide +kernel
theorem dX8_raceNow_158 : decode cX8_raceNow 158 = .ok (.iadd, 1) := by decide +kernel
theorem dX8_raceNow_159 : decode cX8_raceNow 159 = .ok (.iaload, 1) := by decide +kernel
theorem dX8_raceNow_160 : decode cX8_raceNow 160 = .ok (.iadd, 1) := by decide +kernel
theorem dX8_raceNow_161 : decode cX8_raceNow 161 = .ok (.istore 8, 2) := by decide +kernel
theorem dX8_raceNow_163 : decode cX8_raceNow 163 = .ok (.iload 6, 2) := by decide +kernel
theorem dX8_raceNow_165 : decode cX8_raceNow 165 = .ok (.ifCond .eq 8, 3) := by decide +kernel
theorem dX8_raceNow_168 : decode cX8_raceNow 168 = .ok (.iload 5, 2) := by decide +kernel
theorem dX8_raceNow_170 : decode cX8_raceNow 170 = .ok (.goto 33, 3) := by decide +kernel
theorem dX8_raceNow_173 : decode cX8_raceNow 173 = .ok (.bipush 10, 2) := by decide +kernel
theorem dX8_raceNow_175 : decode cX8_raceNow 175 = .ok (.aload_n 0, 1) := by decide +kernel
theorem dX8_raceNow_176 : decode cX8_raceNow 176 = .ok (.iconst 0, 1) := by decide +kernel
theorem dX8_raceNow_177 : decode cX8_raceNow 177 = .ok (.iload 5, 2) := by decide +kernel
theorem dX8_raceNow_179 : decode cX8_raceNow 179 = .ok (.bipush 10, 2) := by decide +kernel
theorem dX8_raceNow_181 : decode cX8_raceNow 181 = .ok (.idiv, 1) := by decide +kernel
theorem dX8_raceNow_182 : decode cX8_raceNow 182 = .ok (.iload 7, 2) := by decide +kernel
theorem dX8_raceNow_184 : decode cX8_raceNow 184 = .ok (.iconst (-1), 1) := by decide +kernel
theorem dX8_raceNow_185 : decode cX8_raceNow 185 = .ok (.invokevirtual 166, 3) := by decide +kernel
theorem dX8_raceNow_188 : decode cX8_raceNow 188 = .ok (.imul, 1) := by decide +kernel
theorem dX8_raceNow_189 : decode cX8_raceNow 189 = .ok (.aload_n 0, 1) := by decide +kernel
theorem dX8_raceNow_190 : decode cX8_raceNow 190 = .ok (.iconst 0, 1) := by decide +kernel
theorem dX8_raceNow_191 : decode cX8_raceNow 191 = .ok (.iload 5, 2) := by decide +kernel
theorem dX8_raceNow_193 : decode cX8_raceNow 193 = .ok (.bipush 10, 2) := by decide +kernel
theorem dX8_raceNow_195 : decode cX8_raceNow 195 = .ok (.irem, 1) := by decide +kernel
theorem dX8_raceNow_196 : decode cX8_raceNow 196 = .ok (.iload 7, 2) := by decide +kernel
theorem dX8_raceNow_198 : decode cX8_raceNow 198 = .ok (.iconst (-1), 1) := by decide +kernel
theorem dX8_raceNow_199 : decode cX8_raceNow 199 = .ok (.invokevirtual 166, 3) := by decide +kernel
theorem dX8_raceNow_202 : decode cX8_raceNow 202 = .ok (.iadd, 1) := by decide +kernel
theorem dX8_raceNow_203 : decode cX8_raceNow 203 = .ok (.istore 9, 2) := by decide +kernel
theorem dX8_raceNow_205 : decode cX8_raceNow 205 = .ok (.aload_n 0, 1) := by decide +kernel
theorem dX8_raceNow_206 : decode cX8_raceNow 206 = .ok (.getfield 62, 3) := by decide +kernel
theorem dX8_raceNow_209 : decode cX8_raceNow 209 = .ok (.iload 9, 2) := by decide +kernel
theorem dX8_raceNow_211 : decode cX8_raceNow 211 = .ok (.dup2, 1) := by decide +kernel
theorem dX8_raceNow_212 : decode cX8_raceNow 212 = .ok (.laload, 1) := by decide +kernel
theorem dX8_raceNow_213 : decode cX8_raceNow 213 = .ok (.aload_n 0, 1) := by decide +kernel
theorem dX8_raceNow_214 : decode cX8_raceNow 214 = .ok (.getfield 59, 3) := by decide +kernel
theorem dX8_raceNow_217 : decode cX8_raceNow 217 = .ok (.iload 5, 2) := by decide +kernel
theorem dX8_raceNow_219 : decode cX8_raceNow 219 = .ok (.laload, 1) := by decide +kernel
theorem dX8_raceNow_220 : decode cX8_raceNow 220 = .ok (.iload 8, 2) := by decide +kernel
theorem dX8_raceNow_222 : decode cX8_raceNow 222 = .ok (.i2l, 1) := by decide +kernel
theorem dX8_raceNow_223 : decode cX8_raceNow 223 = .ok (.lmul, 1) := by decide +kernel
theorem dX8_raceNow_224 : decode cX8_raceNow 224 = .ok (.ladd, 1) := by decide +kernel
theorem dX8_raceNow_225 : decode cX8_raceNow 225 = .ok (.lastore, 1) := by decide +kernel
theorem dX8_raceNow_226 : decode cX8_raceNow 226 = .ok (.iinc 7 1, 3) := by decide +kernel
theorem dX8_raceNow_229 : decode cX8_raceNow 229 = .ok (.goto (-107), 3) := by decide +kernel
theorem dX8_raceNow_232 : decode cX8_raceNow 232 = .ok (.iinc 5 1, 3) := by decide +kernel
theorem dX8_raceNow_235 : decode cX8_raceNow 235 = .ok (.goto (-150), 3) := by decide +kernel
theorem dX8_raceNow_238 : decode cX8_raceNow 238 = .ok (.iconst 0, 1) := by decide +kernel
theorem dX8_raceNow_239 : decode cX8_raceNow 239 = .ok (.istore 5, 2) := by decide +kernel
theorem dX8_raceNow_241 : decode cX8_raceNow 241 = .ok (.iload 5, 2) := by decide +kernel
theorem dX8_raceNow_243 : decode cX8_raceNow 243 = .ok (.bipush 100, 2) := by decide +kernel
theorem dX8_raceNow_245 : decode cX8_raceNow 245 = .ok (.if_icmp .ge 23, 3) := by decide +kernel
theorem dX8_raceNow_248 : decode cX8_raceNow 248 = .ok (.aload_n 0, 1) := by decide +kernel
theorem dX8_raceNow_249 : decode cX8_raceNow 249 = .ok (.getfield 59, 3) := by decide +kernel
theorem dX8_raceNow_252 : decode cX8_raceNow 252 = .ok (.iload 5, 2) := by decide +kernel
theorem dX8_raceNow_254 : decode cX8_raceNow 254 = .ok (.aload_n 0, 1) := by decide +kernel
theorem dX8_raceNow_255 : decode cX8_raceNow 255 = .ok (.getfield 62, 3) := by decide +kernel
theorem dX8_raceNow_258 : decode cX8_raceNow 258 = .ok (.iload 5, 2) := by decide +kernel
theorem dX8_raceNow_260 : decode cX8_raceNow 260 = .ok (.laload, 1) := by decide +kernel
theorem dX8_raceNow_261 : decode cX8_raceNow 261 = .ok (.lastore, 1) := by decide +kernel
theorem dX8_raceNow_262 : decode cX8_raceNow 262 = .ok (.iinc 5 1, 3) := by decide +kernel
theorem dX8_raceNow_265 : decode cX8_raceNow 265 = .ok (.goto (-24), 3) := by decide +kernel
theorem dX8_raceNow_268 : decode cX8_raceNow 268 = .ok (.iinc 4 1, 3) := by decide +kernel
theorem dX8_raceNow_271 : decode cX8_raceNow 271 = .ok (.goto (-219), 3) := by decide +kernel
theorem dX8_raceNow_274 : decode cX8_raceNow 274 = .ok (.lconst 0, 1) := by decide +kernel
theorem dX8_raceNow_275 : decode cX8_raceNow 275 = .ok (.lstore 4, 2) := by decide +kernel
theorem dX8_raceNow_277 : decode cX8_raceNow 277 = .ok (.iconst 0, 1) := by decide +kernel
theorem dX8_raceNow_278 : decode cX8_raceNow 278 = .ok (.istore 6, 2) := by decide +kernel
theorem dX8_raceNow_280 : decode cX8_raceNow 280 = .ok (.iload 6, 2) := by decide +kernel
theorem dX8_raceNow_282 : decode cX8_raceNow 282 = .ok (.bipush 9, 2) := by decide +kernel
theorem dX8_raceNow_284 : decode cX8_raceNow 284 = .ok (.if_icmp .ge 24, 3) := by decide +kernel
theorem dX8_raceNow_287 : decode cX8_raceNow 287 = .ok (.lload 4, 2) := by decide +kernel
theorem dX8_raceNow_289 : decode cX8_raceNow 289 = .ok (.aload_n 0, 1) := by decide +kernel
theorem dX8_raceNow_290 : decode cX8_raceNow 290 = .ok (.getfield 59, 3) := by decide +kernel
theorem dX8_raceNow_293 : decode cX8_raceNow 293 = .ok (.bipush 90, 2) := by decide +kernel
theorem dX8_raceNow_295 : decode cX8_raceNow 295 = .ok (.iload 6, 2) := by decide +kernel
theorem dX8_raceNow_297 : decode cX8_raceNow 297 = .ok (.iadd, 1) := by decide +kernel
theorem dX8_raceNow_298 : decode cX8_raceNow 298 = .ok (.laload, 1) := by decide +kernel
theorem dX8_raceNow_299 : decode cX8_raceNow 299 = .ok (.ladd, 1) := by decide +kernel
theorem dX8_raceNow_300 : decode cX8_raceNow 300 = .ok (.lstore 4, 2) := by decide +kernel
theorem dX8_raceNow_302 : decode cX8_raceNow 302 = .ok (.iinc 6 1, 3) := by decide +kernel
theorem dX8_raceNow_305 : decode cX8_raceNow 305 = .ok (.goto (-25), 3) := by decide +kernel
theorem dX8_raceNow_308 : decode cX8_raceNow 308 = .ok (.lload 4, 2) := by decide +kernel
theorem dX8_raceNow_310 : decode cX8_raceNow 310 = .ok (.lreturn, 1) := by decide +kernel
set_option maxHeartbeats 4000000 in
set_option maxRecDepth 100000 in
theorem c_X8_raceNow {l : Launch} {g : GW} {a : AT} {i j n : Nat} (μ : Mm) (hO : AOK a) (hM : RM μ a) (hnb : 0 < aNb a) (hi : i < sN (aS a)) (hj : j < sN (aS a)) (hn : n ≤ 6) : Con l g yX8_raceNow cX8_raceNow 10 (some .long) 1 [.ref 65, .int (nI i), .int (nI j), .int (nI n)] μ (fun r μ' => r = some (.long (lN (raT (aTn a) (aOw a) n (sP (aS a) i) (sP (aS a) j)))) ∧ FrL μ μ') := by
  obtain ⟨m1, m2, m3, m4, m5, m6, m7, m8, m9, m10, m11, m12, m13⟩ := id hM
  obtain ⟨o1, o2, o3, o4, o5, ⟨s1, s2, s3, s4⟩, oK, o8, o9, o10⟩ := id hO
  obtain ⟨n1, n2, n3, n4, n5⟩ := m6 i hi
  obtain ⟨k4, p9, c6⟩ := s4 i (by omega)
  obtain ⟨j1, j2, j3, j4, j5⟩ := m6 j hj
  have jp9 := (s4 j (by omega)).2.1
  have hB := m4 hnb
  refine Con.of [.ref 65, .int (nI i), .int (nI j), .int (nI n), .null, .null, .null, .null, .null, .null] 6 (by decide +kernel) (Nat.le_of_ble_eq_true rfl) rfl ?_
  refine V_iconst (pc := 0) (v := 0) dX8_raceNow_0 (by decide) ?_
  refine V_istore4 (pc := 1) dX8_raceNow_1 (by decide) rfl ?_
  have loopA : ∀ (nA q : Nat) (μ1 : Mm), q ≤ 100 → 100 < q + nA → (FrL μ μ1) → (∀ t, t < q → μ1.2.1 80 t = lN (rcP (aTn a) (aOw a) (10 * sP (aS a) i + sP (aS a) j) 0 t)) → V l g RX8 cX8_raceNow 10 (some .long) 1 3 [.ref 65, .int (nI i), .int (nI j), .int (nI n), .int (nI q), .null, .null, .null, .null, .null] [] μ1 (fun r μ' => r = some (.long (lN (raT (aTn a) (aOw a) n (sP (aS a) i) (sP (aS a) j)))) ∧ FrL μ μ') := by
    intro nA
    induction nA with
    | zero => intro q μ1 h1 h2; exact absurd h2 (by omega)
    | succ nA ihA =>
      intro q μ1 hleA hfuA hF h0
      refine V_iload (pc := 3) dX8_raceNow_3 rfl ?_
      refine V_bipush (pc := 5) (v := 100) dX8_raceNow_5 (by decide) ?_
      refine V_icmpge (pc := 7) (tgt := 49) dX8_raceNow_7 (by decide) (fun h7 => ?_) (fun h7 => ?_)
      · have h7 := (nI_leI (a := 100) (b := q) (by decide) (by omega)).mp h7; obtain rfl : q = 100 := by omega
        refine V_iconst (pc := 49) (v := 0) dX8_raceNow_49 (by decide) ?_
        refine V_istore4 (pc := 50) dX8_raceNow_50 (by decide) rfl ?_
        have loopB : ∀ (nB d : Nat) (μ1 : Mm) (y5 y6 y7 y8 y9 : Value), d ≤ n → n < d + nB → (FrL μ μ1) → (∀ t, t < 100 → μ1.2.1 80 t = lN (rcP (aTn a) (aOw a) (10 * sP (aS a) i + sP (aS a) j) d t)) → V l g RX8 cX8_raceNow 10 (some .long) 1 52 [.ref 65, .int (nI i), .int (nI j), .int (nI n), .int (nI d), y5, y6, y7, y8, y9] [] μ1 (fun r μ' => r = some (.long (lN (raT (aTn a) (aOw a) n (sP (aS a) i) (sP (aS a) j)))) ∧ FrL μ μ') := by
          intro nB
          induction nB with
          | zero => intro d μ1 y5 y6 y7 y8 y9 h1 h2; exact absurd h2 (by omega)
          | succ nB ihB =>
            intro d μ1 y5 y6 y7 y8 y9 hleB hfuB hF1 h1
            refine V_iload (pc := 52) dX8_raceNow_52 rfl ?_
            refine V_iload_n (pc := 54) dX8_raceNow_54 rfl rfl ?_
            refine V_icmpge (pc := 55) (tgt := 274) dX8_raceNow_55 (by decide) (fun h55 => ?_) (fun h55 => ?_)
            · have h55 := (nI_leI (a := n) (b := d) (by omega) (by omega)).mp h55; have hdn : d = n := (by omega)
              refine V_lconst (pc := 274) (v := 0) dX8_raceNow_274 (by decide) ?_
              refine V_lstore4 (pc := 275) dX8_raceNow_275 (by decide) rfl ?_
              refine V_iconst (pc := 277) (v := 0) dX8_raceNow_277 (by decide) ?_
              refine V_istore6 (pc := 278) dX8_raceNow_278 (by decide) rfl ?_
              have loopG : ∀ (nG p : Nat) (u : Int64), p ≤ 9 → 9 < p + nG → (u = lN (smT (fun p => rcP (aTn a) (aOw a) (10 * sP (aS a) i + sP (aS a) j) d (90 + p)) p)) → V l g RX8 cX8_raceNow 10 (some .long) 1 280 [.ref 65, .int (nI i), .int (nI j), .int (nI n), .long u, .null, .int (nI p), y7, y8, y9] [] μ1 (fun r μ' => r = some (.long (lN (raT (aTn a) (aOw a) n (sP (aS a) i) (sP (aS a) j)))) ∧ FrL μ μ') := by
                intro nG
                induction nG with
                | zero => intro p u h1 h2; exact absurd h2 (by omega)
                | succ nG ihG =>
                  intro p u hleG hfuG hu
                  refine V_iload (pc := 280) dX8_raceNow_280 rfl ?_
                  refine V_bipush (pc := 282) (v := 9) dX8_raceNow_282 (by decide) ?_
                  refine V_icmpge (pc := 284) (tgt := 308) dX8_raceNow_284 (by decide) (fun h284 => ?_) (fun h284 => ?_)
                  · have h284 := (nI_leI (a := 9) (b := p) (by decide) (by omega)).mp h284; obtain rfl : p = 9 := by omega
                    refine V_lload (pc := 308) dX8_raceNow_308 rfl ?_
                    refine V_lret (pc := 310) dX8_raceNow_310 rfl ?_
                    have e := dot_rcP (ow := aOw a) o4 (10 * sP (aS a) i + sP (aS a) j) (by omega) d 0
                    rw [dot_0, raV, Nat.add_zero, show (10 * sP (aS a) i + sP (aS a) j) / 10 = sP (aS a) i by omega, show (10 * sP (aS a) i + sP (aS a) j) % 10 = sP (aS a) j by omega] at e
                    exact ⟨by rw [hu, e, hdn], hF1⟩
                  have hlt : p < 9 := nI_l3 (a := 9) (by decide) (by omega) h284
                  refine V_lload (pc := 287) dX8_raceNow_287 rfl ?_
                  refine V_aload_n (pc := 289) dX8_raceNow_289 rfl rfl ?_
                  refine V_getR (pc := 290) (ci := 8) (j := 28) (k2 := 80) dX8_raceNow_290 fl_X8_59 (fun _ _ _ _ => rfl) (by decide) rfl (rf_8_28 rfl) ?_
                  refine V_bipush (pc := 293) (v := 90) dX8_raceNow_293 (by decide) ?_
                  refine V_iload (pc := 295) dX8_raceNow_295 rfl ?_
                  refine V_iadd (pc := 297) dX8_raceNow_297 ?_
                  refine V_lald (pc := 298) (j := (90 + p)) dX8_raceNow_298 (by decide) rfl (by rw [show (90 : Int32) = nI 90 from rfl, nI_add]) (by show 90 + p < 100; omega) ?_
                  refine V_ladd (pc := 299) dX8_raceNow_299 ?_
                  refine V_lstore4 (pc := 300) dX8_raceNow_300 (by decide) rfl ?_
                  refine V_iinc6 (pc := 302) (v := nI (p + 1)) dX8_raceNow_302 (nI_1 p) (by decide) rfl ?_
                  refine V_goto (pc := 305) (tgt := 280) dX8_raceNow_305 (by decide) ?_
                  exact ihG (p + 1) _ (by omega) (by omega) (by rw [hu, h1 (90 + p) (by omega), lN_add]; rfl)
              exact loopG (9 + 1) 0 _ (by omega) (by omega) rfl
            have hltd : d < n := by have := mt (nI_leI (a := n) (b := d) (by omega) (by omega)).mpr h55; omega
            refine V_iconst (pc := 58) (v := 0) dX8_raceNow_58 (by decide) ?_
            refine V_istore5 (pc := 59) dX8_raceNow_59 (by decide) rfl ?_
            have loopC : ∀ (nC q : Nat) (μ2 : Mm), q ≤ 100 → 100 < q + nC → (FrL μ μ2) → (∀ t, t < 100 → μ2.2.1 80 t = lN (rcP (aTn a) (aOw a) (10 * sP (aS a) i + sP (aS a) j) d t)) → (∀ t, t < q → μ2.2.1 81 t = lN 0) → V l g RX8 cX8_raceNow 10 (some .long) 1 61 [.ref 65, .int (nI i), .int (nI j), .int (nI n), .int (nI d), .int (nI q), y6, y7, y8, y9] [] μ2 (fun r μ' => r = some (.long (lN (raT (aTn a) (aOw a) n (sP (aS a) i) (sP (aS a) j)))) ∧ FrL μ μ') := by
              intro nC
              induction nC with
              | zero => intro q μ2 h1 h2; exact absurd h2 (by omega)
              | succ nC ihC =>
                intro q μ2 hleC hfuC hF2 h2 hz
                refine V_iload (pc := 61) dX8_raceNow_61 rfl ?_
                refine V_bipush (pc := 63) (v := 100) dX8_raceNow_63 (by decide) ?_
                refine V_icmpge (pc := 65) (tgt := 82) dX8_raceNow_65 (by decide) (fun h65 => ?_) (fun h65 => ?_)
                · have h65 := (nI_leI (a := 100) (b := q) (by decide) (by omega)).mp h65; obtain rfl : q = 100 := by omega
                  refine V_iconst (pc := 82) (v := 0) dX8_raceNow_82 (by decide) ?_
                  refine V_istore5 (pc := 83) dX8_raceNow_83 (by decide) rfl ?_
                  have loopD : ∀ (nD k : Nat) (μ3 : Mm) (y6 y7 y8 y9 : Value), k ≤ 100 → 100 < k + nD → (FrL μ μ3) → (∀ t, t < 100 → μ3.2.1 80 t = lN (rcP (aTn a) (aOw a) (10 * sP (aS a) i + sP (aS a) j) d t)) → (∀ t, t < 100 → μ3.2.1 81 t = lN (rcK (aTn a) (aOw a) (rcP (aTn a) (aOw a) (10 * sP (aS a) i + sP (aS a) j) d) k t)) → V l g RX8 cX8_raceNow 10 (some .long) 1 85 [.ref 65, .int (nI i), .int (nI j), .int (nI n), .int (nI d), .int (nI k), y6, y7, y8, y9] [] μ3 (fun r μ' => r = some (.long (lN (raT (aTn a) (aOw a) n (sP (aS a) i) (sP (aS a) j)))) ∧ FrL μ μ') := by
                    intro nD
                    induction nD with
                    | zero => intro k μ3 y6 y7 y8 y9 h1 h2; exact absurd h2 (by omega)
                    | succ nD ihD =>
                      intro k μ3 y6 y7 y8 y9 hleD hfuD hF3 h3 hk3
                      refine V_iload (pc := 85) dX8_raceNow_85 rfl ?_
                      refine V_bipush (pc := 87) (v := 100) dX8_raceNow_87 (by decide) ?_
                      refine V_icmpge (pc := 89) (tgt := 238) dX8_raceNow_89 (by decide) (fun h89 => ?_) (fun h89 => ?_)
                      · have h89 := (nI_leI (a := 100) (b := k) (by decide) (by omega)).mp h89; obtain rfl : k = 100 := by omega
                        refine V_iconst (pc := 238) (v := 0) dX8_raceNow_238 (by decide) ?_
                        refine V_istore5 (pc := 239) dX8_raceNow_239 (by decide) rfl ?_
                        have loopF : ∀ (nF q : Nat) (μ5 : Mm), q ≤ 100 → 100 < q + nF → (FrL μ μ5) → (∀ t, t < 100 → μ5.2.1 81 t = lN (rcK (aTn a) (aOw a) (rcP (aTn a) (aOw a) (10 * sP (aS a) i + sP (aS a) j) d) 100 t)) → (∀ t, t < q → μ5.2.1 80 t = lN (rcP (aTn a) (aOw a) (10 * sP (aS a) i + sP (aS a) j) (d + 1) t)) → V l g RX8 cX8_raceNow 10 (some .long) 1 241 [.ref 65, .int (nI i), .int (nI j), .int (nI n), .int (nI d), .int (nI q), y6, y7, y8, y9] [] μ5 (fun r μ' => r = some (.long (lN (raT (aTn a) (aOw a) n (sP (aS a) i) (sP (aS a) j)))) ∧ FrL μ μ') := by
                          intro nF
                          induction nF with
                          | zero => intro q μ5 h1 h2; exact absurd h2 (by omega)
                          | succ nF ihF =>
                            intro q μ5 hleF hfuF hF5 h5 hz5
                            refine V_iload (pc := 241) dX8_raceNow_241 rfl ?_
                            refine V_bipush (pc := 243) (v := 100) dX8_raceNow_243 (by decide) ?_
                            refine V_icmpge (pc := 245) (tgt := 268) dX8_raceNow_245 (by decide) (fun h245 => ?_) (fun h245 => ?_)
                            · have h245 := (nI_leI (a := 100) (b := q) (by decide) (by omega)).mp h245; obtain rfl : q = 100 := by omega
                              refine V_iinc4 (pc := 268) (v := nI (d + 1)) dX8_raceNow_268 (nI_1 d) (by decide) rfl ?_
                              refine V_goto (pc := 271) (tgt := 52) dX8_raceNow_271 (by decide) ?_
                              exact ihB (d + 1) μ5 _ _ _ _ _ (by omega) (by omega) hF5 hz5
                            have hlt : q < 100 := nI_l3 (a := 100) (by decide) (by omega) h245
                            refine V_aload_n (pc := 248) dX8_raceNow_248 rfl rfl ?_
                            refine V_getR (pc := 249) (ci := 8) (j := 28) (k2 := 80) dX8_raceNow_249 fl_X8_59 (fun _ _ _ _ => rfl) (by decide) rfl (rf_8_28 rfl) ?_
                            refine V_iload (pc := 252) dX8_raceNow_252 rfl ?_
                            refine V_aload_n (pc := 254) dX8_raceNow_254 rfl rfl ?_
                            refine V_getR (pc := 255) (ci := 8) (j := 29) (k2 := 81) dX8_raceNow_255 fl_X8_62 (fun _ _ _ _ => rfl) (by decide) rfl (rf_8_29 rfl) ?_
                            refine V_iload (pc := 258) dX8_raceNow_258 rfl ?_
                            refine V_lald (pc := 260) (j := q) dX8_raceNow_260 (by decide) rfl rfl (by show q < 100; omega) ?_
                            refine V_last (pc := 261) (j := q) dX8_raceNow_261 (by decide) rfl rfl (by show q < 100; omega) ?_
                            refine V_iinc5 (pc := 262) (v := nI (q + 1)) dX8_raceNow_262 (nI_1 q) (by decide) rfl ?_
                            refine V_goto (pc := 265) (tgt := 241) dX8_raceNow_265 (by decide) ?_
                            refine ihF (q + 1) _ (by omega) (by omega) hF5.set (fun t ht => by rw [getl_ne (by omega)]; exact h5 t ht) (fun t ht => ?_)
                            by_cases et : t = q
                            · rw [et, getl_eq]; exact h5 q hlt
                            · rw [getl_ne (by omega)]; exact hz5 t (by omega)
                        exact loopF (100 + 1) 0 _ (by omega) (by omega) hF3 hk3 (fun t ht => absurd ht (by omega))
                      have hlt : k < 100 := nI_l3 (a := 100) (by decide) (by omega) h89
                      have J : ∀ (z : Int32), z = bI (decide (k / 10 = 9 ∨ k % 10 = 9)) → V l g RX8 cX8_raceNow 10 (some .long) 1 119 [.ref 65, .int (nI i), .int (nI j), .int (nI n), .int (nI d), .int (nI k), .int z, y7, y8, y9] [] μ3 (fun r μ' => r = some (.long (lN (raT (aTn a) (aOw a) n (sP (aS a) i) (sP (aS a) j)))) ∧ FrL μ μ') := by
                        intro z hov
                        refine V_iconst (pc := 119) (v := 0) dX8_raceNow_119 (by decide) ?_
                        refine V_istore7 (pc := 120) dX8_raceNow_120 (by decide) rfl ?_
                        have loopE : ∀ (nE w : Nat) (μ4 : Mm) (y8 y9 : Value), w ≤ 5 → 5 < w + nE → (FrL μ μ4) → (∀ t, t < 100 → μ4.2.1 80 t = lN (rcP (aTn a) (aOw a) (10 * sP (aS a) i + sP (aS a) j) d t)) → (∀ t, t < 100 → μ4.2.1 81 t = lN (rcW (aTn a) (aOw a) (rcP (aTn a) (aOw a) (10 * sP (aS a) i + sP (aS a) j) d) k (rcK (aTn a) (aOw a) (rcP (aTn a) (aOw a) (10 * sP (aS a) i + sP (aS a) j) d) k) w t)) → V l g RX8 cX8_raceNow 10 (some .long) 1 122 [.ref 65, .int (nI i), .int (nI j), .int (nI n), .int (nI d), .int (nI k), .int z, .int (nI w), y8, y9] [] μ4 (fun r μ' => r = some (.long (lN (raT (aTn a) (aOw a) n (sP (aS a) i) (sP (aS a) j)))) ∧ FrL μ μ') := by
                          intro nE
                          induction nE with
                          | zero => intro w μ4 y8 y9 h1 h2; exact absurd h2 (by omega)
                          | succ nE ihE =>
                            intro w μ4 y8 y9 hleE hfuE hF4 h4 hk4
                            refine V_iload (pc := 122) dX8_raceNow_122 rfl ?_
                            refine V_iconst (pc := 124) (v := 4) dX8_raceNow_124 (by decide) ?_
                            refine V_icmpgt (pc := 125) (tgt := 232) dX8_raceNow_125 (by decide) (fun h125 => ?_) (fun h125 => ?_)
                            · have h125 := (nI_ltI (a := 4) (b := w) (by decide) (by omega)).mp h125; obtain rfl : w = 5 := (by omega)
                              refine V_iinc5 (pc := 232) (v := nI (k + 1)) dX8_raceNow_232 (nI_1 k) (by decide) rfl ?_
                              refine V_goto (pc := 235) (tgt := 85) dX8_raceNow_235 (by decide) ?_
                              exact ihD (k + 1) _ _ _ _ _ (by omega) (by omega) hF4 h4 hk4
                            have hltw : w < 5 := by have := mt (nI_ltI (a := 4) (b := w) (by decide) (by omega)).mpr h125; omega
                            refine V_aload_n (pc := 128) dX8_raceNow_128 rfl rfl ?_
                            refine V_getR (pc := 129) (ci := 8) (j := 3) (k2 := 66) dX8_raceNow_129 fl_X8_7 (fun _ _ _ _ => rfl) (by decide) rfl (rf_8_3 rfl) ?_
                            refine V_iconst (pc := 132) (v := 3) dX8_raceNow_132 (by decide) ?_
                            refine V_iload (pc := 133) dX8_raceNow_133 rfl ?_
                            refine V_imul (pc := 135) dX8_raceNow_135 ?_
                            refine V_iald (pc := 136) (j := (3 * w)) dX8_raceNow_136 (by decide) rfl (by rw [show (3 : Int32) = nI 3 from rfl, pk_mul]) (by show 3 * w < 15; omega) ?_
                            refine V_aload_n (pc := 137) dX8_raceNow_137 rfl rfl ?_
                            refine V_getR (pc := 138) (ci := 8) (j := 3) (k2 := 66) dX8_raceNow_138 fl_X8_7 (fun _ _ _ _ => rfl) (by decide) rfl (rf_8_3 rfl) ?_
                            refine V_iconst (pc := 141) (v := 3) dX8_raceNow_141 (by decide) ?_
                            refine V_iload (pc := 142) dX8_raceNow_142 rfl ?_
                            refine V_imul (pc := 144) dX8_raceNow_144 ?_
                            refine V_iconst (pc := 145) (v := 1) dX8_raceNow_145 (by decide) ?_
                            refine V_iadd (pc := 146) dX8_raceNow_146 ?_
                            refine V_iald (pc := 147) (j := (3 * w + 1)) dX8_raceNow_147 (by decide) rfl (by rw [show (3 : Int32) = nI 3 from rfl, pk_mul, nI_1]) (by show 3 * w + 1 < 15; omega) ?_
                            refine V_iadd (pc := 148) dX8_raceNow_148 ?_
                            refine V_aload_n (pc := 149) dX8_raceNow_149 rfl rfl ?_
                            refine V_getR (pc := 150) (ci := 8) (j := 3) (k2 := 66) dX8_raceNow_150 fl_X8_7 (fun _ _ _ _ => rfl) (by decide) rfl (rf_8_3 rfl) ?_
                            refine V_iconst (pc := 153) (v := 3) dX8_raceNow_153 (by decide) ?_
                            refine V_iload (pc := 154) dX8_raceNow_154 rfl ?_
                            refine V_imul (pc := 156) dX8_raceNow_156 ?_
                            refine V_iconst (pc := 157) (v := 2) dX8_raceNow_157 (by decide) ?_
                            refine V_iadd (pc := 158) dX8_raceNow_158 ?_
                            refine V_iald (pc := 159) (j := (3 * w + 2)) dX8_raceNow_159 (by decide) rfl (by rw [show (3 : Int32) = nI 3 from rfl, show (2 : Int32) = nI 2 from rfl, pk_mul, nI_add]) (by show 3 * w + 2 < 15; omega) ?_
                            refine V_iadd (pc := 160) dX8_raceNow_160 ?_
                            have t0 := o4.le (w := w) (s := 0) hltw (by omega)
                            have t1 := o4.le (w := w) (s := 1) hltw (by omega)
                            have t2 := o4.le (w := w) (s := 2) hltw (by omega)
                            rw [show μ4.1 66 (3 * w) + μ4.1 66 (3 * w + 1) + μ4.1 66 (3 * w + 2) = nI (sumT (aTn a) w 3) from by
                              rw [hF4.1, show μ.1 66 (3 * w) = nI (aTn a w 0) from hB.1 w 0 hltw (by omega), hB.1 w 1 hltw (by omega), hB.1 w 2 hltw (by omega), nI_add, nI_add]
                              simp only [sumT, Nat.zero_add]]
                            have hsl : sumT (aTn a) w 3 ≤ 30 := by simp only [sumT]; omega
                            have hto := rcTo_lt (ow := aOw a) (w := w) (k := k) (by omega)
                            have J2 : ∀ (v : Int32), v = nI (rcTo (aOw a) k w) → V l g RX8 cX8_raceNow 10 (some .long) 1 203 [.ref 65, .int (nI i), .int (nI j), .int (nI n), .int (nI d), .int (nI k), .int z, .int (nI w), .int (nI (sumT (aTn a) w 3)), y9] [.int v] μ4 (fun r μ' => r = some (.long (lN (raT (aTn a) (aOw a) n (sP (aS a) i) (sP (aS a) j)))) ∧ FrL μ μ') := by
                              intro v hv
                              subst hv
                              refine V_istore9 (pc := 203) dX8_raceNow_203 (by decide) rfl ?_
                              refine V_aload_n (pc := 205) dX8_raceNow_205 rfl rfl ?_
                              refine V_getR (pc := 206) (ci := 8) (j := 29) (k2 := 81) dX8_raceNow_206 fl_X8_62 (fun _ _ _ _ => rfl) (by decide) rfl (rf_8_29 rfl) ?_
                              refine V_iload (pc := 209) dX8_raceNow_209 rfl ?_
                              refine V_dup2_11 (pc := 211) dX8_raceNow_211 rfl rfl ?_
                              refine V_lald (pc := 212) (j := (rcTo (aOw a) k w)) dX8_raceNow_212 (by decide) rfl rfl (by show _ < 100; exact hto) ?_
                              rw [hk4 _ hto]
                              refine V_aload_n (pc := 213) dX8_raceNow_213 rfl rfl ?_
                              refine V_getR (pc := 214) (ci := 8) (j := 28) (k2 := 80) dX8_raceNow_214 fl_X8_59 (fun _ _ _ _ => rfl) (by decide) rfl (rf_8_28 rfl) ?_
                              refine V_iload (pc := 217) dX8_raceNow_217 rfl ?_
                              refine V_lald (pc := 219) (j := k) dX8_raceNow_219 (by decide) rfl rfl (by show k < 100; omega) ?_
                              rw [h4 k (by omega)]
                              refine V_iload (pc := 220) dX8_raceNow_220 rfl ?_
                              refine V_i2l (pc := 222) dX8_raceNow_222 ?_
                              rw [nI_l (by omega)]
                              refine V_lmul (pc := 223) dX8_raceNow_223 ?_
                              rw [lN_mul]
                              refine V_ladd (pc := 224) dX8_raceNow_224 ?_
                              rw [lN_add]
                              refine V_last (pc := 225) (j := (rcTo (aOw a) k w)) dX8_raceNow_225 (by decide) rfl rfl (by show _ < 100; exact hto) ?_
                              refine V_iinc7 (pc := 226) (v := nI (w + 1)) dX8_raceNow_226 (nI_1 w) (by decide) rfl ?_
                              refine V_goto (pc := 229) (tgt := 122) dX8_raceNow_229 (by decide) ?_
                              refine ihE (w + 1) _ _ _ (by omega) (by omega) hF4.set (fun t ht => by rw [getl_ne (by omega)]; exact h4 t ht) (fun t ht => ?_)
                              show _ = lN (add1 (rcW (aTn a) (aOw a) (rcP (aTn a) (aOw a) (10 * sP (aS a) i + sP (aS a) j) d) k (rcK (aTn a) (aOw a) (rcP (aTn a) (aOw a) (10 * sP (aS a) i + sP (aS a) j) d) k) w) (rcTo (aOw a) k w) (rcP (aTn a) (aOw a) (10 * sP (aS a) i + sP (aS a) j) d k * sumT (aTn a) w 3) t)
                              unfold add1
                              by_cases et : t = rcTo (aOw a) k w
                              · rw [et, getl_eq, if_pos rfl]
                              · rw [getl_ne (fun q => et q.2), if_neg et]; exact hk4 t ht
                            refine V_istore8 (pc := 161) dX8_raceNow_161 (by decide) rfl ?_
                            refine V_iload (pc := 163) dX8_raceNow_163 rfl ?_
                            refine V_ifeq (pc := 165) (tgt := 173) dX8_raceNow_165 (by decide) (fun h165 => ?_) (fun h165 => ?_)
                            · rw [hov] at h165; have h165 := of_decide_eq_false (bI_e h165)
                              refine V_bipush (pc := 173) (v := 10) dX8_raceNow_173 (by decide) ?_
                              refine V_aload_n (pc := 175) dX8_raceNow_175 rfl rfl ?_
                              refine V_iconst (pc := 176) (v := 0) dX8_raceNow_176 (by decide) ?_
                              refine V_iload (pc := 177) dX8_raceNow_177 rfl ?_
                              refine V_bipush (pc := 179) (v := 10) dX8_raceNow_179 (by decide) ?_
                              refine V_idiv (pc := 181) dX8_raceNow_181 (by decide) ?_
                              rw [show nI k / (10 : Int32) = nI (k / 10) from pk_div (d := 10) (by omega) (by decide) (by decide)]
                              refine V_iload (pc := 182) dX8_raceNow_182 rfl ?_
                              refine V_iconst (pc := 184) (v := (-1)) dX8_raceNow_184 (by decide) ?_
                              refine V_inv4 (pc := 185) (ci := 8) dX8_raceNow_185 ml_X8_166 (by decide) rfl ⟨by decide, rfl⟩ (by first | decide | omega) (Nat.le_of_ble_eq_true rfl) (cI_0 ▸ c_X8_behind (κ := 0) (p := k / 10) (k := 0) μ4 hO (hM.ofI hF4.1) hnb (by omega) (by omega) (show w ≤ 4 by omega) (by omega)) ?_
                              rintro _ μ2 ⟨rfl, hμ⟩
                              obtain rfl := hμ.symm
                              refine V_imul (pc := 188) dX8_raceNow_188 ?_
                              refine V_aload_n (pc := 189) dX8_raceNow_189 rfl rfl ?_
                              refine V_iconst (pc := 190) (v := 0) dX8_raceNow_190 (by decide) ?_
                              refine V_iload (pc := 191) dX8_raceNow_191 rfl ?_
                              refine V_bipush (pc := 193) (v := 10) dX8_raceNow_193 (by decide) ?_
                              refine V_irem (pc := 195) dX8_raceNow_195 (by decide) ?_
                              rw [show nI k - nI k / (10 : Int32) * (10 : Int32) = nI (k % 10) from pk_rem (d := 10) (by omega) (by decide) (by decide)]
                              refine V_iload (pc := 196) dX8_raceNow_196 rfl ?_
                              refine V_iconst (pc := 198) (v := (-1)) dX8_raceNow_198 (by decide) ?_
                              refine V_inv4 (pc := 199) (ci := 8) dX8_raceNow_199 ml_X8_166 (by decide) rfl ⟨by decide, rfl⟩ (by first | decide | omega) (Nat.le_of_ble_eq_true rfl) (cI_0 ▸ c_X8_behind (κ := 0) (p := k % 10) (k := 0) μ4 hO (hM.ofI hF4.1) hnb (by omega) (by omega) (show w ≤ 4 by omega) (by omega)) ?_
                              rintro _ μ2 ⟨rfl, hμ⟩
                              obtain rfl := hμ.symm
                              refine V_iadd (pc := 202) dX8_raceNow_202 ?_
                              refine J2 _ ?_
                              first
                              | (rw [show rcTo (aOw a) k w = k from if_pos h165]; done)
                              | (rw [show rcTo (aOw a) k w = 10 * aft (aOw a) 0 (k / 10) 0 w + aft (aOw a) 0 (k % 10) 0 w from if_neg h165, show (10 : Int32) = nI 10 from rfl, pk_mul, nI_add]; done)
                            rw [hov] at h165; have h165 := of_decide_eq_true (bI_ne h165)
                            refine V_iload (pc := 168) dX8_raceNow_168 rfl ?_
                            refine V_goto (pc := 170) (tgt := 203) dX8_raceNow_170 (by decide) ?_
                            refine J2 _ ?_
                            first
                            | (rw [show rcTo (aOw a) k w = k from if_pos h165]; done)
                            | (rw [show rcTo (aOw a) k w = 10 * aft (aOw a) 0 (k / 10) 0 w + aft (aOw a) 0 (k % 10) 0 w from if_neg h165, show (10 : Int32) = nI 10 from rfl, pk_mul, nI_add]; done)
                        exact loopE (5 + 1) 0 _ _ _ (by omega) (by omega) hF3 h3 hk3
                      refine V_iload (pc := 92) dX8_raceNow_92 rfl ?_
                      refine V_bipush (pc := 94) (v := 10) dX8_raceNow_94 (by decide) ?_
                      refine V_idiv (pc := 96) dX8_raceNow_96 (by decide) ?_
                      rw [show nI k / (10 : Int32) = nI (k / 10) from pk_div (d := 10) (by omega) (by decide) (by decide)]
                      refine V_bipush (pc := 97) (v := 9) dX8_raceNow_97 (by decide) ?_
                      refine V_icmpeq (pc := 99) (tgt := 112) dX8_raceNow_99 (by decide) (fun h99 => ?_) (fun h99 => ?_)
                      · have h99 := (nI_eq (a := k / 10) (b := 9) (by omega) (by omega)).mp h99
                        refine V_iconst (pc := 112) (v := 1) dX8_raceNow_112 (by decide) ?_
                        refine V_goto (pc := 113) (tgt := 117) dX8_raceNow_113 (by decide) ?_
                        refine V_istore6 (pc := 117) dX8_raceNow_117 (by decide) rfl ?_
                        exact J _ (by
                          first
                          | (rw [decide_eq_true (Or.inl h99)]; rfl)
                          | (rw [decide_eq_true (Or.inr h109)]; rfl)
                          | (rw [decide_eq_false (fun q => Or.elim q h99 h109)]; rfl))
                      have h99 := mt (nI_eq (a := k / 10) (b := 9) (by omega) (by omega)).mpr h99
                      refine V_iload (pc := 102) dX8_raceNow_102 rfl ?_
                      refine V_bipush (pc := 104) (v := 10) dX8_raceNow_104 (by decide) ?_
                      refine V_irem (pc := 106) dX8_raceNow_106 (by decide) ?_
                      rw [show nI k - nI k / (10 : Int32) * (10 : Int32) = nI (k % 10) from pk_rem (d := 10) (by omega) (by decide) (by decide)]
                      refine V_bipush (pc := 107) (v := 9) dX8_raceNow_107 (by decide) ?_
                      refine V_icmpne (pc := 109) (tgt := 116) dX8_raceNow_109 (by decide) (fun h109 => ?_) (fun h109 => ?_)
                      · have h109 := mt (nI_eq (a := k % 10) (b := 9) (by omega) (by omega)).mpr h109
                        refine V_iconst (pc := 116) (v := 0) dX8_raceNow_116 (by decide) ?_
                        refine V_istore6 (pc := 117) dX8_raceNow_117 (by decide) rfl ?_
                        exact J _ (by
                          first
                          | (rw [decide_eq_true (Or.inl h99)]; rfl)
                          | (rw [decide_eq_true (Or.inr h109)]; rfl)
                          | (rw [decide_eq_false (fun q => Or.elim q h99 h109)]; rfl))
                      have h109 := (nI_eq (a := k % 10) (b := 9) (by omega) (by omega)).mp h109
                      refine V_iconst (pc := 112) (v := 1) dX8_raceNow_112 (by decide) ?_
                      refine V_goto (pc := 113) (tgt := 117) dX8_raceNow_113 (by decide) ?_
                      refine V_istore6 (pc := 117) dX8_raceNow_117 (by decide) rfl ?_
                      exact J _ (by
                        first
                        | (rw [decide_eq_true (Or.inl h99)]; rfl)
                        | (rw [decide_eq_true (Or.inr h109)]; rfl)
                        | (rw [decide_eq_false (fun q => Or.elim q h99 h109)]; rfl))
                  exact loopD (100 + 1) 0 _ _ _ _ _ (by omega) (by omega) hF2 h2 hz
                have hlt : q < 100 := nI_l3 (a := 100) (by decide) (by omega) h65
                refine V_aload_n (pc := 68) dX8_raceNow_68 rfl rfl ?_
                refine V_getR (pc := 69) (ci := 8) (j := 29) (k2 := 81) dX8_raceNow_69 fl_X8_62 (fun _ _ _ _ => rfl) (by decide) rfl (rf_8_29 rfl) ?_
                refine V_iload (pc := 72) dX8_raceNow_72 rfl ?_
                refine V_lconst (pc := 74) (v := 0) dX8_raceNow_74 (by decide) ?_
                refine V_last (pc := 75) (j := q) dX8_raceNow_75 (by decide) rfl rfl (by show q < 100; omega) ?_
                refine V_iinc5 (pc := 76) (v := nI (q + 1)) dX8_raceNow_76 (nI_1 q) (by decide) rfl ?_
                refine V_goto (pc := 79) (tgt := 61) dX8_raceNow_79 (by decide) ?_
                refine ihC (q + 1) _ (by omega) (by omega) hF2.set (fun t ht => by rw [getl_ne (by omega)]; exact h2 t ht) (fun t ht => ?_)
                by_cases et : t = q
                · rw [et, getl_eq]; rfl
                · rw [getl_ne (by omega)]; exact hz t (by omega)
            exact loopC (100 + 1) 0 _ (by omega) (by omega) hF1 h1 (fun t ht => absurd ht (by omega))
        exact loopB (n + 1) 0 _ _ _ _ _ _ (by omega) (by omega) hF h0
      have hlt : q < 100 := nI_l3 (a := 100) (by decide) (by omega) h7
      refine V_aload_n (pc := 10) dX8_raceNow_10 rfl rfl ?_
      refine V_getR (pc := 11) (ci := 8) (j := 28) (k2 := 80) dX8_raceNow_11 fl_X8_59 (fun _ _ _ _ => rfl) (by decide) rfl (rf_8_28 rfl) ?_
      refine V_iload (pc := 14) dX8_raceNow_14 rfl ?_
      refine V_iload (pc := 16) dX8_raceNow_16 rfl ?_
      refine V_bipush (pc := 18) (v := 10) dX8_raceNow_18 (by decide) ?_
      refine V_aload_n (pc := 20) dX8_raceNow_20 rfl rfl ?_
      refine V_getR (pc := 21) (ci := 8) (j := 7) (k2 := 69) dX8_raceNow_21 fl_X8_19 (fun _ _ _ _ => rfl) (by decide) rfl (rf_8_7 rfl) ?_
      refine V_iload_n (pc := 24) dX8_raceNow_24 rfl rfl ?_
      refine V_iald (pc := 25) (j := i) dX8_raceNow_25 (by decide) rfl rfl (by show i < 6; omega) ?_
      refine V_imul (pc := 26) dX8_raceNow_26 ?_
      rw [show μ1.1 69 i = nI (sP (aS a) i) from by rw [hF.1]; exact n2, show (10 : Int32) = nI 10 from rfl, pk_mul]
      refine V_aload_n (pc := 27) dX8_raceNow_27 rfl rfl ?_
      refine V_getR (pc := 28) (ci := 8) (j := 7) (k2 := 69) dX8_raceNow_28 fl_X8_19 (fun _ _ _ _ => rfl) (by decide) rfl (rf_8_7 rfl) ?_
      refine V_iload_n (pc := 31) dX8_raceNow_31 rfl rfl ?_
      refine V_iald (pc := 32) (j := j) dX8_raceNow_32 (by decide) rfl rfl (by show j < 6; omega) ?_
      refine V_iadd (pc := 33) dX8_raceNow_33 ?_
      rw [show μ1.1 69 j = nI (sP (aS a) j) from by rw [hF.1]; exact j2, nI_add]
      refine V_icmpne (pc := 34) (tgt := 41) dX8_raceNow_34 (by decide) (fun h34 => ?_) (fun h34 => ?_)
      · have h34 := mt (nI_eq (a := q) (b := 10 * sP (aS a) i + sP (aS a) j) (by omega) (by omega)).mpr h34
        refine V_lconst (pc := 41) (v := 0) dX8_raceNow_41 (by decide) ?_
        refine V_last (pc := 42) (j := q) dX8_raceNow_42 (by decide) rfl rfl (by show q < 100; omega) ?_
        refine V_iinc4 (pc := 43) (v := nI (q + 1)) dX8_raceNow_43 (nI_1 q) (by decide) rfl ?_
        refine V_goto (pc := 46) (tgt := 3) dX8_raceNow_46 (by decide) ?_
        refine ihA (q + 1) _ (by omega) (by omega) hF.set (fun t ht => ?_)
        by_cases et : t = q
        · rw [et, getl_eq]
          first
          | (rw [show rcP (aTn a) (aOw a) (10 * sP (aS a) i + sP (aS a) j) 0 q = 1 from if_pos h34]; rfl)
          | (rw [show rcP (aTn a) (aOw a) (10 * sP (aS a) i + sP (aS a) j) 0 q = 0 from if_neg h34]; rfl)
        · rw [getl_ne (by omega)]; exact h0 t (by omega)
      have h34 := (nI_eq (a := q) (b := 10 * sP (aS a) i + sP (aS a) j) (by omega) (by omega)).mp h34
      refine V_lconst (pc := 37) (v := 1) dX8_raceNow_37 (by decide) ?_
      refine V_goto (pc := 38) (tgt := 42) dX8_raceNow_38 (by decide) ?_
      refine V_last (pc := 42) (j := q) dX8_raceNow_42 (by decide) rfl rfl (by show q < 100; omega) ?_
      refine V_iinc4 (pc := 43) (v := nI (q + 1)) dX8_raceNow_43 (nI_1 q) (by decide) rfl ?_
      refine V_goto (pc := 46) (tgt := 3) dX8_raceNow_46 (by decide) ?_
      refine ihA (q + 1) _ (by omega) (by omega) hF.set (fun t ht => ?_)
      by_cases et : t = q
      · rw [et, getl_eq]
        first
        | (rw [show rcP (aTn a) (aOw a) (10 * sP (aS a) i + sP (aS a) j) 0 q = 1 from if_pos h34]; rfl)
        | (rw [show rcP (aTn a) (aOw a) (10 * sP (aS a) i + sP (aS a) j) 0 q = 0 from if_neg h34]; rfl)
      · rw [getl_ne (by omega)]; exact h0 t (by omega)
  exact loopA (100 + 1) 0 _ (by omega) (by omega) FrL.rf (fun t ht => absurd ht (by omega))
theorem dX8_race_0 : decode cX8_race 0 = .ok (.aload_n 0, 1) := by decide +kernel
theorem dX8_race_1 : decode cX8_race 1 = .ok (.iload_n 1, 1) := by decide +kernel
theorem dX8_race_2 : decode cX8_race 2 = .ok (.invokevirtual 150, 3) := by decide +kernel
theorem dX8_race_5 : decode cX8_race 5 = .ok (.ifCond .eq 16, 3) := by decide +kernel
theorem dX8_race_8 : decode cX8_race 8 = .ok (.aload_n 0, 1) := by decide +kernel
theorem dX8_race_9 : decode cX8_race 9 = .ok (.iload_n 2, 1) := by decide +kernel
theorem dX8_race_10 : decode cX8_race 10 = .ok (.invokevirtual 150, 3) := by decide +kernel
theorem dX8_race_13 : decode cX8_race 13 = .ok (.ifCond .eq 8, 3) := by decide +kernel
theorem dX8_race_16 : decode cX8_race 16 = .ok (.iload_n 1, 1) := by decide +kernel
theorem dX8_race_17 : decode cX8_race 17 = .ok (.iload_n 2, 1) := by decide +kernel
theorem dX8_race_18 : decode cX8_race 18 = .ok (.if_icmp .ne 7, 3) := by decide +kernel
theorem dX8_race_21 : decode cX8_race 21 = .ok (.ldc2_w 212, 3) := by decide +kernel
theorem dX8_race_24 : decode cX8_race 24 = .ok (.lreturn, 1) := by decide +kernel
theorem dX8_race_25 : decode cX8_race 25 = .ok (.iload_n 3, 1) := by decide +kernel
theorem dX8_race_26 : decode cX8_race 26 = .ok (.iconst 1, 1) := by decide +kernel
theorem dX8_race_27 : decode cX8_race 27 = .ok (.bipush 6, 2) := by decide +kernel
theorem dX8_race_29 : decode cX8_race 29 = .ok (.invokestatic 88, 3) := by decide +kernel
theorem dX8_race_32 : decode cX8_race 32 = .ok (.ifCond .eq 13, 3) := by decide +kernel
theorem dX8_race_35 : decode cX8_race 35 = .ok (.iload 4, 2) := by decide +kernel
theorem dX8_race_37 : decode cX8_race 37 = .ok (.iconst 0, 1) := by decide +kernel
theorem dX8_race_38 : decode cX8_race 38 = .ok (.iconst 1, 1) := by decide +kernel
theorem dX8_race_39 : decode cX8_race 39 = .ok (.invokestatic 88, 3) := by decide +kernel
theorem dX8_race_42 : decode cX8_race 42 = .ok (.ifCond .ne 7, 3) := by decide +kernel
theorem dX8_race_45 : decode cX8_race 45 = .ok (.ldc2_w 218, 3) := by decide +kernel
theorem dX8_race_48 : decode cX8_race 48 = .ok (.lreturn, 1) := by decide +kernel
theorem dX8_race_49 : decode cX8_race 49 = .ok (.aload_n 0, 1) := by decide +kernel
theorem dX8_race_50 : decode cX8_race 50 = .ok (.iload_n 1, 1) := by decide +kernel
theorem dX8_race_51 : decode cX8_race 51 = .ok (.iload_n 2, 1) := by decide +kernel
theorem dX8_race_52 : decode cX8_race 52 = .ok (.iload_n 3, 1) := by decide +kernel
theorem dX8_race_53 : decode cX8_race 53 = .ok (.invokevirtual 234, 3) := by decide +kernel
theorem dX8_race_56 : decode cX8_race 56 = .ok (.iload_n 3, 1) := by decide +kernel
theorem dX8_race_57 : decode cX8_race 57 = .ok (.invokestatic 204, 3) := by decide +kernel
theorem dX8_race_60 : decode cX8_race 60 = .ok (.iload 4, 2) := by decide +kernel
theorem dX8_race_62 : decode cX8_race 62 = .ok (.invokestatic 208, 3) := by decide +kernel
theorem dX8_race_65 : decode cX8_race 65 = .ok (.lreturn, 1) := by decide +kernel
set_option maxHeartbeats 4000000 in
set_option maxRecDepth 100000 in
theorem c_X8_race {l : Launch} {g : GW} {a : AT} {x y z p : Int32} (μ : Mm) (hO : AOK a) (hM : RM μ a) (hJ : AJ a) : Con l g yX8_race cX8_race 5 (some .long) 2 [.ref 65, .int x, .int y, .int z, .int p] μ (fun r μ' => r = some (.long (fRace a x y z p)) ∧ RM μ' a ∧ FrX μ μ') := by
  obtain ⟨m1, m2, m3, m4, m5, m6, m7, m8, m9, m10, m11, m12, m13⟩ := id hM
  obtain ⟨o1, o2, o3, o4, o5, ⟨s1, s2, s3, s4⟩, oK, o8, o9, o10⟩ := id hO
  refine Con.of [.ref 65, .int x, .int y, .int z, .int p] 0 (by decide +kernel) (Nat.le_of_ble_eq_true rfl) rfl ?_
  refine V_aload_n (pc := 0) dX8_race_0 rfl rfl ?_
  refine V_iload_n (pc := 1) dX8_race_1 rfl rfl ?_
  refine V_inv1 (pc := 2) (ci := 8) dX8_race_2 ml_X8_150 (by decide) rfl ⟨by decide, rfl⟩ (by first | decide | omega) (Nat.le_of_ble_eq_true rfl) (c_X8_isShip μ hO hM) ?_
  rintro _ μ2 ⟨rfl, hμ⟩
  obtain rfl := hμ.symm
  refine V_ifeq (pc := 5) (tgt := 21) dX8_race_5 (by decide) (fun h5 => ?_) (fun h5 => ?_)
  · have h5 := bI_e h5
    refine V_ldc2 (pc := 21) (v := (-101)) ct_X8_212 dX8_race_21 ?_
    refine V_lret (pc := 24) dX8_race_24 rfl ?_
    refine ⟨congrArg (fun z => some (Value.long z)) ?_, hM, FrX.rf⟩
    first
    | (simp [fRace, h5]; done)
    | (simp [fRace, h5, h13]; done)
    | (simp [fRace, h5, h13, h18]; done)
  have h5 := bI_ne h5
  refine V_aload_n (pc := 8) dX8_race_8 rfl rfl ?_
  refine V_iload_n (pc := 9) dX8_race_9 rfl rfl ?_
  refine V_inv1 (pc := 10) (ci := 8) dX8_race_10 ml_X8_150 (by decide) rfl ⟨by decide, rfl⟩ (by first | decide | omega) (Nat.le_of_ble_eq_true rfl) (c_X8_isShip μ hO hM) ?_
  rintro _ μ2 ⟨rfl, hμ⟩
  obtain rfl := hμ.symm
  refine V_ifeq (pc := 13) (tgt := 21) dX8_race_13 (by decide) (fun h13 => ?_) (fun h13 => ?_)
  · have h13 := bI_e h13
    refine V_ldc2 (pc := 21) (v := (-101)) ct_X8_212 dX8_race_21 ?_
    refine V_lret (pc := 24) dX8_race_24 rfl ?_
    refine ⟨congrArg (fun z => some (Value.long z)) ?_, hM, FrX.rf⟩
    first
    | (simp [fRace, h5]; done)
    | (simp [fRace, h5, h13]; done)
    | (simp [fRace, h5, h13, h18]; done)
  have h13 := bI_ne h13
  refine V_iload_n (pc := 16) dX8_race_16 rfl rfl ?_
  refine V_iload_n (pc := 17) dX8_race_17 rfl rfl ?_
  refine V_icmpne (pc := 18) (tgt := 25) dX8_race_18 (by decide) (fun h18 => ?_) (fun h18 => ?_)
  · refine V_iload_n (pc := 25) dX8_race_25 rfl rfl ?_
    refine V_iconst (pc := 26) (v := 1) dX8_race_26 (by decide) ?_
    refine V_bipush (pc := 27) (v := 6) dX8_race_27 (by decide) ?_
    refine V_ins3 (pc := 29) dX8_race_29 ml_X8_88 (by first | decide | omega) (Nat.le_of_ble_eq_true rfl) (c_X8_within μ) ?_
    rintro _ μ2 ⟨rfl, hμ⟩
    obtain rfl := hμ.symm
    rw [inW_D (n := 6) (by decide)]
    refine V_ifeq (pc := 32) (tgt := 45) dX8_race_32 (by decide) (fun h32 => ?_) (fun h32 => ?_)
    · have h32 := bI_e h32
      refine V_ldc2 (pc := 45) (v := (-102)) ct_X8_218 dX8_race_45 ?_
      refine V_lret (pc := 48) dX8_race_48 rfl ?_
      refine ⟨congrArg (fun z => some (Value.long z)) ?_, hM, FrX.rf⟩
      first
      | (simp [fRace, h5, h13, h18, h32]; done)
      | (simp [fRace, h5, h13, h18, h32, h42]; done)
    have h32 := bI_ne h32
    refine V_iload (pc := 35) dX8_race_35 rfl ?_
    refine V_iconst (pc := 37) (v := 0) dX8_race_37 (by decide) ?_
    refine V_iconst (pc := 38) (v := 1) dX8_race_38 (by decide) ?_
    refine V_ins3 (pc := 39) dX8_race_39 ml_X8_88 (by first | decide | omega) (Nat.le_of_ble_eq_true rfl) (c_X8_within μ) ?_
    rintro _ μ2 ⟨rfl, hμ⟩
    obtain rfl := hμ.symm
    rw [inW_P]
    refine V_ifne (pc := 42) (tgt := 49) dX8_race_42 (by decide) (fun h42 => ?_) (fun h42 => ?_)
    · have h42 := bI_ne h42
      obtain ⟨i, hi, rfl⟩ := inN_of (by omega) h5
      obtain ⟨j, hj, rfl⟩ := inN_of (by omega) h13
      obtain ⟨d, hd, rfl⟩ := inD_of (by decide) h32
      have hnb : 0 < aNb a := by rcases Nat.eq_zero_or_pos (aNb a) with q | q; have := (hJ.1 q).1; omega; exact q
      refine V_aload_n (pc := 49) dX8_race_49 rfl rfl ?_
      refine V_iload_n (pc := 50) dX8_race_50 rfl rfl ?_
      refine V_iload_n (pc := 51) dX8_race_51 rfl rfl ?_
      refine V_iload_n (pc := 52) dX8_race_52 rfl rfl ?_
      refine V_inv3 (pc := 53) (ci := 8) dX8_race_53 ml_X8_234 (by decide) rfl ⟨by decide, rfl⟩ (by first | decide | omega) (Nat.le_of_ble_eq_true rfl) (c_X8_raceNow μ hO hM hnb hi hj (show d + 1 ≤ 6 by omega)) ?_
      rintro _ μ1 ⟨rfl, q2⟩
      refine V_iload_n (pc := 56) dX8_race_56 rfl rfl ?_
      refine V_ins1 (pc := 57) dX8_race_57 ml_X8_204 (by first | decide | omega) (Nat.le_of_ble_eq_true rfl) (c_X8_power μ1 (show d + 1 ≤ 6 by omega)) ?_
      rintro _ μ2 ⟨rfl, hμ⟩
      obtain rfl := hμ.symm
      refine V_iload (pc := 60) dX8_race_60 rfl ?_
      refine V_ins3 (pc := 62) dX8_race_62 ml_X8_208 (by first | decide | omega) (Nat.le_of_ble_eq_true rfl) (c_X8_lowest μ1 (by have := p30_6 (d := d + 1) hd; have := raT_le (ow := aOw a) o4 (d + 1) (sP (aS a) i) (sP (aS a) j); omega) (by have := p30_6 (d := d + 1) hd; omega) (Nat.pow_pos (by decide))) ?_
      rintro _ μ2 ⟨rfl, hμ⟩
      obtain rfl := hμ.symm
      refine V_lret (pc := 65) dX8_race_65 rfl ?_
      refine ⟨congrArg (fun z => some (Value.long z)) ?_, hM.ofI q2.1, q2.X⟩
      have h18' : decide (nI i = nI j) = false := decide_eq_false h18
      simp only [fRace, h5, h13, h18', h32, h42, Bool.and_self, Bool.not_false, if_true, nn_nI (j := i) (by omega), nn_nI (j := j) (by omega), nn_nI (j := d + 1) (by omega)]
    have h42 := bI_e h42
    refine V_ldc2 (pc := 45) (v := (-102)) ct_X8_218 dX8_race_45 ?_
    refine V_lret (pc := 48) dX8_race_48 rfl ?_
    refine ⟨congrArg (fun z => some (Value.long z)) ?_, hM, FrX.rf⟩
    first
    | (simp [fRace, h5, h13, h18, h32]; done)
    | (simp [fRace, h5, h13, h18, h32, h42]; done)
  refine V_ldc2 (pc := 21) (v := (-101)) ct_X8_212 dX8_race_21 ?_
  refine V_lret (pc := 24) dX8_race_24 rfl ?_
  refine ⟨congrArg (fun z => some (Value.long z)) ?_, hM, FrX.rf⟩
  first
  | (simp [fRace, h5]; done)
  | (simp [fRace, h5, h13]; done)
  | (simp [fRace, h5, h13, h18]; done)
