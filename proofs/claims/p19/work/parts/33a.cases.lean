theorem k_330 : Cond.methodLink RL 15 yX6_feed ∈ tb := mt 330 (by decide +kernel) rfl
theorem k_331 : Cond.instanceMethod yX6_feed ∈ tb := mt 331 (by decide +kernel) rfl
theorem k_332 : Cond.selects RX6 yX6_feed yX6_feed ∈ tb := mt 332 (by decide +kernel) rfl
set_option maxRecDepth 20000 in
theorem k_333 : Cond.code yX6_feed cX6_feed 4 (some .int) ∈ tb := mt 333 rfl rfl
theorem k_339 : Cond.methodLink RL 20 yX6_service ∈ tb := mt 339 (by decide +kernel) rfl
theorem k_340 : Cond.instanceMethod yX6_service ∈ tb := mt 340 (by decide +kernel) rfl
theorem k_341 : Cond.selects RX6 yX6_service yX6_service ∈ tb := mt 341 (by decide +kernel) rfl
set_option maxRecDepth 20000 in
theorem k_342 : Cond.code yX6_service cX6_service 2 (some .int) ∈ tb := mt 342 rfl rfl
theorem k_429 : Cond.methodLink RL 25 yX6_change ∈ tb := mt 429 (by decide +kernel) rfl
theorem k_430 : Cond.instanceMethod yX6_change ∈ tb := mt 430 (by decide +kernel) rfl
theorem k_431 : Cond.selects RX6 yX6_change yX6_change ∈ tb := mt 431 (by decide +kernel) rfl
set_option maxRecDepth 20000 in
theorem k_432 : Cond.code yX6_change cX6_change 3 (some .int) ∈ tb := mt 432 rfl rfl
theorem k_437 : Cond.methodLink RL 30 yX6_mend ∈ tb := mt 437 (by decide +kernel) rfl
theorem k_438 : Cond.instanceMethod yX6_mend ∈ tb := mt 438 (by decide +kernel) rfl
theorem k_439 : Cond.selects RX6 yX6_mend yX6_mend ∈ tb := mt 439 (by decide +kernel) rfl
set_option maxRecDepth 20000 in
theorem k_440 : Cond.code yX6_mend cX6_mend 6 (some .int) ∈ tb := mt 440 rfl rfl
theorem k_948 : Cond.methodLink RL 19 yX7_feed ∈ tb := mt 948 (by decide +kernel) rfl
theorem k_949 : Cond.instanceMethod yX7_feed ∈ tb := mt 949 (by decide +kernel) rfl
theorem k_950 : Cond.selects RX7 yX7_feed yX7_feed ∈ tb := mt 950 (by decide +kernel) rfl
set_option maxRecDepth 20000 in
theorem k_951 : Cond.code yX7_feed cX7_feed 5 (some .int) ∈ tb := mt 951 rfl rfl
theorem k_956 : Cond.methodLink RL 24 yX7_service ∈ tb := mt 956 (by decide +kernel) rfl
theorem k_957 : Cond.instanceMethod yX7_service ∈ tb := mt 957 (by decide +kernel) rfl
theorem k_958 : Cond.selects RX7 yX7_service yX7_service ∈ tb := mt 958 (by decide +kernel) rfl
set_option maxRecDepth 20000 in
theorem k_959 : Cond.code yX7_service cX7_service 1 (some .int) ∈ tb := mt 959 rfl rfl
theorem k_984 : Cond.methodLink RL 29 yX7_change ∈ tb := mt 984 (by decide +kernel) rfl
theorem k_985 : Cond.instanceMethod yX7_change ∈ tb := mt 985 (by decide +kernel) rfl
theorem k_986 : Cond.selects RX7 yX7_change yX7_change ∈ tb := mt 986 (by decide +kernel) rfl
set_option maxRecDepth 20000 in
theorem k_987 : Cond.code yX7_change cX7_change 2 (some .int) ∈ tb := mt 987 rfl rfl
theorem k_992 : Cond.methodLink RL 34 yX7_mend ∈ tb := mt 992 (by decide +kernel) rfl
theorem k_993 : Cond.instanceMethod yX7_mend ∈ tb := mt 993 (by decide +kernel) rfl
theorem k_994 : Cond.selects RX7 yX7_mend yX7_mend ∈ tb := mt 994 (by decide +kernel) rfl
set_option maxRecDepth 20000 in
theorem k_995 : Cond.code yX7_mend cX7_mend 5 (some .int) ∈ tb := mt 995 rfl rfl
theorem k_1190 : Cond.constantLong RL 13 4294967295 ∈ tb := mt 1190 (by decide +kernel) rfl
theorem dL_law_140 : decode cL_law 140 = .ok (.aload_n 1, 1) := by decide +kernel
theorem dL_law_141 : decode cL_law 141 = .ok (.aload_n 0, 1) := by decide +kernel
theorem dL_law_142 : decode cL_law 142 = .ok (.iload_n 3, 1) := by decide +kernel
theorem dL_law_143 : decode cL_law 143 = .ok (.iconst 1, 1) := by decide +kernel
theorem dL_law_144 : decode cL_law 144 = .ok (.iadd, 1) := by decide +kernel
theorem dL_law_145 : decode cL_law 145 = .ok (.iaload, 1) := by decide +kernel
theorem dL_law_146 : decode cL_law 146 = .ok (.i2l, 1) := by decide +kernel
theorem dL_law_147 : decode cL_law 147 = .ok (.bipush 32, 2) := by decide +kernel
theorem dL_law_149 : decode cL_law 149 = .ok (.lshl, 1) := by decide +kernel
theorem dL_law_150 : decode cL_law 150 = .ok (.aload_n 0, 1) := by decide +kernel
theorem dL_law_151 : decode cL_law 151 = .ok (.iload_n 3, 1) := by decide +kernel
theorem dL_law_152 : decode cL_law 152 = .ok (.iconst 2, 1) := by decide +kernel
theorem dL_law_153 : decode cL_law 153 = .ok (.iadd, 1) := by decide +kernel
theorem dL_law_154 : decode cL_law 154 = .ok (.iaload, 1) := by decide +kernel
theorem dL_law_155 : decode cL_law 155 = .ok (.i2l, 1) := by decide +kernel
theorem dL_law_156 : decode cL_law 156 = .ok (.ldc2_w 13, 3) := by decide +kernel
theorem dL_law_159 : decode cL_law 159 = .ok (.land, 1) := by decide +kernel
theorem dL_law_160 : decode cL_law 160 = .ok (.lor, 1) := by decide +kernel
theorem dL_law_161 : decode cL_law 161 = .ok (.aload_n 0, 1) := by decide +kernel
theorem dL_law_162 : decode cL_law 162 = .ok (.iload_n 3, 1) := by decide +kernel
theorem dL_law_163 : decode cL_law 163 = .ok (.iconst 3, 1) := by decide +kernel
theorem dL_law_164 : decode cL_law 164 = .ok (.iadd, 1) := by decide +kernel
theorem dL_law_165 : decode cL_law 165 = .ok (.iaload, 1) := by decide +kernel
theorem dL_law_166 : decode cL_law 166 = .ok (.invokevirtual 15, 3) := by decide +kernel
theorem dL_law_169 : decode cL_law 169 = .ok (.pop, 1) := by decide +kernel
theorem dL_law_170 : decode cL_law 170 = .ok (.aload_n 2, 1) := by decide +kernel
theorem dL_law_171 : decode cL_law 171 = .ok (.aload_n 0, 1) := by decide +kernel
theorem dL_law_172 : decode cL_law 172 = .ok (.iload_n 3, 1) := by decide +kernel
theorem dL_law_173 : decode cL_law 173 = .ok (.iconst 1, 1) := by decide +kernel
theorem dL_law_174 : decode cL_law 174 = .ok (.iadd, 1) := by decide +kernel
theorem dL_law_175 : decode cL_law 175 = .ok (.iaload, 1) := by decide +kernel
theorem dL_law_176 : decode cL_law 176 = .ok (.i2l, 1) := by decide +kernel
theorem dL_law_177 : decode cL_law 177 = .ok (.bipush 32, 2) := by decide +kernel
theorem dL_law_179 : decode cL_law 179 = .ok (.lshl, 1) := by decide +kernel
theorem dL_law_180 : decode cL_law 180 = .ok (.aload_n 0, 1) := by decide +kernel
theorem dL_law_181 : decode cL_law 181 = .ok (.iload_n 3, 1) := by decide +kernel
theorem dL_law_182 : decode cL_law 182 = .ok (.iconst 2, 1) := by decide +kernel
theorem dL_law_183 : decode cL_law 183 = .ok (.iadd, 1) := by decide +kernel
theorem dL_law_184 : decode cL_law 184 = .ok (.iaload, 1) := by decide +kernel
theorem dL_law_185 : decode cL_law 185 = .ok (.i2l, 1) := by decide +kernel
theorem dL_law_186 : decode cL_law 186 = .ok (.ldc2_w 13, 3) := by decide +kernel
theorem dL_law_189 : decode cL_law 189 = .ok (.land, 1) := by decide +kernel
theorem dL_law_190 : decode cL_law 190 = .ok (.lor, 1) := by decide +kernel
theorem dL_law_191 : decode cL_law 191 = .ok (.aload_n 0, 1) := by decide +kernel
theorem dL_law_192 : decode cL_law 192 = .ok (.iload_n 3, 1) := by decide +kernel
theorem dL_law_193 : decode cL_law 193 = .ok (.iconst 3, 1) := by decide +kernel
theorem dL_law_194 : decode cL_law 194 = .ok (.iadd, 1) := by decide +kernel
theorem dL_law_195 : decode cL_law 195 = .ok (.iaload, 1) := by decide +kernel
theorem dL_law_196 : decode cL_law 196 = .ok (.invokevirtual 19, 3) := by decide +kernel
theorem dL_law_199 : decode cL_law 199 = .ok (.pop, 1) := by decide +kernel
theorem dL_law_200 : decode cL_law 200 = .ok (.goto 629, 3) := by decide +kernel
theorem dL_law_203 : decode cL_law 203 = .ok (.aload_n 1, 1) := by decide +kernel
theorem dL_law_204 : decode cL_law 204 = .ok (.invokevirtual 20, 3) := by decide +kernel
theorem dL_law_207 : decode cL_law 207 = .ok (.pop, 1) := by decide +kernel
theorem dL_law_208 : decode cL_law 208 = .ok (.aload_n 2, 1) := by decide +kernel
theorem dL_law_209 : decode cL_law 209 = .ok (.invokevirtual 24, 3) := by decide +kernel
theorem dL_law_212 : decode cL_law 212 = .ok (.pop, 1) := by decide +kernel
theorem dL_law_213 : decode cL_law 213 = .ok (.goto 616, 3) := by decide +kernel
theorem dL_law_216 : decode cL_law 216 = .ok (.aload_n 1, 1) := by decide +kernel
theorem dL_law_217 : decode cL_law 217 = .ok (.aload_n 0, 1) := by decide +kernel
theorem dL_law_218 : decode cL_law 218 = .ok (.iload_n 3, 1) := by decide +kernel
theorem dL_law_219 : decode cL_law 219 = .ok (.iconst 1, 1) := by decide +kernel
theorem dL_law_220 : decode cL_law 220 = .ok (.iadd, 1) := by decide +kernel
theorem dL_law_221 : decode cL_law 221 = .ok (.iaload, 1) := by decide +kernel
theorem dL_law_222 : decode cL_law 222 = .ok (.invokevirtual 25, 3) := by decide +kernel
theorem dL_law_225 : decode cL_law 225 = .ok (.pop, 1) := by decide +kernel
theorem dL_law_226 : decode cL_law 226 = .ok (.aload_n 2, 1) := by decide +kernel
theorem dL_law_227 : decode cL_law 227 = .ok (.aload_n 0, 1) := by decide +kernel
theorem dL_law_228 : decode cL_law 228 = .ok (.iload_n 3, 1) := by decide +kernel
theorem dL_law_229 : decode cL_law 229 = .ok (.iconst 1, 1) := by decide +kernel
theorem dL_law_230 : decode cL_law 230 = .ok (.iadd, 1) := by decide +kernel
theorem dL_law_231 : decode cL_law 231 = .ok (.iaload, 1) := by decide +kernel
theorem dL_law_232 : decode cL_law 232 = .ok (.invokevirtual 29, 3) := by decide +kernel
theorem dL_law_235 : decode cL_law 235 = .ok (.pop, 1) := by decide +kernel
theorem dL_law_236 : decode cL_law 236 = .ok (.goto 593, 3) := by decide +kernel
theorem dL_law_239 : decode cL_law 239 = .ok (.aload_n 1, 1) := by decide +kernel
theorem dL_law_240 : decode cL_law 240 = .ok (.aload_n 0, 1) := by decide +kernel
theorem dL_law_241 : decode cL_law 241 = .ok (.iload_n 3, 1) := by decide +kernel
theorem dL_law_242 : decode cL_law 242 = .ok (.iconst 1, 1) := by decide +kernel
theorem dL_law_243 : decode cL_law 243 = .ok (.iadd, 1) := by decide +kernel
theorem dL_law_244 : decode cL_law 244 = .ok (.iaload, 1) := by decide +kernel
theorem dL_law_245 : decode cL_law 245 = .ok (.aload_n 0, 1) := by decide +kernel
theorem dL_law_246 : decode cL_law 246 = .ok (.iload_n 3, 1) := by decide +kernel
theorem dL_law_247 : decode cL_law 247 = .ok (.iconst 2, 1) := by decide +kernel
theorem dL_law_248 : decode cL_law 248 = .ok (.iadd, 1) := by decide +kernel
theorem dL_law_249 : decode cL_law 249 = .ok (.iaload, 1) := by decide +kernel
theorem dL_law_250 : decode cL_law 250 = .ok (.aload_n 0, 1) := by decide +kernel
theorem dL_law_251 : decode cL_law 251 = .ok (.iload_n 3, 1) := by decide +kernel
theorem dL_law_252 : decode cL_law 252 = .ok (.iconst 3, 1) := by decide +kernel
theorem dL_law_253 : decode cL_law 253 = .ok (.iadd, 1) := by decide +kernel
theorem dL_law_254 : decode cL_law 254 = .ok (.iaload, 1) := by decide +kernel
theorem dL_law_255 : decode cL_law 255 = .ok (.invokevirtual 30, 3) := by decide +kernel
theorem dL_law_258 : decode cL_law 258 = .ok (.pop, 1) := by decide +kernel
theorem dL_law_259 : decode cL_law 259 = .ok (.aload_n 2, 1) := by decide +kernel
theorem dL_law_260 : decode cL_law 260 = .ok (.aload_n 0, 1) := by decide +kernel
theorem dL_law_261 : decode cL_law 261 = .ok (.iload_n 3, 1) := by decide +kernel
theorem dL_law_262 : decode cL_law 262 = .ok (.iconst 1, 1) := by decide +kernel
theorem dL_law_263 : decode cL_law 263 = .ok (.iadd, 1) := by decide +kernel
theorem dL_law_264 : decode cL_law 264 = .ok (.iaload, 1) := by decide +kernel
theorem dL_law_265 : decode cL_law 265 = .ok (.aload_n 0, 1) := by decide +kernel
theorem dL_law_266 : decode cL_law 266 = .ok (.iload_n 3, 1) := by decide +kernel
theorem dL_law_267 : decode cL_law 267 = .ok (.iconst 2, 1) := by decide +kernel
theorem dL_law_268 : decode cL_law 268 = .ok (.iadd, 1) := by decide +kernel
theorem dL_law_269 : decode cL_law 269 = .ok (.iaload, 1) := by decide +kernel
theorem dL_law_270 : decode cL_law 270 = .ok (.aload_n 0, 1) := by decide +kernel
theorem dL_law_271 : decode cL_law 271 = .ok (.iload_n 3, 1) := by decide +kernel
theorem dL_law_272 : decode cL_law 272 = .ok (.iconst 3, 1) := by decide +kernel
theorem dL_law_273 : decode cL_law 273 = .ok (.iadd, 1) := by decide +kernel
theorem dL_law_274 : decode cL_law 274 = .ok (.iaload, 1) := by decide +kernel
theorem dL_law_275 : decode cL_law 275 = .ok (.invokevirtual 34, 3) := by decide +kernel
theorem dL_law_278 : decode cL_law 278 = .ok (.pop, 1) := by decide +kernel
theorem dL_law_279 : decode cL_law 279 = .ok (.goto 550, 3) := by decide +kernel
set_option maxHeartbeats 4000000 in
set_option maxRecDepth 100000 in
/-- feed -/
theorem law_0 {p : Program} {l : Launch} {e : Env} {s : State} {m : MethodId} {below : List Frame} {meth : Method} {c : Code} {D : va_G} {cI cZ cS cR : ClassId} {N0 : NT} {b L : Nat} {xs : Nat → Int32} (hB : Tz p s m meth c #[Value.ref b] code 4 RL D cI cZ cS cR N0) (hAs : N0.1 = s.heap.size) (hX : va_X b L xs s s.heap) (hbl : b < s.heap.size) (hL : L ≤ 2560) (hr : meth.sig.returnType = ret) {cells slots : Nat} (hcl : cells + 4 ≤ 600000) (hsl : slots + 28 ≤ 7302250) {H : Heap} {locs : List Loc} {ls : Array Slot} (g : GS) (ox om : Nat) (pa : Nat) (pb : Nat) (i o1 : Int32) (hT : Tv D cI cZ cS cR N0 s.heap H locs g) (hI : Inv g) (l_i : 0 ≤ i.toInt) (u_i : i.toInt + 5 ≤ L) : g.1 ox = 7 → g.1 om = 8 → g.2.1 om 22 = .int o1 → 0 ≤ o1.toInt → o1.toInt ≤ 12 * i.toInt → PX 48 2 3 71 72 g om → PX 8 39 40 84 85 g om → g.2.1 ox 5 = .ref pa → g.2.1 om 35 = .ref pb → g.1 pa = 60 → g.1 pb = 83 → g.2.2.1 pa = 4 → g.2.2.1 pb = 4 → QE g pa pb → (hl : lv_has ls 4 [(3, .int i), (2, .ref om), (1, .ref ox), (0, .ref b)]) → (K : ∀ (g1 : GS) (o1_1 : Int32) (H1 : Heap) (locs1 : List Loc), Tv D cI cZ cS cR N0 s.heap H1 locs1 g1 → Inv g1 → g1.1 ox = 7 → g1.1 om = 8 → g1.2.1 om 22 = .int o1_1 → 0 ≤ o1_1.toInt → o1_1.toInt ≤ 12 * i.toInt + 60 → PX 48 2 3 71 72 g1 om → PX 8 39 40 84 85 g1 om → g1.2.1 ox 5 = .ref pa → g1.2.1 om 35 = .ref pb → g1.1 pa = 60 → g1.1 pb = 83 → g1.2.2.1 pa = 4 → g1.2.2.1 pb = 4 → QE g1 pa pb → W p l e room_1 s m #[Value.ref b] below meth c H1 locs1 (cells + 4) (slots + 28) (lw_Z below #[Value.ref b] s) (F0 m 829 ls [])) → W p l e room_1 s m #[Value.ref b] below meth c H locs cells slots (lw_Z below #[Value.ref b] s) (F0 m 140 ls []) := by
  intro r_ox r_om ko l_o u_o hw hN0 k5 k35 r_pa r_pb n_pa n_pb hq hl K
  have hx := hB.1
  have hb := hB.2.1
  have hE : Ex g g := Ex.rf
  have hM : Sm mdA g g := sm_all
  refine lv_aload_n hx hb dL_law_140 rfl (lv_at hl 2 rfl) ?_
  refine lv_aload_n hx hb dL_law_141 rfl (lv_at hl 3 rfl) ?_
  refine lv_iload_n hx hb dL_law_142 rfl (lv_at hl 0 rfl) ?_
  refine lv_iconst (v := 1) hx hb dL_law_143 (by decide) ?_
  refine lv_iadd hx hb dL_law_144 ?_
  refine lv_topi (fun z_1 ez_1 => ?_)
  have e_z_1 : z_1.toInt = i.toInt + 1 := i_add ez_1 rfl (by decide) (by omega) (by omega)
  refine va_sld hx hb hX hbl (fun q => by have q_ : N0.1 ≤ b := q; omega) hT.2 (i_in (n := L) rfl (by omega) (by omega)) dL_law_145 ?_
  refine lv_topi (fun u_2 e_u_2 => ?_)
  refine lv_i2l hx hb dL_law_146 rfl ?_
  refine lv_topl (fun z_3 ez_3 => ?_)
  refine lv_bipush (v := 32) hx hb dL_law_147 (by decide) ?_
  refine lv_lshl hx hb dL_law_149 rfl ?_
  refine lv_topl (fun z_4 ez_4 => ?_)
  refine lv_aload_n hx hb dL_law_150 rfl (lv_at hl 3 rfl) ?_
  refine lv_iload_n hx hb dL_law_151 rfl (lv_at hl 0 rfl) ?_
  refine lv_iconst (v := 2) hx hb dL_law_152 (by decide) ?_
  refine lv_iadd hx hb dL_law_153 ?_
  refine lv_topi (fun z_5 ez_5 => ?_)
  have e_z_5 : z_5.toInt = i.toInt + 2 := i_add ez_5 rfl (by decide) (by omega) (by omega)
  refine va_sld hx hb hX hbl (fun q => by have q_ : N0.1 ≤ b := q; omega) hT.2 (i_in (n := L) rfl (by omega) (by omega)) dL_law_154 ?_
  refine lv_topi (fun u_6 e_u_6 => ?_)
  refine lv_i2l hx hb dL_law_155 rfl ?_
  refine lv_topl (fun z_7 ez_7 => ?_)
  refine lv_ldc2 (v := 4294967295) hx hb hB.2.2.2.1 (hB.2.2.2.2.1 _ k_1190) dL_law_156 ?_
  refine lv_land hx hb dL_law_159 ?_
  refine lv_topl (fun z_8 ez_8 => ?_)
  refine lv_lor hx hb dL_law_160 ?_
  refine lv_topl (fun z_9 ez_9 => ?_)
  refine lv_aload_n hx hb dL_law_161 rfl (lv_at hl 3 rfl) ?_
  refine lv_iload_n hx hb dL_law_162 rfl (lv_at hl 0 rfl) ?_
  refine lv_iconst (v := 3) hx hb dL_law_163 (by decide) ?_
  refine lv_iadd hx hb dL_law_164 ?_
  refine lv_topi (fun z_10 ez_10 => ?_)
  have e_z_10 : z_10.toInt = i.toInt + 3 := i_add ez_10 rfl (by decide) (by omega) (by omega)
  refine va_sld hx hb hX hbl (fun q => by have q_ : N0.1 ≤ b := q; omega) hT.2 (i_in (n := L) rfl (by omega) (by omega)) dL_law_165 ?_
  refine lv_topi (fun u_11 e_u_11 => ?_)
  refine t_callV (n := 2) (As := [.long z_9, .int u_11]) (rest := []) (ci := 6) hB hT hl.1 (P_feed l D cI cZ cS cR N0 g hI ox z_9 u_11 r_ox) (ro_ci r_ox rfl) rfl k_333 k_57 k_330 k_331 k_332 (by decide +kernel) ⟨(Nat.le_of_ble_eq_true rfl), (Nat.le_of_ble_eq_true rfl)⟩ rfl (Nat.le_of_ble_eq_true rfl) ⟨(by show _ ≤ _; first | exact Nat.le_of_ble_eq_true rfl | (simp only [room_1]; omega)), (by show _ ≤ _; first | exact Nat.le_of_ble_eq_true rfl | (simp only [room_1]; omega))⟩ dL_law_166 (fun v g_12 H locs hp hT => ?_)
  obtain ⟨r_13, rfl, hI, x_15, m_14⟩ := hp
  have hw : PX 48 2 3 71 72 g_12 om := hw.mono m_14 x_15 r_om (by decide) (by decide) rfl rfl rfl rfl
  have hN0 : PX 8 39 40 84 85 g_12 om := hN0.mono m_14 x_15 r_om (by decide) (by decide) rfl rfl rfl rfl
  have hq : QE g_12 pa pb := hq.sm m_14 r_pa (by decide) rfl r_pb (by decide) rfl
  have hM : Sm mdA g g_12 := sm_all
  have hE : Ex g g_12 := hE.tr x_15
  have r_16 : g_12.1 ox = 7 := (Ex.r x_15 r_ox (by decide))
  have r_17 : g_12.1 om = 8 := (Ex.r x_15 r_om (by decide))
  have r_18 : g_12.1 pa = 60 := (Ex.r x_15 r_pa (by decide))
  have r_19 : g_12.1 pb = 83 := (Ex.r x_15 r_pb (by decide))
  have n_20 : g_12.2.2.1 pa = 4 := (Ex.n x_15 r_pa (by decide) n_pa)
  have n_21 : g_12.2.2.1 pb = 4 := (Ex.n x_15 r_pb (by decide) n_pb)
  have kn_22 : g_12.2.1 om 22 = .int o1 := (Sm.v m_14 r_om (by decide) rfl ko)
  have kn_23 : g_12.2.1 ox 5 = .ref pa := (Sm.v m_14 r_ox (by decide) rfl k5)
  have kn_24 : g_12.2.1 om 35 = .ref pb := (Sm.v m_14 r_om (by decide) rfl k35)
  refine W.eq (g2 := F0 m 169 ls [.int r_13]) rfl ?_
  refine lv_pop hx hb dL_law_169 rfl ?_
  refine lv_aload_n hx hb dL_law_170 rfl (lv_at hl 1 rfl) ?_
  refine lv_aload_n hx hb dL_law_171 rfl (lv_at hl 3 rfl) ?_
  refine lv_iload_n hx hb dL_law_172 rfl (lv_at hl 0 rfl) ?_
  refine lv_iconst (v := 1) hx hb dL_law_173 (by decide) ?_
  refine lv_iadd hx hb dL_law_174 ?_
  refine lv_topi (fun z_25 ez_25 => ?_)
  have e_z_25 : z_25.toInt = i.toInt + 1 := i_add ez_25 rfl (by decide) (by omega) (by omega)
  refine va_sld hx hb hX hbl (fun q => by have q_ : N0.1 ≤ b := q; omega) hT.2 (i_in (n := L) rfl (by omega) (by omega)) dL_law_175 ?_
  refine lv_topi (fun u_26 e_u_26 => ?_)
  refine lv_i2l hx hb dL_law_176 rfl ?_
  refine lv_topl (fun z_27 ez_27 => ?_)
  refine lv_bipush (v := 32) hx hb dL_law_177 (by decide) ?_
  refine lv_lshl hx hb dL_law_179 rfl ?_
  refine lv_topl (fun z_28 ez_28 => ?_)
  refine lv_aload_n hx hb dL_law_180 rfl (lv_at hl 3 rfl) ?_
  refine lv_iload_n hx hb dL_law_181 rfl (lv_at hl 0 rfl) ?_
  refine lv_iconst (v := 2) hx hb dL_law_182 (by decide) ?_
  refine lv_iadd hx hb dL_law_183 ?_
  refine lv_topi (fun z_29 ez_29 => ?_)
  have e_z_29 : z_29.toInt = i.toInt + 2 := i_add ez_29 rfl (by decide) (by omega) (by omega)
  refine va_sld hx hb hX hbl (fun q => by have q_ : N0.1 ≤ b := q; omega) hT.2 (i_in (n := L) rfl (by omega) (by omega)) dL_law_184 ?_
  refine lv_topi (fun u_30 e_u_30 => ?_)
  refine lv_i2l hx hb dL_law_185 rfl ?_
  refine lv_topl (fun z_31 ez_31 => ?_)
  refine lv_ldc2 (v := 4294967295) hx hb hB.2.2.2.1 (hB.2.2.2.2.1 _ k_1190) dL_law_186 ?_
  refine lv_land hx hb dL_law_189 ?_
  refine lv_topl (fun z_32 ez_32 => ?_)
  refine lv_lor hx hb dL_law_190 ?_
  refine lv_topl (fun z_33 ez_33 => ?_)
  refine lv_aload_n hx hb dL_law_191 rfl (lv_at hl 3 rfl) ?_
  refine lv_iload_n hx hb dL_law_192 rfl (lv_at hl 0 rfl) ?_
  refine lv_iconst (v := 3) hx hb dL_law_193 (by decide) ?_
  refine lv_iadd hx hb dL_law_194 ?_
  refine lv_topi (fun z_34 ez_34 => ?_)
  have e_z_34 : z_34.toInt = i.toInt + 3 := i_add ez_34 rfl (by decide) (by omega) (by omega)
  refine va_sld hx hb hX hbl (fun q => by have q_ : N0.1 ≤ b := q; omega) hT.2 (i_in (n := L) rfl (by omega) (by omega)) dL_law_195 ?_
  refine lv_topi (fun u_35 e_u_35 => ?_)
  refine t_callV (n := 2) (As := [.long z_33, .int u_35]) (rest := []) (ci := 7) hB hT hl.1 (m_feed l D cI cZ cS cR N0 g_12 hI om z_33 u_35 r_17) (ro_ci r_17 rfl) rfl k_951 k_65 k_948 k_949 k_950 (by decide +kernel) ⟨(Nat.le_of_ble_eq_true rfl), (Nat.le_of_ble_eq_true rfl)⟩ rfl (Nat.le_of_ble_eq_true rfl) ⟨(by show _ ≤ _; first | exact Nat.le_of_ble_eq_true rfl | (simp only [room_1]; omega)), (by show _ ≤ _; first | exact Nat.le_of_ble_eq_true rfl | (simp only [room_1]; omega))⟩ dL_law_196 (fun v g_36 H locs hp hT => ?_)
  obtain ⟨r_37, rfl, hI, x_39, m_38⟩ := hp
  have hw : PX 48 2 3 71 72 g_36 om := hw.mono m_38 x_39 r_17 (by decide) (by decide) rfl rfl rfl rfl
  have hN0 : PX 8 39 40 84 85 g_36 om := hN0.mono m_38 x_39 r_17 (by decide) (by decide) rfl rfl rfl rfl
  have hq : QE g_36 pa pb := hq.sm m_38 r_18 (by decide) rfl r_19 (by decide) rfl
  have hM : Sm mdA g g_36 := sm_all
  have hE : Ex g g_36 := hE.tr x_39
  have r_40 : g_36.1 ox = 7 := (Ex.r x_39 r_16 (by decide))
  have r_41 : g_36.1 om = 8 := (Ex.r x_39 r_17 (by decide))
  have r_42 : g_36.1 pa = 60 := (Ex.r x_39 r_18 (by decide))
  have r_43 : g_36.1 pb = 83 := (Ex.r x_39 r_19 (by decide))
  have n_44 : g_36.2.2.1 pa = 4 := (Ex.n x_39 r_18 (by decide) n_20)
  have n_45 : g_36.2.2.1 pb = 4 := (Ex.n x_39 r_19 (by decide) n_21)
  have kn_46 : g_36.2.1 om 22 = .int o1 := (Sm.v m_38 r_17 (by decide) rfl kn_22)
  have kn_47 : g_36.2.1 ox 5 = .ref pa := (Sm.v m_38 r_16 (by decide) rfl kn_23)
  have kn_48 : g_36.2.1 om 35 = .ref pb := (Sm.v m_38 r_17 (by decide) rfl kn_24)
  refine W.eq (g2 := F0 m 199 ls [.int r_37]) rfl ?_
  refine lv_pop hx hb dL_law_199 rfl ?_
  refine lv_goto (tgt := 829) hx hb dL_law_200 (by decide) ?_
  refine W.widen (k := cells + 4) (n := slots + 28) (by omega) (by omega) ?_
  exact K g_36 o1 H locs hT hI r_40 r_41 kn_46 (by have e0_ : (0 : Int32).toInt = 0 := (by decide); omega) (by have e0_ : (0 : Int32).toInt = 0 := (by decide); omega) hw hN0 kn_47 kn_48 r_42 r_43 n_44 n_45 hq
set_option maxHeartbeats 4000000 in
set_option maxRecDepth 100000 in
/-- service -/
theorem law_1 {p : Program} {l : Launch} {e : Env} {s : State} {m : MethodId} {below : List Frame} {meth : Method} {c : Code} {D : va_G} {cI cZ cS cR : ClassId} {N0 : NT} {b L : Nat} {xs : Nat → Int32} (hB : Tz p s m meth c #[Value.ref b] code 4 RL D cI cZ cS cR N0) (hAs : N0.1 = s.heap.size) (hX : va_X b L xs s s.heap) (hbl : b < s.heap.size) (hL : L ≤ 2560) (hr : meth.sig.returnType = ret) {cells slots : Nat} (hcl : cells + 4 ≤ 600000) (hsl : slots + 28 ≤ 7302250) {H : Heap} {locs : List Loc} {ls : Array Slot} (g : GS) (ox om : Nat) (pa : Nat) (pb : Nat) (i o1 : Int32) (hT : Tv D cI cZ cS cR N0 s.heap H locs g) (hI : Inv g) (l_i : 0 ≤ i.toInt) (u_i : i.toInt + 5 ≤ L) : g.1 ox = 7 → g.1 om = 8 → g.2.1 om 22 = .int o1 → 0 ≤ o1.toInt → o1.toInt ≤ 12 * i.toInt → PX 48 2 3 71 72 g om → PX 8 39 40 84 85 g om → g.2.1 ox 5 = .ref pa → g.2.1 om 35 = .ref pb → g.1 pa = 60 → g.1 pb = 83 → g.2.2.1 pa = 4 → g.2.2.1 pb = 4 → QE g pa pb → (hl : lv_has ls 4 [(3, .int i), (2, .ref om), (1, .ref ox), (0, .ref b)]) → (K : ∀ (g1 : GS) (o1_1 : Int32) (H1 : Heap) (locs1 : List Loc), Tv D cI cZ cS cR N0 s.heap H1 locs1 g1 → Inv g1 → g1.1 ox = 7 → g1.1 om = 8 → g1.2.1 om 22 = .int o1_1 → 0 ≤ o1_1.toInt → o1_1.toInt ≤ 12 * i.toInt + 60 → PX 48 2 3 71 72 g1 om → PX 8 39 40 84 85 g1 om → g1.2.1 ox 5 = .ref pa → g1.2.1 om 35 = .ref pb → g1.1 pa = 60 → g1.1 pb = 83 → g1.2.2.1 pa = 4 → g1.2.2.1 pb = 4 → QE g1 pa pb → W p l e room_1 s m #[Value.ref b] below meth c H1 locs1 (cells + 4) (slots + 28) (lw_Z below #[Value.ref b] s) (F0 m 829 ls [])) → W p l e room_1 s m #[Value.ref b] below meth c H locs cells slots (lw_Z below #[Value.ref b] s) (F0 m 203 ls []) := by
  intro r_ox r_om ko l_o u_o hw hN0 k5 k35 r_pa r_pb n_pa n_pb hq hl K
  have hx := hB.1
  have hb := hB.2.1
  have hE : Ex g g := Ex.rf
  have hM : Sm mdA g g := sm_all
  refine lv_aload_n hx hb dL_law_203 rfl (lv_at hl 2 rfl) ?_
  refine t_callV (n := 0) (As := []) (rest := []) (ci := 6) hB hT hl.1 (P_service l D cI cZ cS cR N0 g hI ox r_ox) (ro_ci r_ox rfl) rfl k_342 k_57 k_339 k_340 k_341 (by decide +kernel) ⟨(Nat.le_of_ble_eq_true rfl), (Nat.le_of_ble_eq_true rfl)⟩ rfl (Nat.le_of_ble_eq_true rfl) ⟨(by show _ ≤ _; first | exact Nat.le_of_ble_eq_true rfl | (simp only [room_1]; omega)), (by show _ ≤ _; first | exact Nat.le_of_ble_eq_true rfl | (simp only [room_1]; omega))⟩ dL_law_204 (fun v g_1 H locs hp hT => ?_)
  obtain ⟨r_2, rfl, hI, x_4, m_3⟩ := hp
  have hw : PX 48 2 3 71 72 g_1 om := hw.mono m_3 x_4 r_om (by decide) (by decide) rfl rfl rfl rfl
  have hN0 : PX 8 39 40 84 85 g_1 om := hN0.mono m_3 x_4 r_om (by decide) (by decide) rfl rfl rfl rfl
  have hq : QE g_1 pa pb := hq.sm m_3 r_pa (by decide) rfl r_pb (by decide) rfl
  have hM : Sm mdA g g_1 := sm_all
  have hE : Ex g g_1 := hE.tr x_4
  have r_5 : g_1.1 ox = 7 := (Ex.r x_4 r_ox (by decide))
  have r_6 : g_1.1 om = 8 := (Ex.r x_4 r_om (by decide))
  have r_7 : g_1.1 pa = 60 := (Ex.r x_4 r_pa (by decide))
  have r_8 : g_1.1 pb = 83 := (Ex.r x_4 r_pb (by decide))
  have n_9 : g_1.2.2.1 pa = 4 := (Ex.n x_4 r_pa (by decide) n_pa)
  have n_10 : g_1.2.2.1 pb = 4 := (Ex.n x_4 r_pb (by decide) n_pb)
  have kn_11 : g_1.2.1 om 22 = .int o1 := (Sm.v m_3 r_om (by decide) rfl ko)
  have kn_12 : g_1.2.1 ox 5 = .ref pa := (Sm.v m_3 r_ox (by decide) rfl k5)
  have kn_13 : g_1.2.1 om 35 = .ref pb := (Sm.v m_3 r_om (by decide) rfl k35)
  refine W.eq (g2 := F0 m 207 ls [.int r_2]) rfl ?_
  refine lv_pop hx hb dL_law_207 rfl ?_
  refine lv_aload_n hx hb dL_law_208 rfl (lv_at hl 1 rfl) ?_
  refine t_callV (n := 0) (As := []) (rest := []) (ci := 7) hB hT hl.1 (m_service l D cI cZ cS cR N0 g_1 hI om r_6 hw hN0) (ro_ci r_6 rfl) rfl k_959 k_65 k_956 k_957 k_958 (by decide +kernel) ⟨(Nat.le_of_ble_eq_true rfl), (Nat.le_of_ble_eq_true rfl)⟩ rfl (Nat.le_of_ble_eq_true rfl) ⟨(by show _ ≤ _; first | exact Nat.le_of_ble_eq_true rfl | (simp only [room_1]; omega)), (by show _ ≤ _; first | exact Nat.le_of_ble_eq_true rfl | (simp only [room_1]; omega))⟩ dL_law_209 (fun v g_14 H locs hp hT => ?_)
  obtain ⟨r_15, rfl, hI, x_19, m_18, f_16, f_17⟩ := hp
  have hq : QE g_14 pa pb := hq.sm m_18 r_7 (by decide) rfl r_8 (by decide) rfl
  have hM : Sm mdA g g_14 := sm_all
  have hE : Ex g g_14 := hE.tr x_19
  have r_20 : g_14.1 ox = 7 := (Ex.r x_19 r_5 (by decide))
  have r_21 : g_14.1 om = 8 := (Ex.r x_19 r_6 (by decide))
  have r_22 : g_14.1 pa = 60 := (Ex.r x_19 r_7 (by decide))
  have r_23 : g_14.1 pb = 83 := (Ex.r x_19 r_8 (by decide))
  have n_24 : g_14.2.2.1 pa = 4 := (Ex.n x_19 r_7 (by decide) n_9)
  have n_25 : g_14.2.2.1 pb = 4 := (Ex.n x_19 r_8 (by decide) n_10)
  have kn_26 : g_14.2.1 om 22 = .int o1 := (Sm.v m_18 r_6 (by decide) rfl kn_11)
  have kn_27 : g_14.2.1 ox 5 = .ref pa := (Sm.v m_18 r_5 (by decide) rfl kn_12)
  have kn_28 : g_14.2.1 om 35 = .ref pb := (Sm.v m_18 r_6 (by decide) rfl kn_13)
  refine W.eq (g2 := F0 m 212 ls [.int r_15]) rfl ?_
  have hw := f_16
  have hN0 := f_17
  refine lv_pop hx hb dL_law_212 rfl ?_
  refine lv_goto (tgt := 829) hx hb dL_law_213 (by decide) ?_
  refine W.widen (k := cells + 4) (n := slots + 28) (by omega) (by omega) ?_
  exact K g_14 o1 H locs hT hI r_20 r_21 kn_26 (by have e0_ : (0 : Int32).toInt = 0 := (by decide); omega) (by have e0_ : (0 : Int32).toInt = 0 := (by decide); omega) hw hN0 kn_27 kn_28 r_22 r_23 n_24 n_25 hq
set_option maxHeartbeats 4000000 in
set_option maxRecDepth 100000 in
/-- change -/
theorem law_2 {p : Program} {l : Launch} {e : Env} {s : State} {m : MethodId} {below : List Frame} {meth : Method} {c : Code} {D : va_G} {cI cZ cS cR : ClassId} {N0 : NT} {b L : Nat} {xs : Nat → Int32} (hB : Tz p s m meth c #[Value.ref b] code 4 RL D cI cZ cS cR N0) (hAs : N0.1 = s.heap.size) (hX : va_X b L xs s s.heap) (hbl : b < s.heap.size) (hL : L ≤ 2560) (hr : meth.sig.returnType = ret) {cells slots : Nat} (hcl : cells + 4 ≤ 600000) (hsl : slots + 28 ≤ 7302250) {H : Heap} {locs : List Loc} {ls : Array Slot} (g : GS) (ox om : Nat) (pa : Nat) (pb : Nat) (i o1 : Int32) (hT : Tv D cI cZ cS cR N0 s.heap H locs g) (hI : Inv g) (l_i : 0 ≤ i.toInt) (u_i : i.toInt + 5 ≤ L) : g.1 ox = 7 → g.1 om = 8 → g.2.1 om 22 = .int o1 → 0 ≤ o1.toInt → o1.toInt ≤ 12 * i.toInt → PX 48 2 3 71 72 g om → PX 8 39 40 84 85 g om → g.2.1 ox 5 = .ref pa → g.2.1 om 35 = .ref pb → g.1 pa = 60 → g.1 pb = 83 → g.2.2.1 pa = 4 → g.2.2.1 pb = 4 → QE g pa pb → (hl : lv_has ls 4 [(3, .int i), (2, .ref om), (1, .ref ox), (0, .ref b)]) → (K : ∀ (g1 : GS) (o1_1 : Int32) (H1 : Heap) (locs1 : List Loc), Tv D cI cZ cS cR N0 s.heap H1 locs1 g1 → Inv g1 → g1.1 ox = 7 → g1.1 om = 8 → g1.2.1 om 22 = .int o1_1 → 0 ≤ o1_1.toInt → o1_1.toInt ≤ 12 * i.toInt + 60 → PX 48 2 3 71 72 g1 om → PX 8 39 40 84 85 g1 om → g1.2.1 ox 5 = .ref pa → g1.2.1 om 35 = .ref pb → g1.1 pa = 60 → g1.1 pb = 83 → g1.2.2.1 pa = 4 → g1.2.2.1 pb = 4 → QE g1 pa pb → W p l e room_1 s m #[Value.ref b] below meth c H1 locs1 (cells + 4) (slots + 28) (lw_Z below #[Value.ref b] s) (F0 m 829 ls [])) → W p l e room_1 s m #[Value.ref b] below meth c H locs cells slots (lw_Z below #[Value.ref b] s) (F0 m 216 ls []) := by
  intro r_ox r_om ko l_o u_o hw hN0 k5 k35 r_pa r_pb n_pa n_pb hq hl K
  have hx := hB.1
  have hb := hB.2.1
  have hE : Ex g g := Ex.rf
  have hM : Sm mdA g g := sm_all
  refine lv_aload_n hx hb dL_law_216 rfl (lv_at hl 2 rfl) ?_
  refine lv_aload_n hx hb dL_law_217 rfl (lv_at hl 3 rfl) ?_
  refine lv_iload_n hx hb dL_law_218 rfl (lv_at hl 0 rfl) ?_
  refine lv_iconst (v := 1) hx hb dL_law_219 (by decide) ?_
  refine lv_iadd hx hb dL_law_220 ?_
  refine lv_topi (fun z_1 ez_1 => ?_)
  have e_z_1 : z_1.toInt = i.toInt + 1 := i_add ez_1 rfl (by decide) (by omega) (by omega)
  refine va_sld hx hb hX hbl (fun q => by have q_ : N0.1 ≤ b := q; omega) hT.2 (i_in (n := L) rfl (by omega) (by omega)) dL_law_221 ?_
  refine lv_topi (fun u_2 e_u_2 => ?_)
  refine t_callV (n := 1) (As := [.int u_2]) (rest := []) (ci := 6) hB hT hl.1 (P_change l D cI cZ cS cR N0 g hI ox u_2 r_ox) (ro_ci r_ox rfl) rfl k_432 k_57 k_429 k_430 k_431 (by decide +kernel) ⟨(Nat.le_of_ble_eq_true rfl), (Nat.le_of_ble_eq_true rfl)⟩ rfl (Nat.le_of_ble_eq_true rfl) ⟨(by show _ ≤ _; first | exact Nat.le_of_ble_eq_true rfl | (simp only [room_1]; omega)), (by show _ ≤ _; first | exact Nat.le_of_ble_eq_true rfl | (simp only [room_1]; omega))⟩ dL_law_222 (fun v g_3 H locs hp hT => ?_)
  obtain ⟨r_4, rfl, hI, x_6, m_5⟩ := hp
  have hw : PX 48 2 3 71 72 g_3 om := hw.mono m_5 x_6 r_om (by decide) (by decide) rfl rfl rfl rfl
  have hN0 : PX 8 39 40 84 85 g_3 om := hN0.mono m_5 x_6 r_om (by decide) (by decide) rfl rfl rfl rfl
  have hq : QE g_3 pa pb := hq.sm m_5 r_pa (by decide) rfl r_pb (by decide) rfl
  have hM : Sm mdA g g_3 := sm_all
  have hE : Ex g g_3 := hE.tr x_6
  have r_7 : g_3.1 ox = 7 := (Ex.r x_6 r_ox (by decide))
  have r_8 : g_3.1 om = 8 := (Ex.r x_6 r_om (by decide))
  have r_9 : g_3.1 pa = 60 := (Ex.r x_6 r_pa (by decide))
  have r_10 : g_3.1 pb = 83 := (Ex.r x_6 r_pb (by decide))
  have n_11 : g_3.2.2.1 pa = 4 := (Ex.n x_6 r_pa (by decide) n_pa)
  have n_12 : g_3.2.2.1 pb = 4 := (Ex.n x_6 r_pb (by decide) n_pb)
  have kn_13 : g_3.2.1 om 22 = .int o1 := (Sm.v m_5 r_om (by decide) rfl ko)
  have kn_14 : g_3.2.1 ox 5 = .ref pa := (Sm.v m_5 r_ox (by decide) rfl k5)
  have kn_15 : g_3.2.1 om 35 = .ref pb := (Sm.v m_5 r_om (by decide) rfl k35)
  refine W.eq (g2 := F0 m 225 ls [.int r_4]) rfl ?_
  refine lv_pop hx hb dL_law_225 rfl ?_
  refine lv_aload_n hx hb dL_law_226 rfl (lv_at hl 1 rfl) ?_
  refine lv_aload_n hx hb dL_law_227 rfl (lv_at hl 3 rfl) ?_
  refine lv_iload_n hx hb dL_law_228 rfl (lv_at hl 0 rfl) ?_
  refine lv_iconst (v := 1) hx hb dL_law_229 (by decide) ?_
  refine lv_iadd hx hb dL_law_230 ?_
  refine lv_topi (fun z_16 ez_16 => ?_)
  have e_z_16 : z_16.toInt = i.toInt + 1 := i_add ez_16 rfl (by decide) (by omega) (by omega)
  refine va_sld hx hb hX hbl (fun q => by have q_ : N0.1 ≤ b := q; omega) hT.2 (i_in (n := L) rfl (by omega) (by omega)) dL_law_231 ?_
  refine lv_topi (fun u_17 e_u_17 => ?_)
  refine t_callV (n := 1) (As := [.int u_17]) (rest := []) (ci := 7) hB hT hl.1 (m_change l D cI cZ cS cR N0 g_3 hI om u_17 r_8 hw hN0) (ro_ci r_8 rfl) rfl k_987 k_65 k_984 k_985 k_986 (by decide +kernel) ⟨(Nat.le_of_ble_eq_true rfl), (Nat.le_of_ble_eq_true rfl)⟩ rfl (Nat.le_of_ble_eq_true rfl) ⟨(by show _ ≤ _; first | exact Nat.le_of_ble_eq_true rfl | (simp only [room_1]; omega)), (by show _ ≤ _; first | exact Nat.le_of_ble_eq_true rfl | (simp only [room_1]; omega))⟩ dL_law_232 (fun v g_18 H locs hp hT => ?_)
  obtain ⟨r_19, rfl, hI, x_23, m_22, f_20, f_21⟩ := hp
  have hq : QE g_18 pa pb := hq.sm m_22 r_9 (by decide) rfl r_10 (by decide) rfl
  have hM : Sm mdA g g_18 := sm_all
  have hE : Ex g g_18 := hE.tr x_23
  have r_24 : g_18.1 ox = 7 := (Ex.r x_23 r_7 (by decide))
  have r_25 : g_18.1 om = 8 := (Ex.r x_23 r_8 (by decide))
  have r_26 : g_18.1 pa = 60 := (Ex.r x_23 r_9 (by decide))
  have r_27 : g_18.1 pb = 83 := (Ex.r x_23 r_10 (by decide))
  have n_28 : g_18.2.2.1 pa = 4 := (Ex.n x_23 r_9 (by decide) n_11)
  have n_29 : g_18.2.2.1 pb = 4 := (Ex.n x_23 r_10 (by decide) n_12)
  have kn_30 : g_18.2.1 om 22 = .int o1 := (Sm.v m_22 r_8 (by decide) rfl kn_13)
  have kn_31 : g_18.2.1 ox 5 = .ref pa := (Sm.v m_22 r_7 (by decide) rfl kn_14)
  have kn_32 : g_18.2.1 om 35 = .ref pb := (Sm.v m_22 r_8 (by decide) rfl kn_15)
  refine W.eq (g2 := F0 m 235 ls [.int r_19]) rfl ?_
  have hw := f_20
  have hN0 := f_21
  refine lv_pop hx hb dL_law_235 rfl ?_
  refine lv_goto (tgt := 829) hx hb dL_law_236 (by decide) ?_
  refine W.widen (k := cells + 4) (n := slots + 28) (by omega) (by omega) ?_
  exact K g_18 o1 H locs hT hI r_24 r_25 kn_30 (by have e0_ : (0 : Int32).toInt = 0 := (by decide); omega) (by have e0_ : (0 : Int32).toInt = 0 := (by decide); omega) hw hN0 kn_31 kn_32 r_26 r_27 n_28 n_29 hq
set_option maxHeartbeats 4000000 in
set_option maxRecDepth 100000 in
/-- mend -/
theorem law_3 {p : Program} {l : Launch} {e : Env} {s : State} {m : MethodId} {below : List Frame} {meth : Method} {c : Code} {D : va_G} {cI cZ cS cR : ClassId} {N0 : NT} {b L : Nat} {xs : Nat → Int32} (hB : Tz p s m meth c #[Value.ref b] code 4 RL D cI cZ cS cR N0) (hAs : N0.1 = s.heap.size) (hX : va_X b L xs s s.heap) (hbl : b < s.heap.size) (hL : L ≤ 2560) (hr : meth.sig.returnType = ret) {cells slots : Nat} (hcl : cells + 4 ≤ 600000) (hsl : slots + 28 ≤ 7302250) {H : Heap} {locs : List Loc} {ls : Array Slot} (g : GS) (ox om : Nat) (pa : Nat) (pb : Nat) (i o1 : Int32) (hT : Tv D cI cZ cS cR N0 s.heap H locs g) (hI : Inv g) (l_i : 0 ≤ i.toInt) (u_i : i.toInt + 5 ≤ L) : g.1 ox = 7 → g.1 om = 8 → g.2.1 om 22 = .int o1 → 0 ≤ o1.toInt → o1.toInt ≤ 12 * i.toInt → PX 48 2 3 71 72 g om → PX 8 39 40 84 85 g om → g.2.1 ox 5 = .ref pa → g.2.1 om 35 = .ref pb → g.1 pa = 60 → g.1 pb = 83 → g.2.2.1 pa = 4 → g.2.2.1 pb = 4 → QE g pa pb → (hl : lv_has ls 4 [(3, .int i), (2, .ref om), (1, .ref ox), (0, .ref b)]) → (K : ∀ (g1 : GS) (o1_1 : Int32) (H1 : Heap) (locs1 : List Loc), Tv D cI cZ cS cR N0 s.heap H1 locs1 g1 → Inv g1 → g1.1 ox = 7 → g1.1 om = 8 → g1.2.1 om 22 = .int o1_1 → 0 ≤ o1_1.toInt → o1_1.toInt ≤ 12 * i.toInt + 60 → PX 48 2 3 71 72 g1 om → PX 8 39 40 84 85 g1 om → g1.2.1 ox 5 = .ref pa → g1.2.1 om 35 = .ref pb → g1.1 pa = 60 → g1.1 pb = 83 → g1.2.2.1 pa = 4 → g1.2.2.1 pb = 4 → QE g1 pa pb → W p l e room_1 s m #[Value.ref b] below meth c H1 locs1 (cells + 4) (slots + 28) (lw_Z below #[Value.ref b] s) (F0 m 829 ls [])) → W p l e room_1 s m #[Value.ref b] below meth c H locs cells slots (lw_Z below #[Value.ref b] s) (F0 m 239 ls []) := by
  intro r_ox r_om ko l_o u_o hw hN0 k5 k35 r_pa r_pb n_pa n_pb hq hl K
  have hx := hB.1
  have hb := hB.2.1
  have hE : Ex g g := Ex.rf
  have hM : Sm mdA g g := sm_all
  refine lv_aload_n hx hb dL_law_239 rfl (lv_at hl 2 rfl) ?_
  refine lv_aload_n hx hb dL_law_240 rfl (lv_at hl 3 rfl) ?_
  refine lv_iload_n hx hb dL_law_241 rfl (lv_at hl 0 rfl) ?_
  refine lv_iconst (v := 1) hx hb dL_law_242 (by decide) ?_
  refine lv_iadd hx hb dL_law_243 ?_
  refine lv_topi (fun z_1 ez_1 => ?_)
  have e_z_1 : z_1.toInt = i.toInt + 1 := i_add ez_1 rfl (by decide) (by omega) (by omega)
  refine va_sld hx hb hX hbl (fun q => by have q_ : N0.1 ≤ b := q; omega) hT.2 (i_in (n := L) rfl (by omega) (by omega)) dL_law_244 ?_
  refine lv_topi (fun u_2 e_u_2 => ?_)
  refine lv_aload_n hx hb dL_law_245 rfl (lv_at hl 3 rfl) ?_
  refine lv_iload_n hx hb dL_law_246 rfl (lv_at hl 0 rfl) ?_
  refine lv_iconst (v := 2) hx hb dL_law_247 (by decide) ?_
  refine lv_iadd hx hb dL_law_248 ?_
  refine lv_topi (fun z_3 ez_3 => ?_)
  have e_z_3 : z_3.toInt = i.toInt + 2 := i_add ez_3 rfl (by decide) (by omega) (by omega)
  refine va_sld hx hb hX hbl (fun q => by have q_ : N0.1 ≤ b := q; omega) hT.2 (i_in (n := L) rfl (by omega) (by omega)) dL_law_249 ?_
  refine lv_topi (fun u_4 e_u_4 => ?_)
  refine lv_aload_n hx hb dL_law_250 rfl (lv_at hl 3 rfl) ?_
  refine lv_iload_n hx hb dL_law_251 rfl (lv_at hl 0 rfl) ?_
  refine lv_iconst (v := 3) hx hb dL_law_252 (by decide) ?_
  refine lv_iadd hx hb dL_law_253 ?_
  refine lv_topi (fun z_5 ez_5 => ?_)
  have e_z_5 : z_5.toInt = i.toInt + 3 := i_add ez_5 rfl (by decide) (by omega) (by omega)
  refine va_sld hx hb hX hbl (fun q => by have q_ : N0.1 ≤ b := q; omega) hT.2 (i_in (n := L) rfl (by omega) (by omega)) dL_law_254 ?_
  refine lv_topi (fun u_6 e_u_6 => ?_)
  refine t_callV (n := 3) (As := [.int u_2, .int u_4, .int u_6]) (rest := []) (ci := 6) hB hT hl.1 (P_mend l D cI cZ cS cR N0 g hI ox u_2 u_4 u_6 r_ox) (ro_ci r_ox rfl) rfl k_440 k_57 k_437 k_438 k_439 (by decide +kernel) ⟨(Nat.le_of_ble_eq_true rfl), (Nat.le_of_ble_eq_true rfl)⟩ rfl (Nat.le_of_ble_eq_true rfl) ⟨(by show _ ≤ _; first | exact Nat.le_of_ble_eq_true rfl | (simp only [room_1]; omega)), (by show _ ≤ _; first | exact Nat.le_of_ble_eq_true rfl | (simp only [room_1]; omega))⟩ dL_law_255 (fun v g_7 H locs hp hT => ?_)
  obtain ⟨r_8, rfl, hI, x_10, m_9⟩ := hp
  have hw : PX 48 2 3 71 72 g_7 om := hw.mono m_9 x_10 r_om (by decide) (by decide) rfl rfl rfl rfl
  have hN0 : PX 8 39 40 84 85 g_7 om := hN0.mono m_9 x_10 r_om (by decide) (by decide) rfl rfl rfl rfl
  have hq : QE g_7 pa pb := hq.sm m_9 r_pa (by decide) rfl r_pb (by decide) rfl
  have hM : Sm mdA g g_7 := sm_all
  have hE : Ex g g_7 := hE.tr x_10
  have r_11 : g_7.1 ox = 7 := (Ex.r x_10 r_ox (by decide))
  have r_12 : g_7.1 om = 8 := (Ex.r x_10 r_om (by decide))
  have r_13 : g_7.1 pa = 60 := (Ex.r x_10 r_pa (by decide))
  have r_14 : g_7.1 pb = 83 := (Ex.r x_10 r_pb (by decide))
  have n_15 : g_7.2.2.1 pa = 4 := (Ex.n x_10 r_pa (by decide) n_pa)
  have n_16 : g_7.2.2.1 pb = 4 := (Ex.n x_10 r_pb (by decide) n_pb)
  have kn_17 : g_7.2.1 om 22 = .int o1 := (Sm.v m_9 r_om (by decide) rfl ko)
  have kn_18 : g_7.2.1 ox 5 = .ref pa := (Sm.v m_9 r_ox (by decide) rfl k5)
  have kn_19 : g_7.2.1 om 35 = .ref pb := (Sm.v m_9 r_om (by decide) rfl k35)
  refine W.eq (g2 := F0 m 258 ls [.int r_8]) rfl ?_
  refine lv_pop hx hb dL_law_258 rfl ?_
  refine lv_aload_n hx hb dL_law_259 rfl (lv_at hl 1 rfl) ?_
  refine lv_aload_n hx hb dL_law_260 rfl (lv_at hl 3 rfl) ?_
  refine lv_iload_n hx hb dL_law_261 rfl (lv_at hl 0 rfl) ?_
  refine lv_iconst (v := 1) hx hb dL_law_262 (by decide) ?_
  refine lv_iadd hx hb dL_law_263 ?_
  refine lv_topi (fun z_20 ez_20 => ?_)
  have e_z_20 : z_20.toInt = i.toInt + 1 := i_add ez_20 rfl (by decide) (by omega) (by omega)
  refine va_sld hx hb hX hbl (fun q => by have q_ : N0.1 ≤ b := q; omega) hT.2 (i_in (n := L) rfl (by omega) (by omega)) dL_law_264 ?_
  refine lv_topi (fun u_21 e_u_21 => ?_)
  refine lv_aload_n hx hb dL_law_265 rfl (lv_at hl 3 rfl) ?_
  refine lv_iload_n hx hb dL_law_266 rfl (lv_at hl 0 rfl) ?_
  refine lv_iconst (v := 2) hx hb dL_law_267 (by decide) ?_
  refine lv_iadd hx hb dL_law_268 ?_
  refine lv_topi (fun z_22 ez_22 => ?_)
  have e_z_22 : z_22.toInt = i.toInt + 2 := i_add ez_22 rfl (by decide) (by omega) (by omega)
  refine va_sld hx hb hX hbl (fun q => by have q_ : N0.1 ≤ b := q; omega) hT.2 (i_in (n := L) rfl (by omega) (by omega)) dL_law_269 ?_
  refine lv_topi (fun u_23 e_u_23 => ?_)
  refine lv_aload_n hx hb dL_law_270 rfl (lv_at hl 3 rfl) ?_
  refine lv_iload_n hx hb dL_law_271 rfl (lv_at hl 0 rfl) ?_
  refine lv_iconst (v := 3) hx hb dL_law_272 (by decide) ?_
  refine lv_iadd hx hb dL_law_273 ?_
  refine lv_topi (fun z_24 ez_24 => ?_)
  have e_z_24 : z_24.toInt = i.toInt + 3 := i_add ez_24 rfl (by decide) (by omega) (by omega)
  refine va_sld hx hb hX hbl (fun q => by have q_ : N0.1 ≤ b := q; omega) hT.2 (i_in (n := L) rfl (by omega) (by omega)) dL_law_274 ?_
  refine lv_topi (fun u_25 e_u_25 => ?_)
  refine t_callV (n := 3) (As := [.int u_21, .int u_23, .int u_25]) (rest := []) (ci := 7) hB hT hl.1 (m_mend l D cI cZ cS cR N0 g_7 hI om u_21 u_23 u_25 r_12) (ro_ci r_12 rfl) rfl k_995 k_65 k_992 k_993 k_994 (by decide +kernel) ⟨(Nat.le_of_ble_eq_true rfl), (Nat.le_of_ble_eq_true rfl)⟩ rfl (Nat.le_of_ble_eq_true rfl) ⟨(by show _ ≤ _; first | exact Nat.le_of_ble_eq_true rfl | (simp only [room_1]; omega)), (by show _ ≤ _; first | exact Nat.le_of_ble_eq_true rfl | (simp only [room_1]; omega))⟩ dL_law_275 (fun v g_26 H locs hp hT => ?_)
  obtain ⟨r_27, rfl, hI, x_29, m_28⟩ := hp
  have hw : PX 48 2 3 71 72 g_26 om := hw.mono m_28 x_29 r_12 (by decide) (by decide) rfl rfl rfl rfl
  have hN0 : PX 8 39 40 84 85 g_26 om := hN0.mono m_28 x_29 r_12 (by decide) (by decide) rfl rfl rfl rfl
  have hq : QE g_26 pa pb := hq.sm m_28 r_13 (by decide) rfl r_14 (by decide) rfl
  have hM : Sm mdA g g_26 := sm_all
  have hE : Ex g g_26 := hE.tr x_29
  have r_30 : g_26.1 ox = 7 := (Ex.r x_29 r_11 (by decide))
  have r_31 : g_26.1 om = 8 := (Ex.r x_29 r_12 (by decide))
  have r_32 : g_26.1 pa = 60 := (Ex.r x_29 r_13 (by decide))
  have r_33 : g_26.1 pb = 83 := (Ex.r x_29 r_14 (by decide))
  have n_34 : g_26.2.2.1 pa = 4 := (Ex.n x_29 r_13 (by decide) n_15)
  have n_35 : g_26.2.2.1 pb = 4 := (Ex.n x_29 r_14 (by decide) n_16)
  have kn_36 : g_26.2.1 om 22 = .int o1 := (Sm.v m_28 r_12 (by decide) rfl kn_17)
  have kn_37 : g_26.2.1 ox 5 = .ref pa := (Sm.v m_28 r_11 (by decide) rfl kn_18)
  have kn_38 : g_26.2.1 om 35 = .ref pb := (Sm.v m_28 r_12 (by decide) rfl kn_19)
  refine W.eq (g2 := F0 m 278 ls [.int r_27]) rfl ?_
  refine lv_pop hx hb dL_law_278 rfl ?_
  refine lv_goto (tgt := 829) hx hb dL_law_279 (by decide) ?_
  refine W.widen (k := cells + 4) (n := slots + 28) (by omega) (by omega) ?_
  exact K g_26 o1 H locs hT hI r_30 r_31 kn_36 (by have e0_ : (0 : Int32).toInt = 0 := (by decide); omega) (by have e0_ : (0 : Int32).toInt = 0 := (by decide); omega) hw hN0 kn_37 kn_38 r_32 r_33 n_34 n_35 hq
