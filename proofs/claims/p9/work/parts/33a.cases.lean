theorem k_330 : Cond.methodLink RL 15 yX6_feed ∈ tb := mt 330 (by decide +kernel) rfl
theorem k_331 : Cond.instanceMethod yX6_feed ∈ tb := mt 331 (by decide +kernel) rfl
theorem k_332 : Cond.selects RX6 yX6_feed yX6_feed ∈ tb := mt 332 (by decide +kernel) rfl
set_option maxRecDepth 20000 in
theorem k_333 : Cond.code yX6_feed cX6_feed 4 (some .int) ∈ tb := mt 333 rfl rfl
theorem k_339 : Cond.methodLink RL 20 yX6_service ∈ tb := mt 339 (by decide +kernel) rfl
theorem k_340 : Cond.instanceMethod yX6_service ∈ tb := mt 340 (by decide +kernel) rfl
theorem k_341 : Cond.selects RX6 yX6_service yX6_service ∈ tb := mt 341 (by decide +kernel) rfl
set_option maxRecDepth 20000 in
theorem k_342 : Cond.code yX6_service cX6_service 2 (some .int) ∈ tb := mt 342 rfl rfl
theorem k_429 : Cond.methodLink RL 25 yX6_change ∈ tb := mt 429 (by decide +kernel) rfl
theorem k_430 : Cond.instanceMethod yX6_change ∈ tb := mt 430 (by decide +kernel) rfl
theorem k_431 : Cond.selects RX6 yX6_change yX6_change ∈ tb := mt 431 (by decide +kernel) rfl
set_option maxRecDepth 20000 in
theorem k_432 : Cond.code yX6_change cX6_change 3 (some .int) ∈ tb := mt 432 rfl rfl
theorem k_437 : Cond.methodLink RL 30 yX6_mend ∈ tb := mt 437 (by decide +kernel) rfl
theorem k_438 : Cond.instanceMethod yX6_mend ∈ tb := mt 438 (by decide +kernel) rfl
theorem k_439 : Cond.selects RX6 yX6_mend yX6_mend ∈ tb := mt 439 (by decide +kernel) rfl
set_option maxRecDepth 20000 in
theorem k_440 : Cond.code yX6_mend cX6_mend 6 (some .int) ∈ tb := mt 440 rfl rfl
theorem k_948 : Cond.methodLink RL 19 yX7_feed ∈ tb := mt 948 (by decide +kernel) rfl
theorem k_949 : Cond.instanceMethod yX7_feed ∈ tb := mt 949 (by decide +kernel) rfl
theorem k_950 : Cond.selects RX7 yX7_feed yX7_feed ∈ tb := mt 950 (by decide +kernel) rfl
set_option maxRecDepth 20000 in
theorem k_951 : Cond.code yX7_feed cX7_feed 5 (some .int) ∈ tb := mt 951 rfl rfl
theorem k_956 : Cond.methodLink RL 24 yX7_service ∈ tb := mt 956 (by decide +kernel) rfl
theorem k_957 : Cond.instanceMethod yX7_service ∈ tb := mt 957 (by decide +kernel) rfl
theorem k_958 : Cond.selects RX7 yX7_service yX7_service ∈ tb := mt 958 (by decide +kernel) rfl
set_option maxRecDepth 20000 in
theorem k_959 : Cond.code yX7_service cX7_service 1 (some .int) ∈ tb := mt 959 rfl rfl
theorem k_984 : Cond.methodLink RL 29 yX7_change ∈ tb := mt 984 (by decide +kernel) rfl
theorem k_985 : Cond.instanceMethod yX7_change ∈ tb := mt 985 (by decide +kernel) rfl
theorem k_986 : Cond.selects RX7 yX7_change yX7_change ∈ tb := mt 986 (by decide +kernel) rfl
set_option maxRecDepth 20000 in
theorem k_987 : Cond.code yX7_change cX7_change 2 (some .int) ∈ tb := mt 987 rfl rfl
theorem k_992 : Cond.methodLink RL 34 yX7_mend ∈ tb := mt 992 (by decide +kernel) rfl
theorem k_993 : Cond.instanceMethod yX7_mend ∈ tb := mt 993 (by decide +kernel) rfl
theorem k_994 : Cond.selects RX7 yX7_mend yX7_mend ∈ tb := mt 994 (by decide +kernel) rfl
set_option maxRecDepth 20000 in
theorem k_995 : Cond.code yX7_mend cX7_mend 5 (some .int) ∈ tb := mt 995 rfl rfl
theorem k_1190 : Cond.constantLong RL 13 4294967295 ∈ tb := mt 1190 (by decide +kernel) rfl
theorem dL_law_140 : decode cL_law 140 = .ok (.aload_n 1, 1) := by decide +kernel
theorem dL_law_141 : decode cL_law 141 = .ok (.aload_n 0, 1) := by decide +kernel
theorem dL_law_142 : decode cL_law 142 = .ok (.iload_n 3, 1) := by decide +kernel
theorem dL_law_143 : decode cL_law 143 = .ok (.iconst 1, 1) := by decide +kernel
theorem dL_law_144 : decode cL_law 144 = .ok (.iadd, 1) := by decide +kernel
theorem dL_law_145 : decode cL_law 145 = .ok (.iaload, 1) := by decide +kernel
theorem dL_law_146 : decode cL_law 146 = .ok (.i2l, 1) := by decide +kernel
theorem dL_law_147 : decode cL_law 147 = .ok (.bipush 32, 2) := by decide +kernel
theorem dL_law_149 : decode cL_law 149 = .ok (.lshl, 1) := by decide +kernel
theorem dL_law_150 : decode cL_law 150 = .ok (.aload_n 0, 1) := by decide +kernel
theorem dL_law_151 : decode cL_law 151 = .ok (.iload_n 3, 1) := by decide +kernel
theorem dL_law_152 : decode cL_law 152 = .ok (.iconst 2, 1) := by decide +kernel
theorem dL_law_153 : decode cL_law 153 = .ok (.iadd, 1) := by decide +kernel
theorem dL_law_154 : decode cL_law 154 = .ok (.iaload, 1) := by decide +kernel
theorem dL_law_155 : decode cL_law 155 = .ok (.i2l, 1) := by decide +kernel
theorem dL_law_156 : decode cL_law 156 = .ok (.ldc2_w 13, 3) := by decide +kernel
theorem dL_law_159 : decode cL_law 159 = .ok (.land, 1) := by decide +kernel
theorem dL_law_160 : decode cL_law 160 = .ok (.lor, 1) := by decide +kernel
theorem dL_law_161 : decode cL_law 161 = .ok (.aload_n 0, 1) := by decide +kernel
theorem dL_law_162 : decode cL_law 162 = .ok (.iload_n 3, 1) := by decide +kernel
theorem dL_law_163 : decode cL_law 163 = .ok (.iconst 3, 1) := by decide +kernel
theorem dL_law_164 : decode cL_law 164 = .ok (.iadd, 1) := by decide +kernel
theorem dL_law_165 : decode cL_law 165 = .ok (.iaload, 1) := by decide +kernel
theorem dL_law_166 : decode cL_law 166 = .ok (.invokevirtual 15, 3) := by decide +kernel
theorem dL_law_169 : decode cL_law 169 = .ok (.pop, 1) := by decide +kernel
theorem dL_law_170 : decode cL_law 170 = .ok (.aload_n 2, 1) := by decide +kernel
theorem dL_law_171 : decode cL_law 171 = .ok (.aload_n 0, 1) := by decide +kernel
theorem dL_law_172 : decode cL_law 172 = .ok (.iload_n 3, 1) := by decide +kernel
theorem dL_law_173 : decode cL_law 173 = .ok (.iconst 1, 1) := by decide +kernel
theorem dL_law_174 : decode cL_law 174 = .ok (.iadd, 1) := by decide +kernel
theorem dL_law_175 : decode cL_law 175 = .ok (.iaload, 1) := by decide +kernel
theorem dL_law_176 : decode cL_law 176 = .ok (.i2l, 1) := by decide +kernel
theorem dL_law_177 : decode cL_law 177 = .ok (.bipush 32, 2) := by decide +kernel
theorem dL_law_179 : decode cL_law 179 = .ok (.lshl, 1) := by decide +kernel
theorem dL_law_180 : decode cL_law 180 = .ok (.aload_n 0, 1) := by decide +kernel
theorem dL_law_181 : decode cL_law 181 = .ok (.iload_n 3, 1) := by decide +kernel
theorem dL_law_182 : decode cL_law 182 = .ok (.iconst 2, 1) := by decide +kernel
theorem dL_law_183 : decode cL_law 183 = .ok (.iadd, 1) := by decide +kernel
theorem dL_law_184 : decode cL_law 184 = .ok (.iaload, 1) := by decide +kernel
theorem dL_law_185 : decode cL_law 185 = .ok (.i2l, 1) := by decide +kernel
theorem dL_law_186 : decode cL_law 186 = .ok (.ldc2_w 13, 3) := by decide +kernel
theorem dL_law_189 : decode cL_law 189 = .ok (.land, 1) := by decide +kernel
theorem dL_law_190 : decode cL_law 190 = .ok (.lor, 1) := by decide +kernel
theorem dL_law_191 : decode cL_law 191 = .ok (.aload_n 0, 1) := by decide +kernel
theorem dL_law_192 : decode cL_law 192 = .ok (.iload_n 3, 1) := by decide +kernel
theorem dL_law_193 : decode cL_law 193 = .ok (.iconst 3, 1) := by decide +kernel
theorem dL_law_194 : decode cL_law 194 = .ok (.iadd, 1) := by decide +kernel
theorem dL_law_195 : decode cL_law 195 = .ok (.iaload, 1) := by decide +kernel
theorem dL_law_196 : decode cL_law 196 = .ok (.invokevirtual 19, 3) := by decide +kernel
theorem dL_law_199 : decode cL_law 199 = .ok (.pop, 1) := by decide +kernel
theorem dL_law_200 : decode cL_law 200 = .ok (.goto 629, 3) := by decide +kernel
theorem dL_law_203 : decode cL_law 203 = .ok (.aload_n 1, 1) := by decide +kernel
theorem dL_law_204 : decode cL_law 204 = .ok (.invokevirtual 20, 3) := by decide +kernel
theorem dL_law_207 : decode cL_law 207 = .ok (.pop, 1) := by decide +kernel
theorem dL_law_208 : decode cL_law 208 = .ok (.aload_n 2, 1) := by decide +kernel
theorem dL_law_209 : decode cL_law 209 = .ok (.invokevirtual 24, 3) := by decide +kernel
theorem dL_law_212 : decode cL_law 212 = .ok (.pop, 1) := by decide +kernel
theorem dL_law_213 : decode cL_law 213 = .ok (.goto 616, 3) := by decide +kernel
theorem dL_law_216 : decode cL_law 216 = .ok (.aload_n 1, 1) := by decide +kernel
theorem dL_law_217 : decode cL_law 217 = .ok (.aload_n 0, 1) := by decide +kernel
theorem dL_law_218 : decode cL_law 218 = .ok (.iload_n 3, 1) := by decide +kernel
theorem dL_law_219 : decode cL_law 219 = .ok (.iconst 1, 1) := by decide +kernel
theorem dL_law_220 : decode cL_law 220 = .ok (.iadd, 1) := by decide +kernel
theorem dL_law_221 : decode cL_law 221 = .ok (.iaload, 1) := by decide +kernel
theorem dL_law_222 : decode cL_law 222 = .ok (.invokevirtual 25, 3) := by decide +kernel
theorem dL_law_225 : decode cL_law 225 = .ok (.pop, 1) := by decide +kernel
theorem dL_law_226 : decode cL_law 226 = .ok (.aload_n 2, 1) := by decide +kernel
theorem dL_law_227 : decode cL_law 227 = .ok (.aload_n 0, 1) := by decide +kernel
theorem dL_law_228 : decode cL_law 228 = .ok (.iload_n 3, 1) := by decide +kernel
theorem dL_law_229 : decode cL_law 229 = .ok (.iconst 1, 1) := by decide +kernel
theorem dL_law_230 : decode cL_law 230 = .ok (.iadd, 1) := by decide +kernel
theorem dL_law_231 : decode cL_law 231 = .ok (.iaload, 1) := by decide +kernel
theorem dL_law_232 : decode cL_law 232 = .ok (.invokevirtual 29, 3) := by decide +kernel
theorem dL_law_235 : decode cL_law 235 = .ok (.pop, 1) := by decide +kernel
theorem dL_law_236 : decode cL_law 236 = .ok (.goto 593, 3) := by decide +kernel
theorem dL_law_239 : decode cL_law 239 = .ok (.aload_n 1, 1) := by decide +kernel
theorem dL_law_240 : decode cL_law 240 = .ok (.aload_n 0, 1) := by decide +kernel
theorem dL_law_241 : decode cL_law 241 = .ok (.iload_n 3, 1) := by decide +kernel
theorem dL_law_242 : decode cL_law 242 = .ok (.iconst 1, 1) := by decide +kernel
theorem dL_law_243 : decode cL_law 243 = .ok (.iadd, 1) := by decide +kernel
theorem dL_law_244 : decode cL_law 244 = .ok (.iaload, 1) := by decide +kernel
theorem dL_law_245 : decode cL_law 245 = .ok (.aload_n 0, 1) := by decide +kernel
theorem dL_law_246 : decode cL_law 246 = .ok (.iload_n 3, 1) := by decide +kernel
theorem dL_law_247 : decode cL_law 247 = .ok (.iconst 2, 1) := by decide +kernel
theorem dL_law_248 : decode cL_law 248 = .ok (.iadd, 1) := by decide +kernel
theorem dL_law_249 : decode cL_law 249 = .ok (.iaload, 1) := by decide +kernel
theorem dL_law_250 : decode cL_law 250 = .ok (.aload_n 0, 1) := by decide +kernel
theorem dL_law_251 : decode cL_law 251 = .ok (.iload_n 3, 1) := by decide +kernel
theorem dL_law_252 : decode cL_law 252 = .ok (.iconst 3, 1) := by decide +kernel
theorem dL_law_253 : decode cL_law 253 = .ok (.iadd, 1) := by decide +kernel
theorem dL_law_254 : decode cL_law 254 = .ok (.iaload, 1) := by decide +kernel
theorem dL_law_255 : decode cL_law 255 = .ok (.invokevirtual 30, 3) := by decide +kernel
theorem dL_law_258 : decode cL_law 258 = .ok (.pop, 1) := by decide +kernel
theorem dL_law_259 : decode cL_law 259 = .ok (.aload_n 2, 1) := by decide +kernel
theorem dL_law_260 : decode cL_law 260 = .ok (.aload_n 0, 1) := by decide +kernel
theorem dL_law_261 : decode cL_law 261 = .ok (.iload_n 3, 1) := by decide +kernel
theorem dL_law_262 : decode cL_law 262 = .ok (.iconst 1, 1) := by decide +kernel
theorem dL_law_263 : decode cL_law 263 = .ok (.iadd, 1) := by decide +kernel
theorem dL_law_264 : decode cL_law 264 = .ok (.iaload, 1) := by decide +kernel
theorem dL_law_265 : decode cL_law 265 = .ok (.aload_n 0, 1) := by decide +kernel
theorem dL_law_266 : decode cL_law 266 = .ok (.iload_n 3, 1) := by decide +kernel
theorem dL_law_267 : decode cL_law 267 = .ok (.iconst 2, 1) := by decide +kernel
theorem dL_law_268 : decode cL_law 268 = .ok (.iadd, 1) := by decide +kernel
theorem dL_law_269 : decode cL_law 269 = .ok (.iaload, 1) := by decide +kernel
theorem dL_law_270 : decode cL_law 270 = .ok (.aload_n 0, 1) := by decide +kernel
theorem dL_law_271 : decode cL_law 271 = .ok (.iload_n 3, 1) := by decide +kernel
theorem dL_law_272 : decode cL_law 272 = .ok (.iconst 3, 1) := by decide +kernel
theorem dL_law_273 : decode cL_law 273 = .ok (.iadd, 1) := by decide +kernel
theorem dL_law_274 : decode cL_law 274 = .ok (.iaload, 1) := by decide +kernel
theorem dL_law_275 : decode cL_law 275 = .ok (.invokevirtual 34, 3) := by decide +kernel
theorem dL_law_278 : decode cL_law 278 = .ok (.pop, 1) := by decide +kernel
theorem dL_law_279 : decode cL_law 279 = .ok (.goto 550, 3) := by decide +kernel
set_option maxHeartbeats 4000000 in
set_option maxRecDepth 100000 in
/-- feed -/
theorem law_0 {p : Program} {l : Launch} {e : Env} {s : State} {m : MethodId} {below : List Frame} {meth : Method} {c : Code} {D : va_G} {cI cZ cS cR : ClassId} {N0 : NT} {b L : Nat} {xs : Nat → Int32} (hB : Tz p s m meth c #[Value.ref b] code 4 RL D cI cZ cS cR N0) (hAs : N0.1 = s.heap.size) (hX : va_X b L xs s s.heap) (hbl : b < s.heap.size) (hL : L ≤ 2560) (hr : meth.sig.returnType = ret) {cells slots : Nat} (hcl : cells + 4 ≤ 600000) (hsl : slots + 28 ≤ 7302250) {H : Heap} {locs : List Loc} {ls : Array Slot} (g : GS) (ox om : Nat) (tp : Nat) (nw : Nat) (rl : Nat) (ba : Nat) (ta : Nat) (wt : Nat) (sa : Nat) (aa : Nat) (wo : Nat) (pl : Nat) (wr : Nat) (i o1 tz sv rz : Int32) (hT : Tv D cI cZ cS cR N0 s.heap H locs g) (hI : Inv g) (l_i : 0 ≤ i.toInt) (u_i : i.toInt + 5 ≤ L) : g.1 ox = 7 → g.1 om = 8 → g.2.1 om 22 = .int o1 → 0 ≤ o1.toInt → o1.toInt ≤ 12 * i.toInt → PX 48 2 3 71 72 g om → PX 8 39 40 84 85 g om → g.2.1 ox 0 = .ref tp → g.1 tp = 5 → g.2.1 ox 1 = .ref nw → g.1 nw = 19 → g.2.1 ox 2 = .ref rl → g.1 rl = 1 → g.2.1 tp 0 = .ref ba → g.1 ba = 67 → g.2.2.1 ba = 100 → g.2.1 om 28 = .ref ta → g.1 ta = 79 → g.2.2.1 ta = 100 → g.2.1 om 42 = .ref wt → g.1 wt = 87 → g.2.2.1 wt = 24 → g.2.1 nw 0 = .ref sa → g.1 sa = 42 → g.2.2.1 sa = 6 → g.2.1 om 1 = .ref aa → g.1 aa = 88 → g.2.2.1 aa = 6 → g.2.1 om 2 = .ref wo → g.1 wo = 71 → g.2.2.1 wo = 48 → g.2.1 om 3 = .ref pl → g.1 pl = 72 → g.2.2.1 pl = 48 → g.2.1 om 4 = .ref wr → g.1 wr = 73 → g.2.2.1 wr = 48 → g.2.1 tp 1 = .int tz → g.2.1 om 29 = .int tz → 0 ≤ tz.toInt → tz.toInt ≤ 100 → g.2.1 nw 1 = .int sv → g.2.1 om 0 = .int sv → 0 ≤ sv.toInt → sv.toInt ≤ 6 → g.2.1 rl 3 = .int rz → g.2.1 om 30 = .int rz → 0 ≤ rz.toInt → rz.toInt ≤ 6 → TE g ba ta tz.toInt → WT g wt → PGI g sa aa wo pl wr sv.toInt → (hl : lv_has ls 4 [(3, .int i), (2, .ref om), (1, .ref ox), (0, .ref b)]) → (K : ∀ (g1 : GS) (o1_1 tz_1 sv_1 rz_1 : Int32) (H1 : Heap) (locs1 : List Loc), Tv D cI cZ cS cR N0 s.heap H1 locs1 g1 → Inv g1 → g1.1 ox = 7 → g1.1 om = 8 → g1.2.1 om 22 = .int o1_1 → 0 ≤ o1_1.toInt → o1_1.toInt ≤ 12 * i.toInt + 60 → PX 48 2 3 71 72 g1 om → PX 8 39 40 84 85 g1 om → g1.2.1 ox 0 = .ref tp → g1.1 tp = 5 → g1.2.1 ox 1 = .ref nw → g1.1 nw = 19 → g1.2.1 ox 2 = .ref rl → g1.1 rl = 1 → g1.2.1 tp 0 = .ref ba → g1.1 ba = 67 → g1.2.2.1 ba = 100 → g1.2.1 om 28 = .ref ta → g1.1 ta = 79 → g1.2.2.1 ta = 100 → g1.2.1 om 42 = .ref wt → g1.1 wt = 87 → g1.2.2.1 wt = 24 → g1.2.1 nw 0 = .ref sa → g1.1 sa = 42 → g1.2.2.1 sa = 6 → g1.2.1 om 1 = .ref aa → g1.1 aa = 88 → g1.2.2.1 aa = 6 → g1.2.1 om 2 = .ref wo → g1.1 wo = 71 → g1.2.2.1 wo = 48 → g1.2.1 om 3 = .ref pl → g1.1 pl = 72 → g1.2.2.1 pl = 48 → g1.2.1 om 4 = .ref wr → g1.1 wr = 73 → g1.2.2.1 wr = 48 → g1.2.1 tp 1 = .int tz_1 → g1.2.1 om 29 = .int tz_1 → 0 ≤ tz_1.toInt → tz_1.toInt ≤ 100 → g1.2.1 nw 1 = .int sv_1 → g1.2.1 om 0 = .int sv_1 → 0 ≤ sv_1.toInt → sv_1.toInt ≤ 6 → g1.2.1 rl 3 = .int rz_1 → g1.2.1 om 30 = .int rz_1 → 0 ≤ rz_1.toInt → rz_1.toInt ≤ 6 → TE g1 ba ta tz_1.toInt → WT g1 wt → PGI g1 sa aa wo pl wr sv_1.toInt → W p l e room_1 s m #[Value.ref b] below meth c H1 locs1 (cells + 4) (slots + 28) (lw_Z below #[Value.ref b] s) (F0 m 829 ls [])) → W p l e room_1 s m #[Value.ref b] below meth c H locs cells slots (lw_Z below #[Value.ref b] s) (F0 m 140 ls []) := by
  intro r_ox r_om ko l_o u_o hw hN0 k_tp r_tp k_nw r_nw k_rl r_rl k_ba r_ba n_ba k_ta r_ta n_ta k_wt r_wt n_wt k_sa r_sa n_sa k_aa r_aa n_aa k_wo r_wo n_wo k_pl r_pl n_pl k_wr r_wr n_wr kc_tz km_tz l_tz u_tz kc_sv km_sv l_sv u_sv kc_rz km_rz l_rz u_rz hTE hWT hPI hl K
  have hx := hB.1
  have hb := hB.2.1
  have hE : Ex g g := Ex.rf
  have hM : Sm mdA g g := sm_all
  have hTE0 := hTE
  have hI0_ := hI
  have hPI0_ := hPI
  refine lv_aload_n hx hb dL_law_140 rfl (lv_at hl 2 rfl) ?_
  refine lv_aload_n hx hb dL_law_141 rfl (lv_at hl 3 rfl) ?_
  refine lv_iload_n hx hb dL_law_142 rfl (lv_at hl 0 rfl) ?_
  refine lv_iconst (v := 1) hx hb dL_law_143 (by decide) ?_
  refine lv_iadd hx hb dL_law_144 ?_
  refine lv_topi (fun z_1 ez_1 => ?_)
  have e_z_1 : z_1.toInt = i.toInt + 1 := i_add ez_1 rfl (by decide) (by omega) (by omega)
  refine va_sld hx hb hX hbl (fun q => by have q_ : N0.1 ≤ b := q; omega) hT.2 (i_in (n := L) rfl (by omega) (by omega)) dL_law_145 ?_
  refine lv_topi (fun u_2 e_u_2 => ?_)
  refine lv_i2l hx hb dL_law_146 rfl ?_
  refine lv_topl (fun z_3 ez_3 => ?_)
  refine lv_bipush (v := 32) hx hb dL_law_147 (by decide) ?_
  refine lv_lshl hx hb dL_law_149 rfl ?_
  refine lv_topl (fun z_4 ez_4 => ?_)
  refine lv_aload_n hx hb dL_law_150 rfl (lv_at hl 3 rfl) ?_
  refine lv_iload_n hx hb dL_law_151 rfl (lv_at hl 0 rfl) ?_
  refine lv_iconst (v := 2) hx hb dL_law_152 (by decide) ?_
  refine lv_iadd hx hb dL_law_153 ?_
  refine lv_topi (fun z_5 ez_5 => ?_)
  have e_z_5 : z_5.toInt = i.toInt + 2 := i_add ez_5 rfl (by decide) (by omega) (by omega)
  refine va_sld hx hb hX hbl (fun q => by have q_ : N0.1 ≤ b := q; omega) hT.2 (i_in (n := L) rfl (by omega) (by omega)) dL_law_154 ?_
  refine lv_topi (fun u_6 e_u_6 => ?_)
  refine lv_i2l hx hb dL_law_155 rfl ?_
  refine lv_topl (fun z_7 ez_7 => ?_)
  refine lv_ldc2 (v := 4294967295) hx hb hB.2.2.2.1 (hB.2.2.2.2.1 _ k_1190) dL_law_156 ?_
  refine lv_land hx hb dL_law_159 ?_
  refine lv_topl (fun z_8 ez_8 => ?_)
  refine lv_lor hx hb dL_law_160 ?_
  refine lv_topl (fun z_9 ez_9 => ?_)
  refine lv_aload_n hx hb dL_law_161 rfl (lv_at hl 3 rfl) ?_
  refine lv_iload_n hx hb dL_law_162 rfl (lv_at hl 0 rfl) ?_
  refine lv_iconst (v := 3) hx hb dL_law_163 (by decide) ?_
  refine lv_iadd hx hb dL_law_164 ?_
  refine lv_topi (fun z_10 ez_10 => ?_)
  have e_z_10 : z_10.toInt = i.toInt + 3 := i_add ez_10 rfl (by decide) (by omega) (by omega)
  refine va_sld hx hb hX hbl (fun q => by have q_ : N0.1 ≤ b := q; omega) hT.2 (i_in (n := L) rfl (by omega) (by omega)) dL_law_165 ?_
  refine lv_topi (fun u_11 e_u_11 => ?_)
  refine t_callV (n := 2) (As := [.long z_9, .int u_11]) (rest := []) (ci := 6) hB hT hl.1 (P_feed l D cI cZ cS cR N0 g hI ox z_9 u_11 tp tz ba (g.2.2.2.1 ba) r_ox r_tp r_ba n_ba k_tp kc_tz k_ba (by omega) (by omega) rfl) (ro_ci r_ox rfl) rfl k_333 k_57 k_330 k_331 k_332 (by decide +kernel) ⟨(Nat.le_of_ble_eq_true rfl), (Nat.le_of_ble_eq_true rfl)⟩ rfl (Nat.le_of_ble_eq_true rfl) ⟨(by show _ ≤ _; first | exact Nat.le_of_ble_eq_true rfl | (simp only [room_1]; omega)), (by show _ ≤ _; first | exact Nat.le_of_ble_eq_true rfl | (simp only [room_1]; omega))⟩ dL_law_166 (fun v g_12 H locs hp hT => ?_)
  obtain ⟨r_13, z2_14, rfl, hI, x_20, m_19, f_15, f_16, f_17, f_18⟩ := hp
  have hw : PX 48 2 3 71 72 g_12 om := hw.mono m_19 x_20 r_om (by decide) (by decide) rfl rfl rfl rfl
  have hN0 : PX 8 39 40 84 85 g_12 om := hN0.mono m_19 x_20 r_om (by decide) (by decide) rfl rfl rfl rfl
  have hWT : WT g_12 wt := hWT.sm m_19 r_wt (by decide) rfl
  have hPI : PGI g_12 sa aa wo pl wr sv.toInt := hPI.go (PK.sm m_19 x_20 r_sa rfl rfl rfl rfl rfl rfl rfl rfl rfl) (Sm.cf m_19 r_aa (by decide) rfl) (Sm.cf m_19 r_wo (by decide) rfl) (Sm.cf m_19 r_pl (by decide) rfl) (Sm.cf m_19 r_wr (by decide) rfl)
  have hM : Sm mdA g g_12 := sm_all
  have hE : Ex g g_12 := hE.tr x_20
  have r_21 : g_12.1 ox = 7 := (Ex.r x_20 r_ox (by decide))
  have r_22 : g_12.1 om = 8 := (Ex.r x_20 r_om (by decide))
  have r_23 : g_12.1 tp = 5 := (Ex.r x_20 r_tp (by decide))
  have r_24 : g_12.1 nw = 19 := (Ex.r x_20 r_nw (by decide))
  have r_25 : g_12.1 rl = 1 := (Ex.r x_20 r_rl (by decide))
  have r_26 : g_12.1 ba = 67 := (Ex.r x_20 r_ba (by decide))
  have r_27 : g_12.1 ta = 79 := (Ex.r x_20 r_ta (by decide))
  have r_28 : g_12.1 wt = 87 := (Ex.r x_20 r_wt (by decide))
  have r_29 : g_12.1 sa = 42 := (Ex.r x_20 r_sa (by decide))
  have r_30 : g_12.1 aa = 88 := (Ex.r x_20 r_aa (by decide))
  have r_31 : g_12.1 wo = 71 := (Ex.r x_20 r_wo (by decide))
  have r_32 : g_12.1 pl = 72 := (Ex.r x_20 r_pl (by decide))
  have r_33 : g_12.1 wr = 73 := (Ex.r x_20 r_wr (by decide))
  have n_34 : g_12.2.2.1 ba = 100 := (Ex.n x_20 r_ba (by decide) n_ba)
  have n_35 : g_12.2.2.1 ta = 100 := (Ex.n x_20 r_ta (by decide) n_ta)
  have n_36 : g_12.2.2.1 wt = 24 := (Ex.n x_20 r_wt (by decide) n_wt)
  have n_37 : g_12.2.2.1 sa = 6 := (Ex.n x_20 r_sa (by decide) n_sa)
  have n_38 : g_12.2.2.1 aa = 6 := (Ex.n x_20 r_aa (by decide) n_aa)
  have n_39 : g_12.2.2.1 wo = 48 := (Ex.n x_20 r_wo (by decide) n_wo)
  have n_40 : g_12.2.2.1 pl = 48 := (Ex.n x_20 r_pl (by decide) n_pl)
  have n_41 : g_12.2.2.1 wr = 48 := (Ex.n x_20 r_wr (by decide) n_wr)
  have kn_42 : g_12.2.1 om 22 = .int o1 := (Sm.v m_19 r_om (by decide) rfl ko)
  have kn_43 : g_12.2.1 ox 0 = .ref tp := (Sm.v m_19 r_ox (by decide) rfl k_tp)
  have kn_44 : g_12.2.1 ox 1 = .ref nw := (Sm.v m_19 r_ox (by decide) rfl k_nw)
  have kn_45 : g_12.2.1 ox 2 = .ref rl := (Sm.v m_19 r_ox (by decide) rfl k_rl)
  have kn_46 : g_12.2.1 tp 0 = .ref ba := (Sm.v m_19 r_tp (by decide) rfl k_ba)
  have kn_47 : g_12.2.1 om 28 = .ref ta := (Sm.v m_19 r_om (by decide) rfl k_ta)
  have kn_48 : g_12.2.1 om 42 = .ref wt := (Sm.v m_19 r_om (by decide) rfl k_wt)
  have kn_49 : g_12.2.1 nw 0 = .ref sa := (Sm.v m_19 r_nw (by decide) rfl k_sa)
  have kn_50 : g_12.2.1 om 1 = .ref aa := (Sm.v m_19 r_om (by decide) rfl k_aa)
  have kn_51 : g_12.2.1 om 2 = .ref wo := (Sm.v m_19 r_om (by decide) rfl k_wo)
  have kn_52 : g_12.2.1 om 3 = .ref pl := (Sm.v m_19 r_om (by decide) rfl k_pl)
  have kn_53 : g_12.2.1 om 4 = .ref wr := (Sm.v m_19 r_om (by decide) rfl k_wr)
  have kn_54 : g_12.2.1 om 29 = .int tz := (Sm.v m_19 r_om (by decide) rfl km_tz)
  have kn_55 : g_12.2.1 nw 1 = .int sv := (Sm.v m_19 r_nw (by decide) rfl kc_sv)
  have kn_56 : g_12.2.1 om 0 = .int sv := (Sm.v m_19 r_om (by decide) rfl km_sv)
  have kn_57 : g_12.2.1 rl 3 = .int rz := (Sm.v m_19 r_rl (by decide) rfl kc_rz)
  have kn_58 : g_12.2.1 om 30 = .int rz := (Sm.v m_19 r_om (by decide) rfl km_rz)
  refine W.eq (g2 := F0 m 169 ls [.int r_13]) rfl ?_
  refine lv_pop hx hb dL_law_169 rfl ?_
  refine lv_aload_n hx hb dL_law_170 rfl (lv_at hl 1 rfl) ?_
  refine lv_aload_n hx hb dL_law_171 rfl (lv_at hl 3 rfl) ?_
  refine lv_iload_n hx hb dL_law_172 rfl (lv_at hl 0 rfl) ?_
  refine lv_iconst (v := 1) hx hb dL_law_173 (by decide) ?_
  refine lv_iadd hx hb dL_law_174 ?_
  refine lv_topi (fun z_59 ez_59 => ?_)
  have e_z_59 : z_59.toInt = i.toInt + 1 := i_add ez_59 rfl (by decide) (by omega) (by omega)
  refine va_sld hx hb hX hbl (fun q => by have q_ : N0.1 ≤ b := q; omega) hT.2 (i_in (n := L) rfl (by omega) (by omega)) dL_law_175 ?_
  refine lv_topi (fun u_60 e_u_60 => ?_)
  refine lv_i2l hx hb dL_law_176 rfl ?_
  refine lv_topl (fun z_61 ez_61 => ?_)
  refine lv_bipush (v := 32) hx hb dL_law_177 (by decide) ?_
  refine lv_lshl hx hb dL_law_179 rfl ?_
  refine lv_topl (fun z_62 ez_62 => ?_)
  refine lv_aload_n hx hb dL_law_180 rfl (lv_at hl 3 rfl) ?_
  refine lv_iload_n hx hb dL_law_181 rfl (lv_at hl 0 rfl) ?_
  refine lv_iconst (v := 2) hx hb dL_law_182 (by decide) ?_
  refine lv_iadd hx hb dL_law_183 ?_
  refine lv_topi (fun z_63 ez_63 => ?_)
  have e_z_63 : z_63.toInt = i.toInt + 2 := i_add ez_63 rfl (by decide) (by omega) (by omega)
  refine va_sld hx hb hX hbl (fun q => by have q_ : N0.1 ≤ b := q; omega) hT.2 (i_in (n := L) rfl (by omega) (by omega)) dL_law_184 ?_
  refine lv_topi (fun u_64 e_u_64 => ?_)
  refine lv_i2l hx hb dL_law_185 rfl ?_
  refine lv_topl (fun z_65 ez_65 => ?_)
  refine lv_ldc2 (v := 4294967295) hx hb hB.2.2.2.1 (hB.2.2.2.2.1 _ k_1190) dL_law_186 ?_
  refine lv_land hx hb dL_law_189 ?_
  refine lv_topl (fun z_66 ez_66 => ?_)
  refine lv_lor hx hb dL_law_190 ?_
  refine lv_topl (fun z_67 ez_67 => ?_)
  refine lv_aload_n hx hb dL_law_191 rfl (lv_at hl 3 rfl) ?_
  refine lv_iload_n hx hb dL_law_192 rfl (lv_at hl 0 rfl) ?_
  refine lv_iconst (v := 3) hx hb dL_law_193 (by decide) ?_
  refine lv_iadd hx hb dL_law_194 ?_
  refine lv_topi (fun z_68 ez_68 => ?_)
  have e_z_68 : z_68.toInt = i.toInt + 3 := i_add ez_68 rfl (by decide) (by omega) (by omega)
  refine va_sld hx hb hX hbl (fun q => by have q_ : N0.1 ≤ b := q; omega) hT.2 (i_in (n := L) rfl (by omega) (by omega)) dL_law_195 ?_
  refine lv_topi (fun u_69 e_u_69 => ?_)
  refine t_callV (n := 2) (As := [.long z_67, .int u_69]) (rest := []) (ci := 7) hB hT hl.1 (m_feed l D cI cZ cS cR N0 g_12 hI om z_67 u_69 tz ta (g_12.2.2.2.1 ta) r_22 r_27 n_35 kn_54 kn_47 (by omega) (by omega) rfl) (ro_ci r_22 rfl) rfl k_951 k_65 k_948 k_949 k_950 (by decide +kernel) ⟨(Nat.le_of_ble_eq_true rfl), (Nat.le_of_ble_eq_true rfl)⟩ rfl (Nat.le_of_ble_eq_true rfl) ⟨(by show _ ≤ _; first | exact Nat.le_of_ble_eq_true rfl | (simp only [room_1]; omega)), (by show _ ≤ _; first | exact Nat.le_of_ble_eq_true rfl | (simp only [room_1]; omega))⟩ dL_law_196 (fun v g_70 H locs hp hT => ?_)
  obtain ⟨r_71, z2_72, rfl, hI, x_78, m_77, f_73, f_74, f_75, f_76⟩ := hp
  have hw : PX 48 2 3 71 72 g_70 om := hw.mono m_77 x_78 r_22 (by decide) (by decide) rfl rfl rfl rfl
  have hN0 : PX 8 39 40 84 85 g_70 om := hN0.mono m_77 x_78 r_22 (by decide) (by decide) rfl rfl rfl rfl
  have hWT : WT g_70 wt := hWT.sm m_77 r_28 (by decide) rfl
  have hPI : PGI g_70 sa aa wo pl wr sv.toInt := hPI.go (PK.sm m_77 x_78 r_29 rfl rfl rfl rfl rfl rfl rfl rfl rfl) (Sm.cf m_77 r_30 (by decide) rfl) (Sm.cf m_77 r_31 (by decide) rfl) (Sm.cf m_77 r_32 (by decide) rfl) (Sm.cf m_77 r_33 (by decide) rfl)
  have hM : Sm mdA g g_70 := sm_all
  have hE : Ex g g_70 := hE.tr x_78
  have r_79 : g_70.1 ox = 7 := (Ex.r x_78 r_21 (by decide))
  have r_80 : g_70.1 om = 8 := (Ex.r x_78 r_22 (by decide))
  have r_81 : g_70.1 tp = 5 := (Ex.r x_78 r_23 (by decide))
  have r_82 : g_70.1 nw = 19 := (Ex.r x_78 r_24 (by decide))
  have r_83 : g_70.1 rl = 1 := (Ex.r x_78 r_25 (by decide))
  have r_84 : g_70.1 ba = 67 := (Ex.r x_78 r_26 (by decide))
  have r_85 : g_70.1 ta = 79 := (Ex.r x_78 r_27 (by decide))
  have r_86 : g_70.1 wt = 87 := (Ex.r x_78 r_28 (by decide))
  have r_87 : g_70.1 sa = 42 := (Ex.r x_78 r_29 (by decide))
  have r_88 : g_70.1 aa = 88 := (Ex.r x_78 r_30 (by decide))
  have r_89 : g_70.1 wo = 71 := (Ex.r x_78 r_31 (by decide))
  have r_90 : g_70.1 pl = 72 := (Ex.r x_78 r_32 (by decide))
  have r_91 : g_70.1 wr = 73 := (Ex.r x_78 r_33 (by decide))
  have n_92 : g_70.2.2.1 ba = 100 := (Ex.n x_78 r_26 (by decide) n_34)
  have n_93 : g_70.2.2.1 ta = 100 := (Ex.n x_78 r_27 (by decide) n_35)
  have n_94 : g_70.2.2.1 wt = 24 := (Ex.n x_78 r_28 (by decide) n_36)
  have n_95 : g_70.2.2.1 sa = 6 := (Ex.n x_78 r_29 (by decide) n_37)
  have n_96 : g_70.2.2.1 aa = 6 := (Ex.n x_78 r_30 (by decide) n_38)
  have n_97 : g_70.2.2.1 wo = 48 := (Ex.n x_78 r_31 (by decide) n_39)
  have n_98 : g_70.2.2.1 pl = 48 := (Ex.n x_78 r_32 (by decide) n_40)
  have n_99 : g_70.2.2.1 wr = 48 := (Ex.n x_78 r_33 (by decide) n_41)
  have kn_100 : g_70.2.1 om 22 = .int o1 := (Sm.v m_77 r_22 (by decide) rfl kn_42)
  have kn_101 : g_70.2.1 ox 0 = .ref tp := (Sm.v m_77 r_21 (by decide) rfl kn_43)
  have kn_102 : g_70.2.1 ox 1 = .ref nw := (Sm.v m_77 r_21 (by decide) rfl kn_44)
  have kn_103 : g_70.2.1 ox 2 = .ref rl := (Sm.v m_77 r_21 (by decide) rfl kn_45)
  have kn_104 : g_70.2.1 tp 0 = .ref ba := (Sm.v m_77 r_23 (by decide) rfl kn_46)
  have kn_105 : g_70.2.1 om 28 = .ref ta := (Sm.v m_77 r_22 (by decide) rfl kn_47)
  have kn_106 : g_70.2.1 om 42 = .ref wt := (Sm.v m_77 r_22 (by decide) rfl kn_48)
  have kn_107 : g_70.2.1 nw 0 = .ref sa := (Sm.v m_77 r_24 (by decide) rfl kn_49)
  have kn_108 : g_70.2.1 om 1 = .ref aa := (Sm.v m_77 r_22 (by decide) rfl kn_50)
  have kn_109 : g_70.2.1 om 2 = .ref wo := (Sm.v m_77 r_22 (by decide) rfl kn_51)
  have kn_110 : g_70.2.1 om 3 = .ref pl := (Sm.v m_77 r_22 (by decide) rfl kn_52)
  have kn_111 : g_70.2.1 om 4 = .ref wr := (Sm.v m_77 r_22 (by decide) rfl kn_53)
  have kn_112 : g_70.2.1 nw 1 = .int sv := (Sm.v m_77 r_24 (by decide) rfl kn_55)
  have kn_113 : g_70.2.1 om 0 = .int sv := (Sm.v m_77 r_22 (by decide) rfl kn_56)
  have kn_114 : g_70.2.1 rl 3 = .int rz := (Sm.v m_77 r_25 (by decide) rfl kn_57)
  have kn_115 : g_70.2.1 om 30 = .int rz := (Sm.v m_77 r_22 (by decide) rfl kn_58)
  have kn_116 : g_70.2.1 tp 1 = .int z2_14 := (Sm.v m_77 r_23 (by decide) rfl f_15)
  refine W.eq (g2 := F0 m 199 ls [.int r_71]) rfl ?_
  refine lv_pop hx hb dL_law_199 rfl ?_
  refine lv_goto (tgt := 829) hx hb dL_law_200 (by decide) ?_
  have eq_u_60 : u_60 = u_2 := e_u_60.trans ((congrArg xs (i_nt (by omega))).trans e_u_2.symm)
  have eqi_u_60 : u_60.toInt = u_2.toInt := congrArg Int32.toInt eq_u_60
  have eq_u_64 : u_64 = u_6 := e_u_64.trans ((congrArg xs (i_nt (by omega))).trans e_u_6.symm)
  have eqi_u_64 : u_64.toInt = u_6.toInt := congrArg Int32.toInt eq_u_64
  have eq_u_69 : u_69 = u_11 := e_u_69.trans ((congrArg xs (i_nt (by omega))).trans e_u_11.symm)
  have eqi_u_69 : u_69.toInt = u_11.toInt := congrArg Int32.toInt eq_u_69
  have ew_ : z_67 = z_9 := by rw [ez_67, ez_66, ez_65, ez_62, ez_61, eq_u_60, eq_u_64, ez_9, ez_8, ez_7, ez_4, ez_3]
  have er_117 := f_75
  try rw [eq_u_60] at er_117
  try rw [eq_u_64] at er_117
  try rw [eq_u_69] at er_117
  have hub_ : z2_14.toInt ≤ 100 ∧ 0 ≤ z2_14.toInt := (by have q_ := f_17; unfold fdK at q_; omega)
  have hfm_ := f_76
  rw [ew_, eq_u_69] at hfm_
  have hfc_ := FD.sm f_18 m_77 r_26 (by decide) rfl
  refine W.widen (k := cells + 4) (n := slots + 28) (by omega) (by omega) ?_
  exact K g_70 o1 z2_14 sv rz H locs hT hI r_79 r_80 kn_100 (by have e0_ : (0 : Int32).toInt = 0 := (by decide); omega) (by have e0_ : (0 : Int32).toInt = 0 := (by decide); omega) hw hN0 kn_101 r_81 kn_102 r_82 kn_103 r_83 kn_104 r_84 n_92 kn_105 r_85 n_93 kn_106 r_86 n_94 kn_107 r_87 n_95 kn_108 r_88 n_96 kn_109 r_89 n_97 kn_110 r_90 n_98 kn_111 r_91 n_99 kn_116 (f_73.trans (congrArg Value.int (i_inj (er_117.trans f_17.symm)))) (by have e0_ : (0 : Int32).toInt = 0 := (by decide); omega) (by have e0_ : (0 : Int32).toInt = 0 := (by decide); omega) kn_112 kn_113 (by have e0_ : (0 : Int32).toInt = 0 := (by decide); omega) (by have e0_ : (0 : Int32).toInt = 0 := (by decide); omega) kn_114 kn_115 (by have e0_ : (0 : Int32).toInt = 0 := (by decide); omega) (by have e0_ : (0 : Int32).toInt = 0 := (by decide); omega) (TE.fd (fun i_ hi_ => (hTE0 i_ hi_).trans (congrFun (Sm.cf m_19 r_ta (by decide) rfl).symm i_)) hfc_ hfm_ f_17) hWT hPI
set_option maxHeartbeats 4000000 in
set_option maxRecDepth 100000 in
/-- service -/
theorem law_1 {p : Program} {l : Launch} {e : Env} {s : State} {m : MethodId} {below : List Frame} {meth : Method} {c : Code} {D : va_G} {cI cZ cS cR : ClassId} {N0 : NT} {b L : Nat} {xs : Nat → Int32} (hB : Tz p s m meth c #[Value.ref b] code 4 RL D cI cZ cS cR N0) (hAs : N0.1 = s.heap.size) (hX : va_X b L xs s s.heap) (hbl : b < s.heap.size) (hL : L ≤ 2560) (hr : meth.sig.returnType = ret) {cells slots : Nat} (hcl : cells + 4 ≤ 600000) (hsl : slots + 28 ≤ 7302250) {H : Heap} {locs : List Loc} {ls : Array Slot} (g : GS) (ox om : Nat) (tp : Nat) (nw : Nat) (rl : Nat) (ba : Nat) (ta : Nat) (wt : Nat) (sa : Nat) (aa : Nat) (wo : Nat) (pl : Nat) (wr : Nat) (i o1 tz sv rz : Int32) (hT : Tv D cI cZ cS cR N0 s.heap H locs g) (hI : Inv g) (l_i : 0 ≤ i.toInt) (u_i : i.toInt + 5 ≤ L) : g.1 ox = 7 → g.1 om = 8 → g.2.1 om 22 = .int o1 → 0 ≤ o1.toInt → o1.toInt ≤ 12 * i.toInt → PX 48 2 3 71 72 g om → PX 8 39 40 84 85 g om → g.2.1 ox 0 = .ref tp → g.1 tp = 5 → g.2.1 ox 1 = .ref nw → g.1 nw = 19 → g.2.1 ox 2 = .ref rl → g.1 rl = 1 → g.2.1 tp 0 = .ref ba → g.1 ba = 67 → g.2.2.1 ba = 100 → g.2.1 om 28 = .ref ta → g.1 ta = 79 → g.2.2.1 ta = 100 → g.2.1 om 42 = .ref wt → g.1 wt = 87 → g.2.2.1 wt = 24 → g.2.1 nw 0 = .ref sa → g.1 sa = 42 → g.2.2.1 sa = 6 → g.2.1 om 1 = .ref aa → g.1 aa = 88 → g.2.2.1 aa = 6 → g.2.1 om 2 = .ref wo → g.1 wo = 71 → g.2.2.1 wo = 48 → g.2.1 om 3 = .ref pl → g.1 pl = 72 → g.2.2.1 pl = 48 → g.2.1 om 4 = .ref wr → g.1 wr = 73 → g.2.2.1 wr = 48 → g.2.1 tp 1 = .int tz → g.2.1 om 29 = .int tz → 0 ≤ tz.toInt → tz.toInt ≤ 100 → g.2.1 nw 1 = .int sv → g.2.1 om 0 = .int sv → 0 ≤ sv.toInt → sv.toInt ≤ 6 → g.2.1 rl 3 = .int rz → g.2.1 om 30 = .int rz → 0 ≤ rz.toInt → rz.toInt ≤ 6 → TE g ba ta tz.toInt → WT g wt → PGI g sa aa wo pl wr sv.toInt → (hl : lv_has ls 4 [(3, .int i), (2, .ref om), (1, .ref ox), (0, .ref b)]) → (K : ∀ (g1 : GS) (o1_1 tz_1 sv_1 rz_1 : Int32) (H1 : Heap) (locs1 : List Loc), Tv D cI cZ cS cR N0 s.heap H1 locs1 g1 → Inv g1 → g1.1 ox = 7 → g1.1 om = 8 → g1.2.1 om 22 = .int o1_1 → 0 ≤ o1_1.toInt → o1_1.toInt ≤ 12 * i.toInt + 60 → PX 48 2 3 71 72 g1 om → PX 8 39 40 84 85 g1 om → g1.2.1 ox 0 = .ref tp → g1.1 tp = 5 → g1.2.1 ox 1 = .ref nw → g1.1 nw = 19 → g1.2.1 ox 2 = .ref rl → g1.1 rl = 1 → g1.2.1 tp 0 = .ref ba → g1.1 ba = 67 → g1.2.2.1 ba = 100 → g1.2.1 om 28 = .ref ta → g1.1 ta = 79 → g1.2.2.1 ta = 100 → g1.2.1 om 42 = .ref wt → g1.1 wt = 87 → g1.2.2.1 wt = 24 → g1.2.1 nw 0 = .ref sa → g1.1 sa = 42 → g1.2.2.1 sa = 6 → g1.2.1 om 1 = .ref aa → g1.1 aa = 88 → g1.2.2.1 aa = 6 → g1.2.1 om 2 = .ref wo → g1.1 wo = 71 → g1.2.2.1 wo = 48 → g1.2.1 om 3 = .ref pl → g1.1 pl = 72 → g1.2.2.1 pl = 48 → g1.2.1 om 4 = .ref wr → g1.1 wr = 73 → g1.2.2.1 wr = 48 → g1.2.1 tp 1 = .int tz_1 → g1.2.1 om 29 = .int tz_1 → 0 ≤ tz_1.toInt → tz_1.toInt ≤ 100 → g1.2.1 nw 1 = .int sv_1 → g1.2.1 om 0 = .int sv_1 → 0 ≤ sv_1.toInt → sv_1.toInt ≤ 6 → g1.2.1 rl 3 = .int rz_1 → g1.2.1 om 30 = .int rz_1 → 0 ≤ rz_1.toInt → rz_1.toInt ≤ 6 → TE g1 ba ta tz_1.toInt → WT g1 wt → PGI g1 sa aa wo pl wr sv_1.toInt → W p l e room_1 s m #[Value.ref b] below meth c H1 locs1 (cells + 4) (slots + 28) (lw_Z below #[Value.ref b] s) (F0 m 829 ls [])) → W p l e room_1 s m #[Value.ref b] below meth c H locs cells slots (lw_Z below #[Value.ref b] s) (F0 m 203 ls []) := by
  intro r_ox r_om ko l_o u_o hw hN0 k_tp r_tp k_nw r_nw k_rl r_rl k_ba r_ba n_ba k_ta r_ta n_ta k_wt r_wt n_wt k_sa r_sa n_sa k_aa r_aa n_aa k_wo r_wo n_wo k_pl r_pl n_pl k_wr r_wr n_wr kc_tz km_tz l_tz u_tz kc_sv km_sv l_sv u_sv kc_rz km_rz l_rz u_rz hTE hWT hPI hl K
  have hx := hB.1
  have hb := hB.2.1
  have hE : Ex g g := Ex.rf
  have hM : Sm mdA g g := sm_all
  have hTE0 := hTE
  have hI0_ := hI
  have hPI0_ := hPI
  refine lv_aload_n hx hb dL_law_203 rfl (lv_at hl 2 rfl) ?_
  refine t_callV (n := 0) (As := []) (rest := []) (ci := 6) hB hT hl.1 (P_service l D cI cZ cS cR N0 g hI ox tp tz ba (g.2.2.2.1 ba) nw sv sa r_ox r_tp r_ba n_ba r_nw r_sa n_sa k_tp kc_tz k_ba k_nw kc_sv k_sa (by omega) (by omega) rfl (by omega) (by omega)) (ro_ci r_ox rfl) rfl k_342 k_57 k_339 k_340 k_341 (by decide +kernel) ⟨(Nat.le_of_ble_eq_true rfl), (Nat.le_of_ble_eq_true rfl)⟩ rfl (Nat.le_of_ble_eq_true rfl) ⟨(by show _ ≤ _; first | exact Nat.le_of_ble_eq_true rfl | (simp only [room_1]; omega)), (by show _ ≤ _; first | exact Nat.le_of_ble_eq_true rfl | (simp only [room_1]; omega))⟩ dL_law_204 (fun v g_1 H locs hp hT => ?_)
  obtain ⟨r_2, z2_3, s2_4, rfl, hI, x_12, m_11, f_5, f_6, f_7, f_8, f_9, f_10⟩ := hp
  have hw : PX 48 2 3 71 72 g_1 om := hw.mono m_11 x_12 r_om (by decide) (by decide) rfl rfl rfl rfl
  have hN0 : PX 8 39 40 84 85 g_1 om := hN0.mono m_11 x_12 r_om (by decide) (by decide) rfl rfl rfl rfl
  have hTE : TE g_1 ba ta tz.toInt := hTE.sm m_11 r_ba (by decide) rfl r_ta (by decide) rfl
  have hWT : WT g_1 wt := hWT.sm m_11 r_wt (by decide) rfl
  have hM : Sm mdA g g_1 := sm_all
  have hE : Ex g g_1 := hE.tr x_12
  have r_13 : g_1.1 ox = 7 := (Ex.r x_12 r_ox (by decide))
  have r_14 : g_1.1 om = 8 := (Ex.r x_12 r_om (by decide))
  have r_15 : g_1.1 tp = 5 := (Ex.r x_12 r_tp (by decide))
  have r_16 : g_1.1 nw = 19 := (Ex.r x_12 r_nw (by decide))
  have r_17 : g_1.1 rl = 1 := (Ex.r x_12 r_rl (by decide))
  have r_18 : g_1.1 ba = 67 := (Ex.r x_12 r_ba (by decide))
  have r_19 : g_1.1 ta = 79 := (Ex.r x_12 r_ta (by decide))
  have r_20 : g_1.1 wt = 87 := (Ex.r x_12 r_wt (by decide))
  have r_21 : g_1.1 sa = 42 := (Ex.r x_12 r_sa (by decide))
  have r_22 : g_1.1 aa = 88 := (Ex.r x_12 r_aa (by decide))
  have r_23 : g_1.1 wo = 71 := (Ex.r x_12 r_wo (by decide))
  have r_24 : g_1.1 pl = 72 := (Ex.r x_12 r_pl (by decide))
  have r_25 : g_1.1 wr = 73 := (Ex.r x_12 r_wr (by decide))
  have n_26 : g_1.2.2.1 ba = 100 := (Ex.n x_12 r_ba (by decide) n_ba)
  have n_27 : g_1.2.2.1 ta = 100 := (Ex.n x_12 r_ta (by decide) n_ta)
  have n_28 : g_1.2.2.1 wt = 24 := (Ex.n x_12 r_wt (by decide) n_wt)
  have n_29 : g_1.2.2.1 sa = 6 := (Ex.n x_12 r_sa (by decide) n_sa)
  have n_30 : g_1.2.2.1 aa = 6 := (Ex.n x_12 r_aa (by decide) n_aa)
  have n_31 : g_1.2.2.1 wo = 48 := (Ex.n x_12 r_wo (by decide) n_wo)
  have n_32 : g_1.2.2.1 pl = 48 := (Ex.n x_12 r_pl (by decide) n_pl)
  have n_33 : g_1.2.2.1 wr = 48 := (Ex.n x_12 r_wr (by decide) n_wr)
  have kn_34 : g_1.2.1 om 22 = .int o1 := (Sm.v m_11 r_om (by decide) rfl ko)
  have kn_35 : g_1.2.1 ox 0 = .ref tp := (Sm.v m_11 r_ox (by decide) rfl k_tp)
  have kn_36 : g_1.2.1 ox 1 = .ref nw := (Sm.v m_11 r_ox (by decide) rfl k_nw)
  have kn_37 : g_1.2.1 ox 2 = .ref rl := (Sm.v m_11 r_ox (by decide) rfl k_rl)
  have kn_38 : g_1.2.1 tp 0 = .ref ba := (Sm.v m_11 r_tp (by decide) rfl k_ba)
  have kn_39 : g_1.2.1 om 28 = .ref ta := (Sm.v m_11 r_om (by decide) rfl k_ta)
  have kn_40 : g_1.2.1 om 42 = .ref wt := (Sm.v m_11 r_om (by decide) rfl k_wt)
  have kn_41 : g_1.2.1 nw 0 = .ref sa := (Sm.v m_11 r_nw (by decide) rfl k_sa)
  have kn_42 : g_1.2.1 om 1 = .ref aa := (Sm.v m_11 r_om (by decide) rfl k_aa)
  have kn_43 : g_1.2.1 om 2 = .ref wo := (Sm.v m_11 r_om (by decide) rfl k_wo)
  have kn_44 : g_1.2.1 om 3 = .ref pl := (Sm.v m_11 r_om (by decide) rfl k_pl)
  have kn_45 : g_1.2.1 om 4 = .ref wr := (Sm.v m_11 r_om (by decide) rfl k_wr)
  have kn_46 : g_1.2.1 om 29 = .int tz := (Sm.v m_11 r_om (by decide) rfl km_tz)
  have kn_47 : g_1.2.1 om 0 = .int sv := (Sm.v m_11 r_om (by decide) rfl km_sv)
  have kn_48 : g_1.2.1 rl 3 = .int rz := (Sm.v m_11 r_rl (by decide) rfl kc_rz)
  have kn_49 : g_1.2.1 om 30 = .int rz := (Sm.v m_11 r_om (by decide) rfl km_rz)
  refine W.eq (g2 := F0 m 207 ls [.int r_2]) rfl ?_
  refine lv_pop hx hb dL_law_207 rfl ?_
  refine lv_aload_n hx hb dL_law_208 rfl (lv_at hl 1 rfl) ?_
  refine t_callV (n := 0) (As := []) (rest := []) (ci := 7) hB hT hl.1 (m_service l D cI cZ cS cR N0 g_1 hI om sv wt tz ta (g_1.2.2.2.1 ta) aa wo pl wr r_14 r_20 n_28 r_19 n_27 r_22 n_30 r_23 n_31 r_24 n_32 r_25 n_33 kn_47 kn_40 kn_46 kn_39 kn_42 kn_43 kn_44 kn_45 hw hN0 (by omega) (by omega) hWT (by omega) (by omega) rfl) (ro_ci r_14 rfl) rfl k_959 k_65 k_956 k_957 k_958 (by decide +kernel) ⟨(Nat.le_of_ble_eq_true rfl), (Nat.le_of_ble_eq_true rfl)⟩ rfl (Nat.le_of_ble_eq_true rfl) ⟨(by show _ ≤ _; first | exact Nat.le_of_ble_eq_true rfl | (simp only [room_1]; omega)), (by show _ ≤ _; first | exact Nat.le_of_ble_eq_true rfl | (simp only [room_1]; omega))⟩ dL_law_209 (fun v g_50 H locs hp hT => ?_)
  obtain ⟨r_51, z2_52, s2_53, rfl, hI, x_63, m_62, f_54, f_55, f_56, f_57, f_58, f_59, f_60, f_61⟩ := hp
  have hTE : TE g_50 ba ta tz.toInt := hTE.sm m_62 r_18 (by decide) rfl r_19 (by decide) rfl
  have hWT : WT g_50 wt := hWT.sm m_62 r_20 (by decide) rfl
  have hM : Sm mdA g g_50 := sm_all
  have hE : Ex g g_50 := hE.tr x_63
  have r_64 : g_50.1 ox = 7 := (Ex.r x_63 r_13 (by decide))
  have r_65 : g_50.1 om = 8 := (Ex.r x_63 r_14 (by decide))
  have r_66 : g_50.1 tp = 5 := (Ex.r x_63 r_15 (by decide))
  have r_67 : g_50.1 nw = 19 := (Ex.r x_63 r_16 (by decide))
  have r_68 : g_50.1 rl = 1 := (Ex.r x_63 r_17 (by decide))
  have r_69 : g_50.1 ba = 67 := (Ex.r x_63 r_18 (by decide))
  have r_70 : g_50.1 ta = 79 := (Ex.r x_63 r_19 (by decide))
  have r_71 : g_50.1 wt = 87 := (Ex.r x_63 r_20 (by decide))
  have r_72 : g_50.1 sa = 42 := (Ex.r x_63 r_21 (by decide))
  have r_73 : g_50.1 aa = 88 := (Ex.r x_63 r_22 (by decide))
  have r_74 : g_50.1 wo = 71 := (Ex.r x_63 r_23 (by decide))
  have r_75 : g_50.1 pl = 72 := (Ex.r x_63 r_24 (by decide))
  have r_76 : g_50.1 wr = 73 := (Ex.r x_63 r_25 (by decide))
  have n_77 : g_50.2.2.1 ba = 100 := (Ex.n x_63 r_18 (by decide) n_26)
  have n_78 : g_50.2.2.1 ta = 100 := (Ex.n x_63 r_19 (by decide) n_27)
  have n_79 : g_50.2.2.1 wt = 24 := (Ex.n x_63 r_20 (by decide) n_28)
  have n_80 : g_50.2.2.1 sa = 6 := (Ex.n x_63 r_21 (by decide) n_29)
  have n_81 : g_50.2.2.1 aa = 6 := (Ex.n x_63 r_22 (by decide) n_30)
  have n_82 : g_50.2.2.1 wo = 48 := (Ex.n x_63 r_23 (by decide) n_31)
  have n_83 : g_50.2.2.1 pl = 48 := (Ex.n x_63 r_24 (by decide) n_32)
  have n_84 : g_50.2.2.1 wr = 48 := (Ex.n x_63 r_25 (by decide) n_33)
  have kn_85 : g_50.2.1 om 22 = .int o1 := (Sm.v m_62 r_14 (by decide) rfl kn_34)
  have kn_86 : g_50.2.1 ox 0 = .ref tp := (Sm.v m_62 r_13 (by decide) rfl kn_35)
  have kn_87 : g_50.2.1 ox 1 = .ref nw := (Sm.v m_62 r_13 (by decide) rfl kn_36)
  have kn_88 : g_50.2.1 ox 2 = .ref rl := (Sm.v m_62 r_13 (by decide) rfl kn_37)
  have kn_89 : g_50.2.1 tp 0 = .ref ba := (Sm.v m_62 r_15 (by decide) rfl kn_38)
  have kn_90 : g_50.2.1 om 28 = .ref ta := (Sm.v m_62 r_14 (by decide) rfl kn_39)
  have kn_91 : g_50.2.1 om 42 = .ref wt := (Sm.v m_62 r_14 (by decide) rfl kn_40)
  have kn_92 : g_50.2.1 nw 0 = .ref sa := (Sm.v m_62 r_16 (by decide) rfl kn_41)
  have kn_93 : g_50.2.1 om 1 = .ref aa := (Sm.v m_62 r_14 (by decide) rfl kn_42)
  have kn_94 : g_50.2.1 om 2 = .ref wo := (Sm.v m_62 r_14 (by decide) rfl kn_43)
  have kn_95 : g_50.2.1 om 3 = .ref pl := (Sm.v m_62 r_14 (by decide) rfl kn_44)
  have kn_96 : g_50.2.1 om 4 = .ref wr := (Sm.v m_62 r_14 (by decide) rfl kn_45)
  have kn_97 : g_50.2.1 rl 3 = .int rz := (Sm.v m_62 r_17 (by decide) rfl kn_48)
  have kn_98 : g_50.2.1 om 30 = .int rz := (Sm.v m_62 r_14 (by decide) rfl kn_49)
  have kn_99 : g_50.2.1 tp 1 = .int z2_3 := (Sm.v m_62 r_15 (by decide) rfl f_5)
  have kn_100 : g_50.2.1 nw 1 = .int s2_4 := (Sm.v m_62 r_16 (by decide) rfl f_6)
  refine W.eq (g2 := F0 m 212 ls [.int r_51]) rfl ?_
  have hw := f_54
  have hN0 := f_55
  refine lv_pop hx hb dL_law_212 rfl ?_
  refine lv_goto (tgt := 829) hx hb dL_law_213 (by decide) ?_
  have hTx_ : txb (g.2.2.2.1 ba) tz.toInt = txb (g_1.2.2.2.1 ta) tz.toInt := tb_eq (fun i_ hi_ => (hTE0 i_ hi_).trans (congrFun (Sm.cf m_11 r_ta (by decide) rfl).symm i_))
  have er_101 := f_60
  try rw [← hTx_] at er_101
  have hub_ : z2_3.toInt ≤ 100 ∧ 0 ≤ z2_3.toInt ∧ z2_3.toInt ≤ tz.toInt := (by have q_ := f_9; unfold svZ at q_; omega)
  have er_102 := f_59
  try rw [← hTx_] at er_102
  have hus_ : s2_4.toInt ≤ 6 ∧ 0 ≤ s2_4.toInt := (by have q_ := f_8; unfold svS at q_; omega)
  have htk_ := f_61
  rw [← hTx_] at htk_
  refine W.widen (k := cells + 4) (n := slots + 28) (by omega) (by omega) ?_
  exact K g_50 o1 z2_3 s2_4 rz H locs hT hI r_64 r_65 kn_85 (by have e0_ : (0 : Int32).toInt = 0 := (by decide); omega) (by have e0_ : (0 : Int32).toInt = 0 := (by decide); omega) hw hN0 kn_86 r_66 kn_87 r_67 kn_88 r_68 kn_89 r_69 n_77 kn_90 r_70 n_78 kn_91 r_71 n_79 kn_92 r_72 n_80 kn_93 r_73 n_81 kn_94 r_74 n_82 kn_95 r_75 n_83 kn_96 r_76 n_84 kn_99 (f_56.trans (congrArg Value.int (i_inj (er_101.trans f_9.symm)))) (by have e0_ : (0 : Int32).toInt = 0 := (by decide); omega) (by have e0_ : (0 : Int32).toInt = 0 := (by decide); omega) kn_100 (f_57.trans (congrArg Value.int (i_inj (er_102.trans f_8.symm)))) (by have e0_ : (0 : Int32).toInt = 0 := (by decide); omega) (by have e0_ : (0 : Int32).toInt = 0 := (by decide); omega) kn_97 kn_98 (by have e0_ : (0 : Int32).toInt = 0 := (by decide); omega) (by have e0_ : (0 : Int32).toInt = 0 := (by decide); omega) (hTE.cast (by omega)) hWT (PGI.set hPI0_ (by omega) f_10 htk_ x_12 (m_11.2 sa (by rw [r_sa]; decide) (by rw [r_sa]; rfl)).2 (fun p_ k_ e_ hk_ => m_11.1 p_ k_ (by rw [e_]; decide) (by rw [e_]; rcases (show k_ = 0 ∨ k_ = 1 ∨ k_ = 2 by omega) with h_ | h_ | h_ <;> rw [h_] <;> rfl)) (Sm.cf m_11 r_aa (by decide) rfl) (Sm.cf m_11 r_wo (by decide) rfl) (Sm.cf m_11 r_pl (by decide) rfl) (Sm.cf m_11 r_wr (by decide) rfl) (PK.sm m_62 x_63 r_21 rfl rfl rfl rfl rfl rfl rfl rfl rfl) (fun q_ e_ o_ => q10 hI0_ r_sa n_sa (by have w_ := svb_n o_; have q_ : (sv.toNatClampNeg : Int) = sv.toInt := Int.toNat_of_nonneg (by omega); omega) e_) (fun i_ hi_ => sv_in rfl (by omega) (f_8.trans svb_s) hi_))
set_option maxHeartbeats 4000000 in
set_option maxRecDepth 100000 in
/-- change -/
theorem law_2 {p : Program} {l : Launch} {e : Env} {s : State} {m : MethodId} {below : List Frame} {meth : Method} {c : Code} {D : va_G} {cI cZ cS cR : ClassId} {N0 : NT} {b L : Nat} {xs : Nat → Int32} (hB : Tz p s m meth c #[Value.ref b] code 4 RL D cI cZ cS cR N0) (hAs : N0.1 = s.heap.size) (hX : va_X b L xs s s.heap) (hbl : b < s.heap.size) (hL : L ≤ 2560) (hr : meth.sig.returnType = ret) {cells slots : Nat} (hcl : cells + 4 ≤ 600000) (hsl : slots + 28 ≤ 7302250) {H : Heap} {locs : List Loc} {ls : Array Slot} (g : GS) (ox om : Nat) (tp : Nat) (nw : Nat) (rl : Nat) (ba : Nat) (ta : Nat) (wt : Nat) (sa : Nat) (aa : Nat) (wo : Nat) (pl : Nat) (wr : Nat) (i o1 tz sv rz : Int32) (hT : Tv D cI cZ cS cR N0 s.heap H locs g) (hI : Inv g) (l_i : 0 ≤ i.toInt) (u_i : i.toInt + 5 ≤ L) : g.1 ox = 7 → g.1 om = 8 → g.2.1 om 22 = .int o1 → 0 ≤ o1.toInt → o1.toInt ≤ 12 * i.toInt → PX 48 2 3 71 72 g om → PX 8 39 40 84 85 g om → g.2.1 ox 0 = .ref tp → g.1 tp = 5 → g.2.1 ox 1 = .ref nw → g.1 nw = 19 → g.2.1 ox 2 = .ref rl → g.1 rl = 1 → g.2.1 tp 0 = .ref ba → g.1 ba = 67 → g.2.2.1 ba = 100 → g.2.1 om 28 = .ref ta → g.1 ta = 79 → g.2.2.1 ta = 100 → g.2.1 om 42 = .ref wt → g.1 wt = 87 → g.2.2.1 wt = 24 → g.2.1 nw 0 = .ref sa → g.1 sa = 42 → g.2.2.1 sa = 6 → g.2.1 om 1 = .ref aa → g.1 aa = 88 → g.2.2.1 aa = 6 → g.2.1 om 2 = .ref wo → g.1 wo = 71 → g.2.2.1 wo = 48 → g.2.1 om 3 = .ref pl → g.1 pl = 72 → g.2.2.1 pl = 48 → g.2.1 om 4 = .ref wr → g.1 wr = 73 → g.2.2.1 wr = 48 → g.2.1 tp 1 = .int tz → g.2.1 om 29 = .int tz → 0 ≤ tz.toInt → tz.toInt ≤ 100 → g.2.1 nw 1 = .int sv → g.2.1 om 0 = .int sv → 0 ≤ sv.toInt → sv.toInt ≤ 6 → g.2.1 rl 3 = .int rz → g.2.1 om 30 = .int rz → 0 ≤ rz.toInt → rz.toInt ≤ 6 → TE g ba ta tz.toInt → WT g wt → PGI g sa aa wo pl wr sv.toInt → (hl : lv_has ls 4 [(3, .int i), (2, .ref om), (1, .ref ox), (0, .ref b)]) → (K : ∀ (g1 : GS) (o1_1 tz_1 sv_1 rz_1 : Int32) (H1 : Heap) (locs1 : List Loc), Tv D cI cZ cS cR N0 s.heap H1 locs1 g1 → Inv g1 → g1.1 ox = 7 → g1.1 om = 8 → g1.2.1 om 22 = .int o1_1 → 0 ≤ o1_1.toInt → o1_1.toInt ≤ 12 * i.toInt + 60 → PX 48 2 3 71 72 g1 om → PX 8 39 40 84 85 g1 om → g1.2.1 ox 0 = .ref tp → g1.1 tp = 5 → g1.2.1 ox 1 = .ref nw → g1.1 nw = 19 → g1.2.1 ox 2 = .ref rl → g1.1 rl = 1 → g1.2.1 tp 0 = .ref ba → g1.1 ba = 67 → g1.2.2.1 ba = 100 → g1.2.1 om 28 = .ref ta → g1.1 ta = 79 → g1.2.2.1 ta = 100 → g1.2.1 om 42 = .ref wt → g1.1 wt = 87 → g1.2.2.1 wt = 24 → g1.2.1 nw 0 = .ref sa → g1.1 sa = 42 → g1.2.2.1 sa = 6 → g1.2.1 om 1 = .ref aa → g1.1 aa = 88 → g1.2.2.1 aa = 6 → g1.2.1 om 2 = .ref wo → g1.1 wo = 71 → g1.2.2.1 wo = 48 → g1.2.1 om 3 = .ref pl → g1.1 pl = 72 → g1.2.2.1 pl = 48 → g1.2.1 om 4 = .ref wr → g1.1 wr = 73 → g1.2.2.1 wr = 48 → g1.2.1 tp 1 = .int tz_1 → g1.2.1 om 29 = .int tz_1 → 0 ≤ tz_1.toInt → tz_1.toInt ≤ 100 → g1.2.1 nw 1 = .int sv_1 → g1.2.1 om 0 = .int sv_1 → 0 ≤ sv_1.toInt → sv_1.toInt ≤ 6 → g1.2.1 rl 3 = .int rz_1 → g1.2.1 om 30 = .int rz_1 → 0 ≤ rz_1.toInt → rz_1.toInt ≤ 6 → TE g1 ba ta tz_1.toInt → WT g1 wt → PGI g1 sa aa wo pl wr sv_1.toInt → W p l e room_1 s m #[Value.ref b] below meth c H1 locs1 (cells + 4) (slots + 28) (lw_Z below #[Value.ref b] s) (F0 m 829 ls [])) → W p l e room_1 s m #[Value.ref b] below meth c H locs cells slots (lw_Z below #[Value.ref b] s) (F0 m 216 ls []) := by
  intro r_ox r_om ko l_o u_o hw hN0 k_tp r_tp k_nw r_nw k_rl r_rl k_ba r_ba n_ba k_ta r_ta n_ta k_wt r_wt n_wt k_sa r_sa n_sa k_aa r_aa n_aa k_wo r_wo n_wo k_pl r_pl n_pl k_wr r_wr n_wr kc_tz km_tz l_tz u_tz kc_sv km_sv l_sv u_sv kc_rz km_rz l_rz u_rz hTE hWT hPI hl K
  have hx := hB.1
  have hb := hB.2.1
  have hE : Ex g g := Ex.rf
  have hM : Sm mdA g g := sm_all
  have hTE0 := hTE
  have hI0_ := hI
  have hPI0_ := hPI
  refine lv_aload_n hx hb dL_law_216 rfl (lv_at hl 2 rfl) ?_
  refine lv_aload_n hx hb dL_law_217 rfl (lv_at hl 3 rfl) ?_
  refine lv_iload_n hx hb dL_law_218 rfl (lv_at hl 0 rfl) ?_
  refine lv_iconst (v := 1) hx hb dL_law_219 (by decide) ?_
  refine lv_iadd hx hb dL_law_220 ?_
  refine lv_topi (fun z_1 ez_1 => ?_)
  have e_z_1 : z_1.toInt = i.toInt + 1 := i_add ez_1 rfl (by decide) (by omega) (by omega)
  refine va_sld hx hb hX hbl (fun q => by have q_ : N0.1 ≤ b := q; omega) hT.2 (i_in (n := L) rfl (by omega) (by omega)) dL_law_221 ?_
  refine lv_topi (fun u_2 e_u_2 => ?_)
  refine t_callV (n := 1) (As := [.int u_2]) (rest := []) (ci := 6) hB hT hl.1 (P_change l D cI cZ cS cR N0 g hI ox u_2 tp tz ba (g.2.2.2.1 ba) nw sv sa r_ox r_tp r_ba n_ba r_nw r_sa n_sa k_tp kc_tz k_ba k_nw kc_sv k_sa (by omega) (by omega) rfl (by omega) (by omega)) (ro_ci r_ox rfl) rfl k_432 k_57 k_429 k_430 k_431 (by decide +kernel) ⟨(Nat.le_of_ble_eq_true rfl), (Nat.le_of_ble_eq_true rfl)⟩ rfl (Nat.le_of_ble_eq_true rfl) ⟨(by show _ ≤ _; first | exact Nat.le_of_ble_eq_true rfl | (simp only [room_1]; omega)), (by show _ ≤ _; first | exact Nat.le_of_ble_eq_true rfl | (simp only [room_1]; omega))⟩ dL_law_222 (fun v g_3 H locs hp hT => ?_)
  obtain ⟨r_4, z2_5, rfl, hI, x_11, m_10, f_6, f_7, f_8, f_9⟩ := hp
  have hw : PX 48 2 3 71 72 g_3 om := hw.mono m_10 x_11 r_om (by decide) (by decide) rfl rfl rfl rfl
  have hN0 : PX 8 39 40 84 85 g_3 om := hN0.mono m_10 x_11 r_om (by decide) (by decide) rfl rfl rfl rfl
  have hTE : TE g_3 ba ta tz.toInt := hTE.sm m_10 r_ba (by decide) rfl r_ta (by decide) rfl
  have hWT : WT g_3 wt := hWT.sm m_10 r_wt (by decide) rfl
  have hM : Sm mdA g g_3 := sm_all
  have hE : Ex g g_3 := hE.tr x_11
  have r_12 : g_3.1 ox = 7 := (Ex.r x_11 r_ox (by decide))
  have r_13 : g_3.1 om = 8 := (Ex.r x_11 r_om (by decide))
  have r_14 : g_3.1 tp = 5 := (Ex.r x_11 r_tp (by decide))
  have r_15 : g_3.1 nw = 19 := (Ex.r x_11 r_nw (by decide))
  have r_16 : g_3.1 rl = 1 := (Ex.r x_11 r_rl (by decide))
  have r_17 : g_3.1 ba = 67 := (Ex.r x_11 r_ba (by decide))
  have r_18 : g_3.1 ta = 79 := (Ex.r x_11 r_ta (by decide))
  have r_19 : g_3.1 wt = 87 := (Ex.r x_11 r_wt (by decide))
  have r_20 : g_3.1 sa = 42 := (Ex.r x_11 r_sa (by decide))
  have r_21 : g_3.1 aa = 88 := (Ex.r x_11 r_aa (by decide))
  have r_22 : g_3.1 wo = 71 := (Ex.r x_11 r_wo (by decide))
  have r_23 : g_3.1 pl = 72 := (Ex.r x_11 r_pl (by decide))
  have r_24 : g_3.1 wr = 73 := (Ex.r x_11 r_wr (by decide))
  have n_25 : g_3.2.2.1 ba = 100 := (Ex.n x_11 r_ba (by decide) n_ba)
  have n_26 : g_3.2.2.1 ta = 100 := (Ex.n x_11 r_ta (by decide) n_ta)
  have n_27 : g_3.2.2.1 wt = 24 := (Ex.n x_11 r_wt (by decide) n_wt)
  have n_28 : g_3.2.2.1 sa = 6 := (Ex.n x_11 r_sa (by decide) n_sa)
  have n_29 : g_3.2.2.1 aa = 6 := (Ex.n x_11 r_aa (by decide) n_aa)
  have n_30 : g_3.2.2.1 wo = 48 := (Ex.n x_11 r_wo (by decide) n_wo)
  have n_31 : g_3.2.2.1 pl = 48 := (Ex.n x_11 r_pl (by decide) n_pl)
  have n_32 : g_3.2.2.1 wr = 48 := (Ex.n x_11 r_wr (by decide) n_wr)
  have kn_33 : g_3.2.1 om 22 = .int o1 := (Sm.v m_10 r_om (by decide) rfl ko)
  have kn_34 : g_3.2.1 ox 0 = .ref tp := (Sm.v m_10 r_ox (by decide) rfl k_tp)
  have kn_35 : g_3.2.1 ox 1 = .ref nw := (Sm.v m_10 r_ox (by decide) rfl k_nw)
  have kn_36 : g_3.2.1 ox 2 = .ref rl := (Sm.v m_10 r_ox (by decide) rfl k_rl)
  have kn_37 : g_3.2.1 tp 0 = .ref ba := (Sm.v m_10 r_tp (by decide) rfl k_ba)
  have kn_38 : g_3.2.1 om 28 = .ref ta := (Sm.v m_10 r_om (by decide) rfl k_ta)
  have kn_39 : g_3.2.1 om 42 = .ref wt := (Sm.v m_10 r_om (by decide) rfl k_wt)
  have kn_40 : g_3.2.1 nw 0 = .ref sa := (Sm.v m_10 r_nw (by decide) rfl k_sa)
  have kn_41 : g_3.2.1 om 1 = .ref aa := (Sm.v m_10 r_om (by decide) rfl k_aa)
  have kn_42 : g_3.2.1 om 2 = .ref wo := (Sm.v m_10 r_om (by decide) rfl k_wo)
  have kn_43 : g_3.2.1 om 3 = .ref pl := (Sm.v m_10 r_om (by decide) rfl k_pl)
  have kn_44 : g_3.2.1 om 4 = .ref wr := (Sm.v m_10 r_om (by decide) rfl k_wr)
  have kn_45 : g_3.2.1 om 29 = .int tz := (Sm.v m_10 r_om (by decide) rfl km_tz)
  have kn_46 : g_3.2.1 nw 1 = .int sv := (Sm.v m_10 r_nw (by decide) rfl kc_sv)
  have kn_47 : g_3.2.1 om 0 = .int sv := (Sm.v m_10 r_om (by decide) rfl km_sv)
  have kn_48 : g_3.2.1 rl 3 = .int rz := (Sm.v m_10 r_rl (by decide) rfl kc_rz)
  have kn_49 : g_3.2.1 om 30 = .int rz := (Sm.v m_10 r_om (by decide) rfl km_rz)
  refine W.eq (g2 := F0 m 225 ls [.int r_4]) rfl ?_
  refine lv_pop hx hb dL_law_225 rfl ?_
  refine lv_aload_n hx hb dL_law_226 rfl (lv_at hl 1 rfl) ?_
  refine lv_aload_n hx hb dL_law_227 rfl (lv_at hl 3 rfl) ?_
  refine lv_iload_n hx hb dL_law_228 rfl (lv_at hl 0 rfl) ?_
  refine lv_iconst (v := 1) hx hb dL_law_229 (by decide) ?_
  refine lv_iadd hx hb dL_law_230 ?_
  refine lv_topi (fun z_50 ez_50 => ?_)
  have e_z_50 : z_50.toInt = i.toInt + 1 := i_add ez_50 rfl (by decide) (by omega) (by omega)
  refine va_sld hx hb hX hbl (fun q => by have q_ : N0.1 ≤ b := q; omega) hT.2 (i_in (n := L) rfl (by omega) (by omega)) dL_law_231 ?_
  refine lv_topi (fun u_51 e_u_51 => ?_)
  refine t_callV (n := 1) (As := [.int u_51]) (rest := []) (ci := 7) hB hT hl.1 (m_change l D cI cZ cS cR N0 g_3 hI om u_51 sv wt tz ta (g_3.2.2.2.1 ta) aa wo pl wr r_13 r_19 n_27 r_18 n_26 r_21 n_29 r_22 n_30 r_23 n_31 r_24 n_32 kn_47 kn_39 kn_45 kn_38 kn_41 kn_42 kn_43 kn_44 hw hN0 (by omega) (by omega) hWT (by omega) (by omega) rfl) (ro_ci r_13 rfl) rfl k_987 k_65 k_984 k_985 k_986 (by decide +kernel) ⟨(Nat.le_of_ble_eq_true rfl), (Nat.le_of_ble_eq_true rfl)⟩ rfl (Nat.le_of_ble_eq_true rfl) ⟨(by show _ ≤ _; first | exact Nat.le_of_ble_eq_true rfl | (simp only [room_1]; omega)), (by show _ ≤ _; first | exact Nat.le_of_ble_eq_true rfl | (simp only [room_1]; omega))⟩ dL_law_232 (fun v g_52 H locs hp hT => ?_)
  obtain ⟨r_53, z2_54, rfl, hI, x_62, m_61, f_55, f_56, f_57, f_58, f_59, f_60⟩ := hp
  have hTE : TE g_52 ba ta tz.toInt := hTE.sm m_61 r_17 (by decide) rfl r_18 (by decide) rfl
  have hWT : WT g_52 wt := hWT.sm m_61 r_19 (by decide) rfl
  have hM : Sm mdA g g_52 := sm_all
  have hE : Ex g g_52 := hE.tr x_62
  have r_63 : g_52.1 ox = 7 := (Ex.r x_62 r_12 (by decide))
  have r_64 : g_52.1 om = 8 := (Ex.r x_62 r_13 (by decide))
  have r_65 : g_52.1 tp = 5 := (Ex.r x_62 r_14 (by decide))
  have r_66 : g_52.1 nw = 19 := (Ex.r x_62 r_15 (by decide))
  have r_67 : g_52.1 rl = 1 := (Ex.r x_62 r_16 (by decide))
  have r_68 : g_52.1 ba = 67 := (Ex.r x_62 r_17 (by decide))
  have r_69 : g_52.1 ta = 79 := (Ex.r x_62 r_18 (by decide))
  have r_70 : g_52.1 wt = 87 := (Ex.r x_62 r_19 (by decide))
  have r_71 : g_52.1 sa = 42 := (Ex.r x_62 r_20 (by decide))
  have r_72 : g_52.1 aa = 88 := (Ex.r x_62 r_21 (by decide))
  have r_73 : g_52.1 wo = 71 := (Ex.r x_62 r_22 (by decide))
  have r_74 : g_52.1 pl = 72 := (Ex.r x_62 r_23 (by decide))
  have r_75 : g_52.1 wr = 73 := (Ex.r x_62 r_24 (by decide))
  have n_76 : g_52.2.2.1 ba = 100 := (Ex.n x_62 r_17 (by decide) n_25)
  have n_77 : g_52.2.2.1 ta = 100 := (Ex.n x_62 r_18 (by decide) n_26)
  have n_78 : g_52.2.2.1 wt = 24 := (Ex.n x_62 r_19 (by decide) n_27)
  have n_79 : g_52.2.2.1 sa = 6 := (Ex.n x_62 r_20 (by decide) n_28)
  have n_80 : g_52.2.2.1 aa = 6 := (Ex.n x_62 r_21 (by decide) n_29)
  have n_81 : g_52.2.2.1 wo = 48 := (Ex.n x_62 r_22 (by decide) n_30)
  have n_82 : g_52.2.2.1 pl = 48 := (Ex.n x_62 r_23 (by decide) n_31)
  have n_83 : g_52.2.2.1 wr = 48 := (Ex.n x_62 r_24 (by decide) n_32)
  have kn_84 : g_52.2.1 om 22 = .int o1 := (Sm.v m_61 r_13 (by decide) rfl kn_33)
  have kn_85 : g_52.2.1 ox 0 = .ref tp := (Sm.v m_61 r_12 (by decide) rfl kn_34)
  have kn_86 : g_52.2.1 ox 1 = .ref nw := (Sm.v m_61 r_12 (by decide) rfl kn_35)
  have kn_87 : g_52.2.1 ox 2 = .ref rl := (Sm.v m_61 r_12 (by decide) rfl kn_36)
  have kn_88 : g_52.2.1 tp 0 = .ref ba := (Sm.v m_61 r_14 (by decide) rfl kn_37)
  have kn_89 : g_52.2.1 om 28 = .ref ta := (Sm.v m_61 r_13 (by decide) rfl kn_38)
  have kn_90 : g_52.2.1 om 42 = .ref wt := (Sm.v m_61 r_13 (by decide) rfl kn_39)
  have kn_91 : g_52.2.1 nw 0 = .ref sa := (Sm.v m_61 r_15 (by decide) rfl kn_40)
  have kn_92 : g_52.2.1 om 1 = .ref aa := (Sm.v m_61 r_13 (by decide) rfl kn_41)
  have kn_93 : g_52.2.1 om 2 = .ref wo := (Sm.v m_61 r_13 (by decide) rfl kn_42)
  have kn_94 : g_52.2.1 om 3 = .ref pl := (Sm.v m_61 r_13 (by decide) rfl kn_43)
  have kn_95 : g_52.2.1 om 4 = .ref wr := (Sm.v m_61 r_13 (by decide) rfl kn_44)
  have kn_96 : g_52.2.1 nw 1 = .int sv := (Sm.v m_61 r_15 (by decide) rfl kn_46)
  have kn_97 : g_52.2.1 om 0 = .int sv := (Sm.v m_61 r_13 (by decide) rfl kn_47)
  have kn_98 : g_52.2.1 rl 3 = .int rz := (Sm.v m_61 r_16 (by decide) rfl kn_48)
  have kn_99 : g_52.2.1 om 30 = .int rz := (Sm.v m_61 r_13 (by decide) rfl kn_49)
  have kn_100 : g_52.2.1 tp 1 = .int z2_5 := (Sm.v m_61 r_14 (by decide) rfl f_6)
  refine W.eq (g2 := F0 m 235 ls [.int r_53]) rfl ?_
  have hw := f_55
  have hN0 := f_56
  refine lv_pop hx hb dL_law_235 rfl ?_
  refine lv_goto (tgt := 829) hx hb dL_law_236 (by decide) ?_
  have eq_u_51 : u_51 = u_2 := e_u_51.trans ((congrArg xs (i_nt (by omega))).trans e_u_2.symm)
  have eqi_u_51 : u_51.toInt = u_2.toInt := congrArg Int32.toInt eq_u_51
  have hTx_ : txb (g.2.2.2.1 ba) tz.toInt = txb (g_3.2.2.2.1 ta) tz.toInt := tb_eq (fun i_ hi_ => (hTE0 i_ hi_).trans (congrFun (Sm.cf m_10 r_ta (by decide) rfl).symm i_))
  have er_101 := f_59
  try rw [eq_u_51] at er_101
  try rw [← hTx_] at er_101
  have hub_ : z2_5.toInt ≤ 100 ∧ 0 ≤ z2_5.toInt ∧ z2_5.toInt ≤ tz.toInt := (by have q_ := f_8; unfold chZ at q_; omega)
  have htk_ := f_60
  rw [← hTx_] at htk_
  rw [eq_u_51] at htk_
  refine W.widen (k := cells + 4) (n := slots + 28) (by omega) (by omega) ?_
  exact K g_52 o1 z2_5 sv rz H locs hT hI r_63 r_64 kn_84 (by have e0_ : (0 : Int32).toInt = 0 := (by decide); omega) (by have e0_ : (0 : Int32).toInt = 0 := (by decide); omega) hw hN0 kn_85 r_65 kn_86 r_66 kn_87 r_67 kn_88 r_68 n_76 kn_89 r_69 n_77 kn_90 r_70 n_78 kn_91 r_71 n_79 kn_92 r_72 n_80 kn_93 r_73 n_81 kn_94 r_74 n_82 kn_95 r_75 n_83 kn_100 (f_57.trans (congrArg Value.int (i_inj (er_101.trans f_8.symm)))) (by have e0_ : (0 : Int32).toInt = 0 := (by decide); omega) (by have e0_ : (0 : Int32).toInt = 0 := (by decide); omega) kn_96 kn_97 (by have e0_ : (0 : Int32).toInt = 0 := (by decide); omega) (by have e0_ : (0 : Int32).toInt = 0 := (by decide); omega) kn_98 kn_99 (by have e0_ : (0 : Int32).toInt = 0 := (by decide); omega) (by have e0_ : (0 : Int32).toInt = 0 := (by decide); omega) (hTE.cast (by omega)) hWT (PGI.set hPI0_ (by omega) f_9 htk_ x_11 (m_10.2 sa (by rw [r_sa]; decide) (by rw [r_sa]; rfl)).2 (fun p_ k_ e_ hk_ => m_10.1 p_ k_ (by rw [e_]; decide) (by rw [e_]; rcases (show k_ = 0 ∨ k_ = 1 ∨ k_ = 2 by omega) with h_ | h_ | h_ <;> rw [h_] <;> rfl)) (Sm.cf m_10 r_aa (by decide) rfl) (Sm.cf m_10 r_wo (by decide) rfl) (Sm.cf m_10 r_pl (by decide) rfl) (Sm.cf m_10 r_wr (by decide) rfl) (PK.sm m_61 x_62 r_20 rfl rfl rfl rfl rfl rfl rfl rfl rfl) (fun q_ e_ o_ => q10 hI0_ r_sa n_sa (by have w_ := chb_n o_; have q_ : (u_2.toNatClampNeg : Int) = u_2.toInt := Int.toNat_of_nonneg (by omega); omega) e_) (fun i_ hi_ => Or.inl hi_))
set_option maxHeartbeats 4000000 in
set_option maxRecDepth 100000 in
/-- mend -/
theorem law_3 {p : Program} {l : Launch} {e : Env} {s : State} {m : MethodId} {below : List Frame} {meth : Method} {c : Code} {D : va_G} {cI cZ cS cR : ClassId} {N0 : NT} {b L : Nat} {xs : Nat → Int32} (hB : Tz p s m meth c #[Value.ref b] code 4 RL D cI cZ cS cR N0) (hAs : N0.1 = s.heap.size) (hX : va_X b L xs s s.heap) (hbl : b < s.heap.size) (hL : L ≤ 2560) (hr : meth.sig.returnType = ret) {cells slots : Nat} (hcl : cells + 4 ≤ 600000) (hsl : slots + 28 ≤ 7302250) {H : Heap} {locs : List Loc} {ls : Array Slot} (g : GS) (ox om : Nat) (tp : Nat) (nw : Nat) (rl : Nat) (ba : Nat) (ta : Nat) (wt : Nat) (sa : Nat) (aa : Nat) (wo : Nat) (pl : Nat) (wr : Nat) (i o1 tz sv rz : Int32) (hT : Tv D cI cZ cS cR N0 s.heap H locs g) (hI : Inv g) (l_i : 0 ≤ i.toInt) (u_i : i.toInt + 5 ≤ L) : g.1 ox = 7 → g.1 om = 8 → g.2.1 om 22 = .int o1 → 0 ≤ o1.toInt → o1.toInt ≤ 12 * i.toInt → PX 48 2 3 71 72 g om → PX 8 39 40 84 85 g om → g.2.1 ox 0 = .ref tp → g.1 tp = 5 → g.2.1 ox 1 = .ref nw → g.1 nw = 19 → g.2.1 ox 2 = .ref rl → g.1 rl = 1 → g.2.1 tp 0 = .ref ba → g.1 ba = 67 → g.2.2.1 ba = 100 → g.2.1 om 28 = .ref ta → g.1 ta = 79 → g.2.2.1 ta = 100 → g.2.1 om 42 = .ref wt → g.1 wt = 87 → g.2.2.1 wt = 24 → g.2.1 nw 0 = .ref sa → g.1 sa = 42 → g.2.2.1 sa = 6 → g.2.1 om 1 = .ref aa → g.1 aa = 88 → g.2.2.1 aa = 6 → g.2.1 om 2 = .ref wo → g.1 wo = 71 → g.2.2.1 wo = 48 → g.2.1 om 3 = .ref pl → g.1 pl = 72 → g.2.2.1 pl = 48 → g.2.1 om 4 = .ref wr → g.1 wr = 73 → g.2.2.1 wr = 48 → g.2.1 tp 1 = .int tz → g.2.1 om 29 = .int tz → 0 ≤ tz.toInt → tz.toInt ≤ 100 → g.2.1 nw 1 = .int sv → g.2.1 om 0 = .int sv → 0 ≤ sv.toInt → sv.toInt ≤ 6 → g.2.1 rl 3 = .int rz → g.2.1 om 30 = .int rz → 0 ≤ rz.toInt → rz.toInt ≤ 6 → TE g ba ta tz.toInt → WT g wt → PGI g sa aa wo pl wr sv.toInt → (hl : lv_has ls 4 [(3, .int i), (2, .ref om), (1, .ref ox), (0, .ref b)]) → (K : ∀ (g1 : GS) (o1_1 tz_1 sv_1 rz_1 : Int32) (H1 : Heap) (locs1 : List Loc), Tv D cI cZ cS cR N0 s.heap H1 locs1 g1 → Inv g1 → g1.1 ox = 7 → g1.1 om = 8 → g1.2.1 om 22 = .int o1_1 → 0 ≤ o1_1.toInt → o1_1.toInt ≤ 12 * i.toInt + 60 → PX 48 2 3 71 72 g1 om → PX 8 39 40 84 85 g1 om → g1.2.1 ox 0 = .ref tp → g1.1 tp = 5 → g1.2.1 ox 1 = .ref nw → g1.1 nw = 19 → g1.2.1 ox 2 = .ref rl → g1.1 rl = 1 → g1.2.1 tp 0 = .ref ba → g1.1 ba = 67 → g1.2.2.1 ba = 100 → g1.2.1 om 28 = .ref ta → g1.1 ta = 79 → g1.2.2.1 ta = 100 → g1.2.1 om 42 = .ref wt → g1.1 wt = 87 → g1.2.2.1 wt = 24 → g1.2.1 nw 0 = .ref sa → g1.1 sa = 42 → g1.2.2.1 sa = 6 → g1.2.1 om 1 = .ref aa → g1.1 aa = 88 → g1.2.2.1 aa = 6 → g1.2.1 om 2 = .ref wo → g1.1 wo = 71 → g1.2.2.1 wo = 48 → g1.2.1 om 3 = .ref pl → g1.1 pl = 72 → g1.2.2.1 pl = 48 → g1.2.1 om 4 = .ref wr → g1.1 wr = 73 → g1.2.2.1 wr = 48 → g1.2.1 tp 1 = .int tz_1 → g1.2.1 om 29 = .int tz_1 → 0 ≤ tz_1.toInt → tz_1.toInt ≤ 100 → g1.2.1 nw 1 = .int sv_1 → g1.2.1 om 0 = .int sv_1 → 0 ≤ sv_1.toInt → sv_1.toInt ≤ 6 → g1.2.1 rl 3 = .int rz_1 → g1.2.1 om 30 = .int rz_1 → 0 ≤ rz_1.toInt → rz_1.toInt ≤ 6 → TE g1 ba ta tz_1.toInt → WT g1 wt → PGI g1 sa aa wo pl wr sv_1.toInt → W p l e room_1 s m #[Value.ref b] below meth c H1 locs1 (cells + 4) (slots + 28) (lw_Z below #[Value.ref b] s) (F0 m 829 ls [])) → W p l e room_1 s m #[Value.ref b] below meth c H locs cells slots (lw_Z below #[Value.ref b] s) (F0 m 239 ls []) := by
  intro r_ox r_om ko l_o u_o hw hN0 k_tp r_tp k_nw r_nw k_rl r_rl k_ba r_ba n_ba k_ta r_ta n_ta k_wt r_wt n_wt k_sa r_sa n_sa k_aa r_aa n_aa k_wo r_wo n_wo k_pl r_pl n_pl k_wr r_wr n_wr kc_tz km_tz l_tz u_tz kc_sv km_sv l_sv u_sv kc_rz km_rz l_rz u_rz hTE hWT hPI hl K
  have hx := hB.1
  have hb := hB.2.1
  have hE : Ex g g := Ex.rf
  have hM : Sm mdA g g := sm_all
  have hTE0 := hTE
  have hI0_ := hI
  have hPI0_ := hPI
  refine lv_aload_n hx hb dL_law_239 rfl (lv_at hl 2 rfl) ?_
  refine lv_aload_n hx hb dL_law_240 rfl (lv_at hl 3 rfl) ?_
  refine lv_iload_n hx hb dL_law_241 rfl (lv_at hl 0 rfl) ?_
  refine lv_iconst (v := 1) hx hb dL_law_242 (by decide) ?_
  refine lv_iadd hx hb dL_law_243 ?_
  refine lv_topi (fun z_1 ez_1 => ?_)
  have e_z_1 : z_1.toInt = i.toInt + 1 := i_add ez_1 rfl (by decide) (by omega) (by omega)
  refine va_sld hx hb hX hbl (fun q => by have q_ : N0.1 ≤ b := q; omega) hT.2 (i_in (n := L) rfl (by omega) (by omega)) dL_law_244 ?_
  refine lv_topi (fun u_2 e_u_2 => ?_)
  refine lv_aload_n hx hb dL_law_245 rfl (lv_at hl 3 rfl) ?_
  refine lv_iload_n hx hb dL_law_246 rfl (lv_at hl 0 rfl) ?_
  refine lv_iconst (v := 2) hx hb dL_law_247 (by decide) ?_
  refine lv_iadd hx hb dL_law_248 ?_
  refine lv_topi (fun z_3 ez_3 => ?_)
  have e_z_3 : z_3.toInt = i.toInt + 2 := i_add ez_3 rfl (by decide) (by omega) (by omega)
  refine va_sld hx hb hX hbl (fun q => by have q_ : N0.1 ≤ b := q; omega) hT.2 (i_in (n := L) rfl (by omega) (by omega)) dL_law_249 ?_
  refine lv_topi (fun u_4 e_u_4 => ?_)
  refine lv_aload_n hx hb dL_law_250 rfl (lv_at hl 3 rfl) ?_
  refine lv_iload_n hx hb dL_law_251 rfl (lv_at hl 0 rfl) ?_
  refine lv_iconst (v := 3) hx hb dL_law_252 (by decide) ?_
  refine lv_iadd hx hb dL_law_253 ?_
  refine lv_topi (fun z_5 ez_5 => ?_)
  have e_z_5 : z_5.toInt = i.toInt + 3 := i_add ez_5 rfl (by decide) (by omega) (by omega)
  refine va_sld hx hb hX hbl (fun q => by have q_ : N0.1 ≤ b := q; omega) hT.2 (i_in (n := L) rfl (by omega) (by omega)) dL_law_254 ?_
  refine lv_topi (fun u_6 e_u_6 => ?_)
  refine t_callV (n := 3) (As := [.int u_2, .int u_4, .int u_6]) (rest := []) (ci := 6) hB hT hl.1 (P_mend l D cI cZ cS cR N0 g hI ox u_2 u_4 u_6 r_ox) (ro_ci r_ox rfl) rfl k_440 k_57 k_437 k_438 k_439 (by decide +kernel) ⟨(Nat.le_of_ble_eq_true rfl), (Nat.le_of_ble_eq_true rfl)⟩ rfl (Nat.le_of_ble_eq_true rfl) ⟨(by show _ ≤ _; first | exact Nat.le_of_ble_eq_true rfl | (simp only [room_1]; omega)), (by show _ ≤ _; first | exact Nat.le_of_ble_eq_true rfl | (simp only [room_1]; omega))⟩ dL_law_255 (fun v g_7 H locs hp hT => ?_)
  obtain ⟨r_8, rfl, hI, x_10, m_9⟩ := hp
  have hw : PX 48 2 3 71 72 g_7 om := hw.mono m_9 x_10 r_om (by decide) (by decide) rfl rfl rfl rfl
  have hN0 : PX 8 39 40 84 85 g_7 om := hN0.mono m_9 x_10 r_om (by decide) (by decide) rfl rfl rfl rfl
  have hTE : TE g_7 ba ta tz.toInt := hTE.sm m_9 r_ba (by decide) rfl r_ta (by decide) rfl
  have hWT : WT g_7 wt := hWT.sm m_9 r_wt (by decide) rfl
  have hPI : PGI g_7 sa aa wo pl wr sv.toInt := hPI.go (PK.sm m_9 x_10 r_sa rfl rfl rfl rfl rfl rfl rfl rfl rfl) (Sm.cf m_9 r_aa (by decide) rfl) (Sm.cf m_9 r_wo (by decide) rfl) (Sm.cf m_9 r_pl (by decide) rfl) (Sm.cf m_9 r_wr (by decide) rfl)
  have hM : Sm mdA g g_7 := sm_all
  have hE : Ex g g_7 := hE.tr x_10
  have r_11 : g_7.1 ox = 7 := (Ex.r x_10 r_ox (by decide))
  have r_12 : g_7.1 om = 8 := (Ex.r x_10 r_om (by decide))
  have r_13 : g_7.1 tp = 5 := (Ex.r x_10 r_tp (by decide))
  have r_14 : g_7.1 nw = 19 := (Ex.r x_10 r_nw (by decide))
  have r_15 : g_7.1 rl = 1 := (Ex.r x_10 r_rl (by decide))
  have r_16 : g_7.1 ba = 67 := (Ex.r x_10 r_ba (by decide))
  have r_17 : g_7.1 ta = 79 := (Ex.r x_10 r_ta (by decide))
  have r_18 : g_7.1 wt = 87 := (Ex.r x_10 r_wt (by decide))
  have r_19 : g_7.1 sa = 42 := (Ex.r x_10 r_sa (by decide))
  have r_20 : g_7.1 aa = 88 := (Ex.r x_10 r_aa (by decide))
  have r_21 : g_7.1 wo = 71 := (Ex.r x_10 r_wo (by decide))
  have r_22 : g_7.1 pl = 72 := (Ex.r x_10 r_pl (by decide))
  have r_23 : g_7.1 wr = 73 := (Ex.r x_10 r_wr (by decide))
  have n_24 : g_7.2.2.1 ba = 100 := (Ex.n x_10 r_ba (by decide) n_ba)
  have n_25 : g_7.2.2.1 ta = 100 := (Ex.n x_10 r_ta (by decide) n_ta)
  have n_26 : g_7.2.2.1 wt = 24 := (Ex.n x_10 r_wt (by decide) n_wt)
  have n_27 : g_7.2.2.1 sa = 6 := (Ex.n x_10 r_sa (by decide) n_sa)
  have n_28 : g_7.2.2.1 aa = 6 := (Ex.n x_10 r_aa (by decide) n_aa)
  have n_29 : g_7.2.2.1 wo = 48 := (Ex.n x_10 r_wo (by decide) n_wo)
  have n_30 : g_7.2.2.1 pl = 48 := (Ex.n x_10 r_pl (by decide) n_pl)
  have n_31 : g_7.2.2.1 wr = 48 := (Ex.n x_10 r_wr (by decide) n_wr)
  have kn_32 : g_7.2.1 om 22 = .int o1 := (Sm.v m_9 r_om (by decide) rfl ko)
  have kn_33 : g_7.2.1 ox 0 = .ref tp := (Sm.v m_9 r_ox (by decide) rfl k_tp)
  have kn_34 : g_7.2.1 ox 1 = .ref nw := (Sm.v m_9 r_ox (by decide) rfl k_nw)
  have kn_35 : g_7.2.1 ox 2 = .ref rl := (Sm.v m_9 r_ox (by decide) rfl k_rl)
  have kn_36 : g_7.2.1 tp 0 = .ref ba := (Sm.v m_9 r_tp (by decide) rfl k_ba)
  have kn_37 : g_7.2.1 om 28 = .ref ta := (Sm.v m_9 r_om (by decide) rfl k_ta)
  have kn_38 : g_7.2.1 om 42 = .ref wt := (Sm.v m_9 r_om (by decide) rfl k_wt)
  have kn_39 : g_7.2.1 nw 0 = .ref sa := (Sm.v m_9 r_nw (by decide) rfl k_sa)
  have kn_40 : g_7.2.1 om 1 = .ref aa := (Sm.v m_9 r_om (by decide) rfl k_aa)
  have kn_41 : g_7.2.1 om 2 = .ref wo := (Sm.v m_9 r_om (by decide) rfl k_wo)
  have kn_42 : g_7.2.1 om 3 = .ref pl := (Sm.v m_9 r_om (by decide) rfl k_pl)
  have kn_43 : g_7.2.1 om 4 = .ref wr := (Sm.v m_9 r_om (by decide) rfl k_wr)
  have kn_44 : g_7.2.1 tp 1 = .int tz := (Sm.v m_9 r_tp (by decide) rfl kc_tz)
  have kn_45 : g_7.2.1 om 29 = .int tz := (Sm.v m_9 r_om (by decide) rfl km_tz)
  have kn_46 : g_7.2.1 nw 1 = .int sv := (Sm.v m_9 r_nw (by decide) rfl kc_sv)
  have kn_47 : g_7.2.1 om 0 = .int sv := (Sm.v m_9 r_om (by decide) rfl km_sv)
  have kn_48 : g_7.2.1 rl 3 = .int rz := (Sm.v m_9 r_rl (by decide) rfl kc_rz)
  have kn_49 : g_7.2.1 om 30 = .int rz := (Sm.v m_9 r_om (by decide) rfl km_rz)
  refine W.eq (g2 := F0 m 258 ls [.int r_8]) rfl ?_
  refine lv_pop hx hb dL_law_258 rfl ?_
  refine lv_aload_n hx hb dL_law_259 rfl (lv_at hl 1 rfl) ?_
  refine lv_aload_n hx hb dL_law_260 rfl (lv_at hl 3 rfl) ?_
  refine lv_iload_n hx hb dL_law_261 rfl (lv_at hl 0 rfl) ?_
  refine lv_iconst (v := 1) hx hb dL_law_262 (by decide) ?_
  refine lv_iadd hx hb dL_law_263 ?_
  refine lv_topi (fun z_50 ez_50 => ?_)
  have e_z_50 : z_50.toInt = i.toInt + 1 := i_add ez_50 rfl (by decide) (by omega) (by omega)
  refine va_sld hx hb hX hbl (fun q => by have q_ : N0.1 ≤ b := q; omega) hT.2 (i_in (n := L) rfl (by omega) (by omega)) dL_law_264 ?_
  refine lv_topi (fun u_51 e_u_51 => ?_)
  refine lv_aload_n hx hb dL_law_265 rfl (lv_at hl 3 rfl) ?_
  refine lv_iload_n hx hb dL_law_266 rfl (lv_at hl 0 rfl) ?_
  refine lv_iconst (v := 2) hx hb dL_law_267 (by decide) ?_
  refine lv_iadd hx hb dL_law_268 ?_
  refine lv_topi (fun z_52 ez_52 => ?_)
  have e_z_52 : z_52.toInt = i.toInt + 2 := i_add ez_52 rfl (by decide) (by omega) (by omega)
  refine va_sld hx hb hX hbl (fun q => by have q_ : N0.1 ≤ b := q; omega) hT.2 (i_in (n := L) rfl (by omega) (by omega)) dL_law_269 ?_
  refine lv_topi (fun u_53 e_u_53 => ?_)
  refine lv_aload_n hx hb dL_law_270 rfl (lv_at hl 3 rfl) ?_
  refine lv_iload_n hx hb dL_law_271 rfl (lv_at hl 0 rfl) ?_
  refine lv_iconst (v := 3) hx hb dL_law_272 (by decide) ?_
  refine lv_iadd hx hb dL_law_273 ?_
  refine lv_topi (fun z_54 ez_54 => ?_)
  have e_z_54 : z_54.toInt = i.toInt + 3 := i_add ez_54 rfl (by decide) (by omega) (by omega)
  refine va_sld hx hb hX hbl (fun q => by have q_ : N0.1 ≤ b := q; omega) hT.2 (i_in (n := L) rfl (by omega) (by omega)) dL_law_274 ?_
  refine lv_topi (fun u_55 e_u_55 => ?_)
  refine t_callV (n := 3) (As := [.int u_51, .int u_53, .int u_55]) (rest := []) (ci := 7) hB hT hl.1 (m_mend l D cI cZ cS cR N0 g_7 hI om u_51 u_53 u_55 r_12) (ro_ci r_12 rfl) rfl k_995 k_65 k_992 k_993 k_994 (by decide +kernel) ⟨(Nat.le_of_ble_eq_true rfl), (Nat.le_of_ble_eq_true rfl)⟩ rfl (Nat.le_of_ble_eq_true rfl) ⟨(by show _ ≤ _; first | exact Nat.le_of_ble_eq_true rfl | (simp only [room_1]; omega)), (by show _ ≤ _; first | exact Nat.le_of_ble_eq_true rfl | (simp only [room_1]; omega))⟩ dL_law_275 (fun v g_56 H locs hp hT => ?_)
  obtain ⟨r_57, rfl, hI, x_59, m_58⟩ := hp
  have hw : PX 48 2 3 71 72 g_56 om := hw.mono m_58 x_59 r_12 (by decide) (by decide) rfl rfl rfl rfl
  have hN0 : PX 8 39 40 84 85 g_56 om := hN0.mono m_58 x_59 r_12 (by decide) (by decide) rfl rfl rfl rfl
  have hTE : TE g_56 ba ta tz.toInt := hTE.sm m_58 r_16 (by decide) rfl r_17 (by decide) rfl
  have hWT : WT g_56 wt := hWT.sm m_58 r_18 (by decide) rfl
  have hPI : PGI g_56 sa aa wo pl wr sv.toInt := hPI.go (PK.sm m_58 x_59 r_19 rfl rfl rfl rfl rfl rfl rfl rfl rfl) (Sm.cf m_58 r_20 (by decide) rfl) (Sm.cf m_58 r_21 (by decide) rfl) (Sm.cf m_58 r_22 (by decide) rfl) (Sm.cf m_58 r_23 (by decide) rfl)
  have hM : Sm mdA g g_56 := sm_all
  have hE : Ex g g_56 := hE.tr x_59
  have r_60 : g_56.1 ox = 7 := (Ex.r x_59 r_11 (by decide))
  have r_61 : g_56.1 om = 8 := (Ex.r x_59 r_12 (by decide))
  have r_62 : g_56.1 tp = 5 := (Ex.r x_59 r_13 (by decide))
  have r_63 : g_56.1 nw = 19 := (Ex.r x_59 r_14 (by decide))
  have r_64 : g_56.1 rl = 1 := (Ex.r x_59 r_15 (by decide))
  have r_65 : g_56.1 ba = 67 := (Ex.r x_59 r_16 (by decide))
  have r_66 : g_56.1 ta = 79 := (Ex.r x_59 r_17 (by decide))
  have r_67 : g_56.1 wt = 87 := (Ex.r x_59 r_18 (by decide))
  have r_68 : g_56.1 sa = 42 := (Ex.r x_59 r_19 (by decide))
  have r_69 : g_56.1 aa = 88 := (Ex.r x_59 r_20 (by decide))
  have r_70 : g_56.1 wo = 71 := (Ex.r x_59 r_21 (by decide))
  have r_71 : g_56.1 pl = 72 := (Ex.r x_59 r_22 (by decide))
  have r_72 : g_56.1 wr = 73 := (Ex.r x_59 r_23 (by decide))
  have n_73 : g_56.2.2.1 ba = 100 := (Ex.n x_59 r_16 (by decide) n_24)
  have n_74 : g_56.2.2.1 ta = 100 := (Ex.n x_59 r_17 (by decide) n_25)
  have n_75 : g_56.2.2.1 wt = 24 := (Ex.n x_59 r_18 (by decide) n_26)
  have n_76 : g_56.2.2.1 sa = 6 := (Ex.n x_59 r_19 (by decide) n_27)
  have n_77 : g_56.2.2.1 aa = 6 := (Ex.n x_59 r_20 (by decide) n_28)
  have n_78 : g_56.2.2.1 wo = 48 := (Ex.n x_59 r_21 (by decide) n_29)
  have n_79 : g_56.2.2.1 pl = 48 := (Ex.n x_59 r_22 (by decide) n_30)
  have n_80 : g_56.2.2.1 wr = 48 := (Ex.n x_59 r_23 (by decide) n_31)
  have kn_81 : g_56.2.1 om 22 = .int o1 := (Sm.v m_58 r_12 (by decide) rfl kn_32)
  have kn_82 : g_56.2.1 ox 0 = .ref tp := (Sm.v m_58 r_11 (by decide) rfl kn_33)
  have kn_83 : g_56.2.1 ox 1 = .ref nw := (Sm.v m_58 r_11 (by decide) rfl kn_34)
  have kn_84 : g_56.2.1 ox 2 = .ref rl := (Sm.v m_58 r_11 (by decide) rfl kn_35)
  have kn_85 : g_56.2.1 tp 0 = .ref ba := (Sm.v m_58 r_13 (by decide) rfl kn_36)
  have kn_86 : g_56.2.1 om 28 = .ref ta := (Sm.v m_58 r_12 (by decide) rfl kn_37)
  have kn_87 : g_56.2.1 om 42 = .ref wt := (Sm.v m_58 r_12 (by decide) rfl kn_38)
  have kn_88 : g_56.2.1 nw 0 = .ref sa := (Sm.v m_58 r_14 (by decide) rfl kn_39)
  have kn_89 : g_56.2.1 om 1 = .ref aa := (Sm.v m_58 r_12 (by decide) rfl kn_40)
  have kn_90 : g_56.2.1 om 2 = .ref wo := (Sm.v m_58 r_12 (by decide) rfl kn_41)
  have kn_91 : g_56.2.1 om 3 = .ref pl := (Sm.v m_58 r_12 (by decide) rfl kn_42)
  have kn_92 : g_56.2.1 om 4 = .ref wr := (Sm.v m_58 r_12 (by decide) rfl kn_43)
  have kn_93 : g_56.2.1 tp 1 = .int tz := (Sm.v m_58 r_13 (by decide) rfl kn_44)
  have kn_94 : g_56.2.1 om 29 = .int tz := (Sm.v m_58 r_12 (by decide) rfl kn_45)
  have kn_95 : g_56.2.1 nw 1 = .int sv := (Sm.v m_58 r_14 (by decide) rfl kn_46)
  have kn_96 : g_56.2.1 om 0 = .int sv := (Sm.v m_58 r_12 (by decide) rfl kn_47)
  have kn_97 : g_56.2.1 rl 3 = .int rz := (Sm.v m_58 r_15 (by decide) rfl kn_48)
  have kn_98 : g_56.2.1 om 30 = .int rz := (Sm.v m_58 r_12 (by decide) rfl kn_49)
  refine W.eq (g2 := F0 m 278 ls [.int r_57]) rfl ?_
  refine lv_pop hx hb dL_law_278 rfl ?_
  refine lv_goto (tgt := 829) hx hb dL_law_279 (by decide) ?_
  refine W.widen (k := cells + 4) (n := slots + 28) (by omega) (by omega) ?_
  exact K g_56 o1 tz sv rz H locs hT hI r_60 r_61 kn_81 (by have e0_ : (0 : Int32).toInt = 0 := (by decide); omega) (by have e0_ : (0 : Int32).toInt = 0 := (by decide); omega) hw hN0 kn_82 r_62 kn_83 r_63 kn_84 r_64 kn_85 r_65 n_73 kn_86 r_66 n_74 kn_87 r_67 n_75 kn_88 r_68 n_76 kn_89 r_69 n_77 kn_90 r_70 n_78 kn_91 r_71 n_79 kn_92 r_72 n_80 kn_93 kn_94 (by have e0_ : (0 : Int32).toInt = 0 := (by decide); omega) (by have e0_ : (0 : Int32).toInt = 0 := (by decide); omega) kn_95 kn_96 (by have e0_ : (0 : Int32).toInt = 0 := (by decide); omega) (by have e0_ : (0 : Int32).toInt = 0 := (by decide); omega) kn_97 kn_98 (by have e0_ : (0 : Int32).toInt = 0 := (by decide); omega) (by have e0_ : (0 : Int32).toInt = 0 := (by decide); omega) hTE hWT hPI
