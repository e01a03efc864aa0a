theorem k_330 : Cond.methodLink RL 15 yX6_feed ∈ tb := mt 330 (by decide +kernel) rfl
theorem k_331 : Cond.instanceMethod yX6_feed ∈ tb := mt 331 (by decide +kernel) rfl
theorem k_332 : Cond.selects RX6 yX6_feed yX6_feed ∈ tb := mt 332 (by decide +kernel) rfl
set_option maxRecDepth 20000 in
theorem k_333 : Cond.code yX6_feed cX6_feed 4 (some .int) ∈ tb := mt 333 rfl rfl
theorem k_339 : Cond.methodLink RL 20 yX6_service ∈ tb := mt 339 (by decide +kernel) rfl
theorem k_340 : Cond.instanceMethod yX6_service ∈ tb := mt 340 (by decide +kernel) rfl
theorem k_341 : Cond.selects RX6 yX6_service yX6_service ∈ tb := mt 341 (by decide +kernel) rfl
set_option maxRecDepth 20000 in
theorem k_342 : Cond.code yX6_service cX6_service 2 (some .int) ∈ tb := mt 342 rfl rfl
theorem k_429 : Cond.methodLink RL 25 yX6_change ∈ tb := mt 429 (by decide +kernel) rfl
theorem k_430 : Cond.instanceMethod yX6_change ∈ tb := mt 430 (by decide +kernel) rfl
theorem k_431 : Cond.selects RX6 yX6_change yX6_change ∈ tb := mt 431 (by decide +kernel) rfl
set_option maxRecDepth 20000 in
theorem k_432 : Cond.code yX6_change cX6_change 3 (some .int) ∈ tb := mt 432 rfl rfl
theorem k_437 : Cond.methodLink RL 30 yX6_mend ∈ tb := mt 437 (by decide +kernel) rfl
theorem k_438 : Cond.instanceMethod yX6_mend ∈ tb := mt 438 (by decide +kernel) rfl
theorem k_439 : Cond.selects RX6 yX6_mend yX6_mend ∈ tb := mt 439 (by decide +kernel) rfl
set_option maxRecDepth 20000 in
theorem k_440 : Cond.code yX6_mend cX6_mend 6 (some .int) ∈ tb := mt 440 rfl rfl
theorem k_948 : Cond.methodLink RL 19 yX7_feed ∈ tb := mt 948 (by decide +kernel) rfl
theorem k_949 : Cond.instanceMethod yX7_feed ∈ tb := mt 949 (by decide +kernel) rfl
theorem k_950 : Cond.selects RX7 yX7_feed yX7_feed ∈ tb := mt 950 (by decide +kernel) rfl
set_option maxRecDepth 20000 in
theorem k_951 : Cond.code yX7_feed cX7_feed 5 (some .int) ∈ tb := mt 951 rfl rfl
theorem k_956 : Cond.methodLink RL 24 yX7_service ∈ tb := mt 956 (by decide +kernel) rfl
theorem k_957 : Cond.instanceMethod yX7_service ∈ tb := mt 957 (by decide +kernel) rfl
theorem k_958 : Cond.selects RX7 yX7_service yX7_service ∈ tb := mt 958 (by decide +kernel) rfl
set_option maxRecDepth 20000 in
theorem k_959 : Cond.code yX7_service cX7_service 1 (some .int) ∈ tb := mt 959 rfl rfl
theorem k_984 : Cond.methodLink RL 29 yX7_change ∈ tb := mt 984 (by decide +kernel) rfl
theorem k_985 : Cond.instanceMethod yX7_change ∈ tb := mt 985 (by decide +kernel) rfl
theorem k_986 : Cond.selects RX7 yX7_change yX7_change ∈ tb := mt 986 (by decide +kernel) rfl
set_option maxRecDepth 20000 in
theorem k_987 : Cond.code yX7_change cX7_change 2 (some .int) ∈ tb := mt 987 rfl rfl
theorem k_992 : Cond.methodLink RL 34 yX7_mend ∈ tb := mt 992 (by decide +kernel) rfl
theorem k_993 : Cond.instanceMethod yX7_mend ∈ tb := mt 993 (by decide +kernel) rfl
theorem k_994 : Cond.selects RX7 yX7_mend yX7_mend ∈ tb := mt 994 (by decide +kernel) rfl
set_option maxRecDepth 20000 in
theorem k_995 : Cond.code yX7_mend cX7_mend 5 (some .int) ∈ tb := mt 995 rfl rfl
theorem k_1190 : Cond.constantLong RL 13 4294967295 ∈ tb := mt 1190 (by decide +kernel) rfl
theorem dL_law_140 : decode cL_law 140 = .ok (.aload_n 1, 1) := by decide +kernel
theorem dL_law_141 : decode cL_law 141 = .ok (.aload_n 0, 1) := by decide +kernel
theorem dL_law_142 : decode cL_law 142 = .ok (.iload_n 3, 1) := by decide +kernel
theorem dL_law_143 : decode cL_law 143 = .ok (.iconst 1, 1) := by decide +kernel
theorem dL_law_144 : decode cL_law 144 = .ok (.iadd, 1) := by decide +kernel
theorem dL_law_145 : decode cL_law 145 = .ok (.iaload, 1) := by decide +kernel
theorem dL_law_146 : decode cL_law 146 = .ok (.i2l, 1) := by decide +kernel
theorem dL_law_147 : decode cL_law 147 = .ok (.bipush 32, 2) := by decide +kernel
theorem dL_law_149 : decode cL_law 149 = .ok (.lshl, 1) := by decide +kernel
theorem dL_law_150 : decode cL_law 150 = .ok (.aload_n 0, 1) := by decide +kernel
theorem dL_law_151 : decode cL_law 151 = .ok (.iload_n 3, 1) := by decide +kernel
theorem dL_law_152 : decode cL_law 152 = .ok (.iconst 2, 1) := by decide +kernel
theorem dL_law_153 : decode cL_law 153 = .ok (.iadd, 1) := by decide +kernel
theorem dL_law_154 : decode cL_law 154 = .ok (.iaload, 1) := by decide +kernel
theorem dL_law_155 : decode cL_law 155 = .ok (.i2l, 1) := by decide +kernel
theorem dL_law_156 : decode cL_law 156 = .ok (.ldc2_w 13, 3) := by decide +kernel
theorem dL_law_159 : decode cL_law 159 = .ok (.land, 1) := by decide +kernel
theorem dL_law_160 : decode cL_law 160 = .ok (.lor, 1) := by decide +kernel
theorem dL_law_161 : decode cL_law 161 = .ok (.aload_n 0, 1) := by decide +kernel
theorem dL_law_162 : decode cL_law 162 = .ok (.iload_n 3, 1) := by decide +kernel
theorem dL_law_163 : decode cL_law 163 = .ok (.iconst 3, 1) := by decide +kernel
theorem dL_law_164 : decode cL_law 164 = .ok (.iadd, 1) := by decide +kernel
theorem dL_law_165 : decode cL_law 165 = .ok (.iaload, 1) := by decide +kernel
theorem dL_law_166 : decode cL_law 166 = .ok (.invokevirtual 15, 3) := by decide +kernel
theorem dL_law_169 : decode cL_law 169 = .ok (.pop, 1) := by decide +kernel
theorem dL_law_170 : decode cL_law 170 = .ok (.aload_n 2, 1) := by decide +kernel
theorem dL_law_171 : decode cL_law 171 = .ok (.aload_n 0, 1) := by decide +kernel
theorem dL_law_172 : decode cL_law 172 = .ok (.iload_n 3, 1) := by decide +kernel
theorem dL_law_173 : decode cL_law 173 = .ok (.iconst 1, 1) := by decide +kernel
theorem dL_law_174 : decode cL_law 174 = .ok (.iadd, 1) := by decide +kernel
theorem dL_law_175 : decode cL_law 175 = .ok (.iaload, 1) := by decide +kernel
theorem dL_law_176 : decode cL_law 176 = .ok (.i2l, 1) := by decide +kernel
theorem dL_law_177 : decode cL_law 177 = .ok (.bipush 32, 2) := by decide +kernel
theorem dL_law_179 : decode cL_law 179 = .ok (.lshl, 1) := by decide +kernel
theorem dL_law_180 : decode cL_law 180 = .ok (.aload_n 0, 1) := by decide +kernel
theorem dL_law_181 : decode cL_law 181 = .ok (.iload_n 3, 1) := by decide +kernel
theorem dL_law_182 : decode cL_law 182 = .ok (.iconst 2, 1) := by decide +kernel
theorem dL_law_183 : decode cL_law 183 = .ok (.iadd, 1) := by decide +kernel
theorem dL_law_184 : decode cL_law 184 = .ok (.iaload, 1) := by decide +kernel
theorem dL_law_185 : decode cL_law 185 = .ok (.i2l, 1) := by decide +kernel
theorem dL_law_186 : decode cL_law 186 = .ok (.ldc2_w 13, 3) := by decide +kernel
theorem dL_law_189 : decode cL_law 189 = .ok (.land, 1) := by decide +kernel
theorem dL_law_190 : decode cL_law 190 = .ok (.lor, 1) := by decide +kernel
theorem dL_law_191 : decode cL_law 191 = .ok (.aload_n 0, 1) := by decide +kernel
theorem dL_law_192 : decode cL_law 192 = .ok (.iload_n 3, 1) := by decide +kernel
theorem dL_law_193 : decode cL_law 193 = .ok (.iconst 3, 1) := by decide +kernel
theorem dL_law_194 : decode cL_law 194 = .ok (.iadd, 1) := by decide +kernel
theorem dL_law_195 : decode cL_law 195 = .ok (.iaload, 1) := by decide +kernel
theorem dL_law_196 : decode cL_law 196 = .ok (.invokevirtual 19, 3) := by decide +kernel
theorem dL_law_199 : decode cL_law 199 = .ok (.pop, 1) := by decide +kernel
theorem dL_law_200 : decode cL_law 200 = .ok (.goto 629, 3) := by decide +kernel
theorem dL_law_203 : decode cL_law 203 = .ok (.aload_n 1, 1) := by decide +kernel
theorem dL_law_204 : decode cL_law 204 = .ok (.invokevirtual 20, 3) := by decide +kernel
theorem dL_law_207 : decode cL_law 207 = .ok (.pop, 1) := by decide +kernel
theorem dL_law_208 : decode cL_law 208 = .ok (.aload_n 2, 1) := by decide +kernel
theorem dL_law_209 : decode cL_law 209 = .ok (.invokevirtual 24, 3) := by decide +kernel
theorem dL_law_212 : decode cL_law 212 = .ok (.pop, 1) := by decide +kernel
theorem dL_law_213 : decode cL_law 213 = .ok (.goto 616, 3) := by decide +kernel
theorem dL_law_216 : decode cL_law 216 = .ok (.aload_n 1, 1) := by decide +kernel
theorem dL_law_217 : decode cL_law 217 = .ok (.aload_n 0, 1) := by decide +kernel
theorem dL_law_218 : decode cL_law 218 = .ok (.iload_n 3, 1) := by decide +kernel
theorem dL_law_219 : decode cL_law 219 = .ok (.iconst 1, 1) := by decide +kernel
theorem dL_law_220 : decode cL_law 220 = .ok (.iadd, 1) := by decide +kernel
theorem dL_law_221 : decode cL_law 221 = .ok (.iaload, 1) := by decide +kernel
theorem dL_law_222 : decode cL_law 222 = .ok (.invokevirtual 25, 3) := by decide +kernel
theorem dL_law_225 : decode cL_law 225 = .ok (.pop, 1) := by decide +kernel
theorem dL_law_226 : decode cL_law 226 = .ok (.aload_n 2, 1) := by decide +kernel
theorem dL_law_227 : decode cL_law 227 = .ok (.aload_n 0, 1) := by decide +kernel
theorem dL_law_228 : decode cL_law 228 = .ok (.iload_n 3, 1) := by decide +kernel
theorem dL_law_229 : decode cL_law 229 = .ok (.iconst 1, 1) := by decide +kernel
theorem dL_law_230 : decode cL_law 230 = .ok (.iadd, 1) := by decide +kernel
theorem dL_law_231 : decode cL_law 231 = .ok (.iaload, 1) := by decide +kernel
theorem dL_law_232 : decode cL_law 232 = .ok (.invokevirtual 29, 3) := by decide +kernel
theorem dL_law_235 : decode cL_law 235 = .ok (.pop, 1) := by decide +kernel
theorem dL_law_236 : decode cL_law 236 = .ok (.goto 593, 3) := by decide +kernel
theorem dL_law_239 : decode cL_law 239 = .ok (.aload_n 1, 1) := by decide +kernel
theorem dL_law_240 : decode cL_law 240 = .ok (.aload_n 0, 1) := by decide +kernel
theorem dL_law_241 : decode cL_law 241 = .ok (.iload_n 3, 1) := by decide +kernel
theorem dL_law_242 : decode cL_law 242 = .ok (.iconst 1, 1) := by decide +kernel
theorem dL_law_243 : decode cL_law 243 = .ok (.iadd, 1) := by decide +kernel
theorem dL_law_244 : decode cL_law 244 = .ok (.iaload, 1) := by decide +kernel
theorem dL_law_245 : decode cL_law 245 = .ok (.aload_n 0, 1) := by decide +kernel
theorem dL_law_246 : decode cL_law 246 = .ok (.iload_n 3, 1) := by decide +kernel
theorem dL_law_247 : decode cL_law 247 = .ok (.iconst 2, 1) := by decide +kernel
theorem dL_law_248 : decode cL_law 248 = .ok (.iadd, 1) := by decide +kernel
theorem dL_law_249 : decode cL_law 249 = .ok (.iaload, 1) := by decide +kernel
theorem dL_law_250 : decode cL_law 250 = .ok (.aload_n 0, 1) := by decide +kernel
theorem dL_law_251 : decode cL_law 251 = .ok (.iload_n 3, 1) := by decide +kernel
theorem dL_law_252 : decode cL_law 252 = .ok (.iconst 3, 1) := by decide +kernel
theorem dL_law_253 : decode cL_law 253 = .ok (.iadd, 1) := by decide +kernel
theorem dL_law_254 : decode cL_law 254 = .ok (.iaload, 1) := by decide +kernel
theorem dL_law_255 : decode cL_law 255 = .ok (.invokevirtual 30, 3) := by decide +kernel
theorem dL_law_258 : decode cL_law 258 = .ok (.pop, 1) := by decide +kernel
theorem dL_law_259 : decode cL_law 259 = .ok (.aload_n 2, 1) := by decide +kernel
theorem dL_law_260 : decode cL_law 260 = .ok (.aload_n 0, 1) := by decide +kernel
theorem dL_law_261 : decode cL_law 261 = .ok (.iload_n 3, 1) := by decide +kernel
theorem dL_law_262 : decode cL_law 262 = .ok (.iconst 1, 1) := by decide +kernel
theorem dL_law_263 : decode cL_law 263 = .ok (.iadd, 1) := by decide +kernel
theorem dL_law_264 : decode cL_law 264 = .ok (.iaload, 1) := by decide +kernel
theorem dL_law_265 : decode cL_law 265 = .ok (.aload_n 0, 1) := by decide +kernel
theorem dL_law_266 : decode cL_law 266 = .ok (.iload_n 3, 1) := by decide +kernel
theorem dL_law_267 : decode cL_law 267 = .ok (.iconst 2, 1) := by decide +kernel
theorem dL_law_268 : decode cL_law 268 = .ok (.iadd, 1) := by decide +kernel
theorem dL_law_269 : decode cL_law 269 = .ok (.iaload, 1) := by decide +kernel
theorem dL_law_270 : decode cL_law 270 = .ok (.aload_n 0, 1) := by decide +kernel
theorem dL_law_271 : decode cL_law 271 = .ok (.iload_n 3, 1) := by decide +kernel
theorem dL_law_272 : decode cL_law 272 = .ok (.iconst 3, 1) := by decide +kernel
theorem dL_law_273 : decode cL_law 273 = .ok (.iadd, 1) := by decide +kernel
theorem dL_law_274 : decode cL_law 274 = .ok (.iaload, 1) := by decide +kernel
theorem dL_law_275 : decode cL_law 275 = .ok (.invokevirtual 34, 3) := by decide +kernel
theorem dL_law_278 : decode cL_law 278 = .ok (.pop, 1) := by decide +kernel
theorem dL_law_279 : decode cL_law 279 = .ok (.goto 550, 3) := by decide +kernel
set_option maxHeartbeats 4000000 in
set_option maxRecDepth 100000 in
/-- feed -/
theorem law_0 {p : Program} {l : Launch} {e : Env} {s : State} {m : MethodId} {below : List Frame} {meth : Method} {c : Code} {D : va_G} {cI cZ cS cR : ClassId} {N0 : NT} {b L : Nat} {xs : Nat → Int32} (hB : Tz p s m meth c #[Value.ref b] code 4 RL D cI cZ cS cR N0) (hAs : N0.1 = s.heap.size) (hX : va_X b L xs s s.heap) (hbl : b < s.heap.size) (hL : L ≤ 2560) (hr : meth.sig.returnType = ret) {cells slots : Nat} (hcl : cells + 4 ≤ 600000) (hsl : slots + 28 ≤ 7302250) {H : Heap} {locs : List Loc} {ls : Array Slot} (g : GS) (ox om : Nat) (tp : Nat) (nw : Nat) (rl : Nat) (lg : Nat) (ba : Nat) (ta : Nat) (wt : Nat) (y0 : Nat) (y1 : Nat) (y2 : Nat) (m0 : Nat) (m1 : Nat) (m2 : Nat) (i o1 tz sv rz lz : Int32) (hT : Tv D cI cZ cS cR N0 s.heap H locs g) (hI : Inv g) (l_i : 0 ≤ i.toInt) (u_i : i.toInt + 5 ≤ L) : g.1 ox = 7 → g.1 om = 8 → g.2.1 om 22 = .int o1 → 0 ≤ o1.toInt → o1.toInt ≤ 12 * i.toInt → PX 48 2 3 71 72 g om → PX 8 39 40 84 85 g om → g.2.1 ox 0 = .ref tp → g.1 tp = 5 → g.2.1 ox 1 = .ref nw → g.1 nw = 19 → g.2.1 ox 2 = .ref rl → g.1 rl = 1 → g.2.1 ox 3 = .ref lg → g.1 lg = 9 → g.2.1 tp 0 = .ref ba → g.1 ba = 67 → g.2.2.1 ba = 100 → g.2.1 om 28 = .ref ta → g.1 ta = 79 → g.2.2.1 ta = 100 → g.2.1 om 42 = .ref wt → g.1 wt = 87 → g.2.2.1 wt = 24 → g.2.1 lg 0 = .ref y0 → g.1 y0 = 64 → g.2.2.1 y0 = 20 → g.2.1 lg 1 = .ref y1 → g.1 y1 = 65 → g.2.2.1 y1 = 20 → g.2.1 lg 2 = .ref y2 → g.1 y2 = 66 → g.2.2.1 y2 = 20 → g.2.1 om 25 = .ref m0 → g.1 m0 = 76 → g.2.2.1 m0 = 20 → g.2.1 om 26 = .ref m1 → g.1 m1 = 77 → g.2.2.1 m1 = 20 → g.2.1 om 27 = .ref m2 → g.1 m2 = 78 → g.2.2.1 m2 = 20 → g.2.1 tp 1 = .int tz → g.2.1 om 29 = .int tz → 0 ≤ tz.toInt → tz.toInt ≤ 100 → g.2.1 nw 1 = .int sv → g.2.1 om 0 = .int sv → 0 ≤ sv.toInt → sv.toInt ≤ 6 → g.2.1 rl 3 = .int rz → g.2.1 om 30 = .int rz → 0 ≤ rz.toInt → rz.toInt ≤ 6 → g.2.1 lg 3 = .int lz → g.2.1 om 24 = .int lz → 0 ≤ lz.toInt → lz.toInt ≤ 20 → TE g ba ta tz.toInt → WT g wt → TE g y0 m0 lz.toInt → TE g y1 m1 lz.toInt → TE g y2 m2 lz.toInt → (hl : lv_has ls 4 [(3, .int i), (2, .ref om), (1, .ref ox), (0, .ref b)]) → (K : ∀ (g1 : GS) (o1_1 tz_1 sv_1 rz_1 lz_1 : Int32) (H1 : Heap) (locs1 : List Loc), Tv D cI cZ cS cR N0 s.heap H1 locs1 g1 → Inv g1 → g1.1 ox = 7 → g1.1 om = 8 → g1.2.1 om 22 = .int o1_1 → 0 ≤ o1_1.toInt → o1_1.toInt ≤ 12 * i.toInt + 60 → PX 48 2 3 71 72 g1 om → PX 8 39 40 84 85 g1 om → g1.2.1 ox 0 = .ref tp → g1.1 tp = 5 → g1.2.1 ox 1 = .ref nw → g1.1 nw = 19 → g1.2.1 ox 2 = .ref rl → g1.1 rl = 1 → g1.2.1 ox 3 = .ref lg → g1.1 lg = 9 → g1.2.1 tp 0 = .ref ba → g1.1 ba = 67 → g1.2.2.1 ba = 100 → g1.2.1 om 28 = .ref ta → g1.1 ta = 79 → g1.2.2.1 ta = 100 → g1.2.1 om 42 = .ref wt → g1.1 wt = 87 → g1.2.2.1 wt = 24 → g1.2.1 lg 0 = .ref y0 → g1.1 y0 = 64 → g1.2.2.1 y0 = 20 → g1.2.1 lg 1 = .ref y1 → g1.1 y1 = 65 → g1.2.2.1 y1 = 20 → g1.2.1 lg 2 = .ref y2 → g1.1 y2 = 66 → g1.2.2.1 y2 = 20 → g1.2.1 om 25 = .ref m0 → g1.1 m0 = 76 → g1.2.2.1 m0 = 20 → g1.2.1 om 26 = .ref m1 → g1.1 m1 = 77 → g1.2.2.1 m1 = 20 → g1.2.1 om 27 = .ref m2 → g1.1 m2 = 78 → g1.2.2.1 m2 = 20 → g1.2.1 tp 1 = .int tz_1 → g1.2.1 om 29 = .int tz_1 → 0 ≤ tz_1.toInt → tz_1.toInt ≤ 100 → g1.2.1 nw 1 = .int sv_1 → g1.2.1 om 0 = .int sv_1 → 0 ≤ sv_1.toInt → sv_1.toInt ≤ 6 → g1.2.1 rl 3 = .int rz_1 → g1.2.1 om 30 = .int rz_1 → 0 ≤ rz_1.toInt → rz_1.toInt ≤ 6 → g1.2.1 lg 3 = .int lz_1 → g1.2.1 om 24 = .int lz_1 → 0 ≤ lz_1.toInt → lz_1.toInt ≤ 20 → TE g1 ba ta tz_1.toInt → WT g1 wt → TE g1 y0 m0 lz_1.toInt → TE g1 y1 m1 lz_1.toInt → TE g1 y2 m2 lz_1.toInt → W p l e room_1 s m #[Value.ref b] below meth c H1 locs1 (cells + 4) (slots + 28) (lw_Z below #[Value.ref b] s) (F0 m 829 ls [])) → W p l e room_1 s m #[Value.ref b] below meth c H locs cells slots (lw_Z below #[Value.ref b] s) (F0 m 140 ls []) := by
  intro r_ox r_om ko l_o u_o hw hN0 k_tp r_tp k_nw r_nw k_rl r_rl k_lg r_lg k_ba r_ba n_ba k_ta r_ta n_ta k_wt r_wt n_wt k_y0 r_y0 n_y0 k_y1 r_y1 n_y1 k_y2 r_y2 n_y2 k_m0 r_m0 n_m0 k_m1 r_m1 n_m1 k_m2 r_m2 n_m2 kc_tz km_tz l_tz u_tz kc_sv km_sv l_sv u_sv kc_rz km_rz l_rz u_rz kc_lz km_lz l_lz u_lz hTE hWT hL0 hL1 hL2 hl K
  have hx := hB.1
  have hb := hB.2.1
  have hE : Ex g g := Ex.rf
  have hM : Sm mdA g g := sm_all
  have hTE0 := hTE
  have hL00 := hL0
  have hL10 := hL1
  have hL20 := hL2
  refine lv_aload_n hx hb dL_law_140 rfl (lv_at hl 2 rfl) ?_
  refine lv_aload_n hx hb dL_law_141 rfl (lv_at hl 3 rfl) ?_
  refine lv_iload_n hx hb dL_law_142 rfl (lv_at hl 0 rfl) ?_
  refine lv_iconst (v := 1) hx hb dL_law_143 (by decide) ?_
  refine lv_iadd hx hb dL_law_144 ?_
  refine lv_topi (fun z_1 ez_1 => ?_)
  have e_z_1 : z_1.toInt = i.toInt + 1 := i_add ez_1 rfl (by decide) (by omega) (by omega)
  refine va_sld hx hb hX hbl (fun q => by have q_ : N0.1 ≤ b := q; omega) hT.2 (i_in (n := L) rfl (by omega) (by omega)) dL_law_145 ?_
  refine lv_topi (fun u_2 e_u_2 => ?_)
  refine lv_i2l hx hb dL_law_146 rfl ?_
  refine lv_topl (fun z_3 ez_3 => ?_)
  refine lv_bipush (v := 32) hx hb dL_law_147 (by decide) ?_
  refine lv_lshl hx hb dL_law_149 rfl ?_
  refine lv_topl (fun z_4 ez_4 => ?_)
  refine lv_aload_n hx hb dL_law_150 rfl (lv_at hl 3 rfl) ?_
  refine lv_iload_n hx hb dL_law_151 rfl (lv_at hl 0 rfl) ?_
  refine lv_iconst (v := 2) hx hb dL_law_152 (by decide) ?_
  refine lv_iadd hx hb dL_law_153 ?_
  refine lv_topi (fun z_5 ez_5 => ?_)
  have e_z_5 : z_5.toInt = i.toInt + 2 := i_add ez_5 rfl (by decide) (by omega) (by omega)
  refine va_sld hx hb hX hbl (fun q => by have q_ : N0.1 ≤ b := q; omega) hT.2 (i_in (n := L) rfl (by omega) (by omega)) dL_law_154 ?_
  refine lv_topi (fun u_6 e_u_6 => ?_)
  refine lv_i2l hx hb dL_law_155 rfl ?_
  refine lv_topl (fun z_7 ez_7 => ?_)
  refine lv_ldc2 (v := 4294967295) hx hb hB.2.2.2.1 (hB.2.2.2.2.1 _ k_1190) dL_law_156 ?_
  refine lv_land hx hb dL_law_159 ?_
  refine lv_topl (fun z_8 ez_8 => ?_)
  refine lv_lor hx hb dL_law_160 ?_
  refine lv_topl (fun z_9 ez_9 => ?_)
  refine lv_aload_n hx hb dL_law_161 rfl (lv_at hl 3 rfl) ?_
  refine lv_iload_n hx hb dL_law_162 rfl (lv_at hl 0 rfl) ?_
  refine lv_iconst (v := 3) hx hb dL_law_163 (by decide) ?_
  refine lv_iadd hx hb dL_law_164 ?_
  refine lv_topi (fun z_10 ez_10 => ?_)
  have e_z_10 : z_10.toInt = i.toInt + 3 := i_add ez_10 rfl (by decide) (by omega) (by omega)
  refine va_sld hx hb hX hbl (fun q => by have q_ : N0.1 ≤ b := q; omega) hT.2 (i_in (n := L) rfl (by omega) (by omega)) dL_law_165 ?_
  refine lv_topi (fun u_11 e_u_11 => ?_)
  refine t_callV (n := 2) (As := [.long z_9, .int u_11]) (rest := []) (ci := 6) hB hT hl.1 (P_feed l D cI cZ cS cR N0 g hI ox z_9 u_11 tp tz ba (g.2.2.2.1 ba) r_ox r_tp r_ba n_ba k_tp kc_tz k_ba (by omega) (by omega) rfl) (ro_ci r_ox rfl) rfl k_333 k_57 k_330 k_331 k_332 (by decide +kernel) ⟨(Nat.le_of_ble_eq_true rfl), (Nat.le_of_ble_eq_true rfl)⟩ rfl (Nat.le_of_ble_eq_true rfl) ⟨(by show _ ≤ _; first | exact Nat.le_of_ble_eq_true rfl | (simp only [room_1]; omega)), (by show _ ≤ _; first | exact Nat.le_of_ble_eq_true rfl | (simp only [room_1]; omega))⟩ dL_law_166 (fun v g_12 H locs hp hT => ?_)
  obtain ⟨r_13, z2_14, rfl, hI, x_20, m_19, f_15, f_16, f_17, f_18⟩ := hp
  have hw : PX 48 2 3 71 72 g_12 om := hw.mono m_19 x_20 r_om (by decide) (by decide) rfl rfl rfl rfl
  have hN0 : PX 8 39 40 84 85 g_12 om := hN0.mono m_19 x_20 r_om (by decide) (by decide) rfl rfl rfl rfl
  have hWT : WT g_12 wt := hWT.sm m_19 r_wt (by decide) rfl
  have hL0 : TE g_12 y0 m0 lz.toInt := hL0.sm m_19 r_y0 (by decide) rfl r_m0 (by decide) rfl
  have hL1 : TE g_12 y1 m1 lz.toInt := hL1.sm m_19 r_y1 (by decide) rfl r_m1 (by decide) rfl
  have hL2 : TE g_12 y2 m2 lz.toInt := hL2.sm m_19 r_y2 (by decide) rfl r_m2 (by decide) rfl
  have hM : Sm mdA g g_12 := sm_all
  have hE : Ex g g_12 := hE.tr x_20
  have r_21 : g_12.1 ox = 7 := (Ex.r x_20 r_ox (by decide))
  have r_22 : g_12.1 om = 8 := (Ex.r x_20 r_om (by decide))
  have r_23 : g_12.1 tp = 5 := (Ex.r x_20 r_tp (by decide))
  have r_24 : g_12.1 nw = 19 := (Ex.r x_20 r_nw (by decide))
  have r_25 : g_12.1 rl = 1 := (Ex.r x_20 r_rl (by decide))
  have r_26 : g_12.1 lg = 9 := (Ex.r x_20 r_lg (by decide))
  have r_27 : g_12.1 ba = 67 := (Ex.r x_20 r_ba (by decide))
  have r_28 : g_12.1 ta = 79 := (Ex.r x_20 r_ta (by decide))
  have r_29 : g_12.1 wt = 87 := (Ex.r x_20 r_wt (by decide))
  have r_30 : g_12.1 y0 = 64 := (Ex.r x_20 r_y0 (by decide))
  have r_31 : g_12.1 y1 = 65 := (Ex.r x_20 r_y1 (by decide))
  have r_32 : g_12.1 y2 = 66 := (Ex.r x_20 r_y2 (by decide))
  have r_33 : g_12.1 m0 = 76 := (Ex.r x_20 r_m0 (by decide))
  have r_34 : g_12.1 m1 = 77 := (Ex.r x_20 r_m1 (by decide))
  have r_35 : g_12.1 m2 = 78 := (Ex.r x_20 r_m2 (by decide))
  have n_36 : g_12.2.2.1 ba = 100 := (Ex.n x_20 r_ba (by decide) n_ba)
  have n_37 : g_12.2.2.1 ta = 100 := (Ex.n x_20 r_ta (by decide) n_ta)
  have n_38 : g_12.2.2.1 wt = 24 := (Ex.n x_20 r_wt (by decide) n_wt)
  have n_39 : g_12.2.2.1 y0 = 20 := (Ex.n x_20 r_y0 (by decide) n_y0)
  have n_40 : g_12.2.2.1 y1 = 20 := (Ex.n x_20 r_y1 (by decide) n_y1)
  have n_41 : g_12.2.2.1 y2 = 20 := (Ex.n x_20 r_y2 (by decide) n_y2)
  have n_42 : g_12.2.2.1 m0 = 20 := (Ex.n x_20 r_m0 (by decide) n_m0)
  have n_43 : g_12.2.2.1 m1 = 20 := (Ex.n x_20 r_m1 (by decide) n_m1)
  have n_44 : g_12.2.2.1 m2 = 20 := (Ex.n x_20 r_m2 (by decide) n_m2)
  have kn_45 : g_12.2.1 om 22 = .int o1 := (Sm.v m_19 r_om (by decide) rfl ko)
  have kn_46 : g_12.2.1 ox 0 = .ref tp := (Sm.v m_19 r_ox (by decide) rfl k_tp)
  have kn_47 : g_12.2.1 ox 1 = .ref nw := (Sm.v m_19 r_ox (by decide) rfl k_nw)
  have kn_48 : g_12.2.1 ox 2 = .ref rl := (Sm.v m_19 r_ox (by decide) rfl k_rl)
  have kn_49 : g_12.2.1 ox 3 = .ref lg := (Sm.v m_19 r_ox (by decide) rfl k_lg)
  have kn_50 : g_12.2.1 tp 0 = .ref ba := (Sm.v m_19 r_tp (by decide) rfl k_ba)
  have kn_51 : g_12.2.1 om 28 = .ref ta := (Sm.v m_19 r_om (by decide) rfl k_ta)
  have kn_52 : g_12.2.1 om 42 = .ref wt := (Sm.v m_19 r_om (by decide) rfl k_wt)
  have kn_53 : g_12.2.1 lg 0 = .ref y0 := (Sm.v m_19 r_lg (by decide) rfl k_y0)
  have kn_54 : g_12.2.1 lg 1 = .ref y1 := (Sm.v m_19 r_lg (by decide) rfl k_y1)
  have kn_55 : g_12.2.1 lg 2 = .ref y2 := (Sm.v m_19 r_lg (by decide) rfl k_y2)
  have kn_56 : g_12.2.1 om 25 = .ref m0 := (Sm.v m_19 r_om (by decide) rfl k_m0)
  have kn_57 : g_12.2.1 om 26 = .ref m1 := (Sm.v m_19 r_om (by decide) rfl k_m1)
  have kn_58 : g_12.2.1 om 27 = .ref m2 := (Sm.v m_19 r_om (by decide) rfl k_m2)
  have kn_59 : g_12.2.1 om 29 = .int tz := (Sm.v m_19 r_om (by decide) rfl km_tz)
  have kn_60 : g_12.2.1 nw 1 = .int sv := (Sm.v m_19 r_nw (by decide) rfl kc_sv)
  have kn_61 : g_12.2.1 om 0 = .int sv := (Sm.v m_19 r_om (by decide) rfl km_sv)
  have kn_62 : g_12.2.1 rl 3 = .int rz := (Sm.v m_19 r_rl (by decide) rfl kc_rz)
  have kn_63 : g_12.2.1 om 30 = .int rz := (Sm.v m_19 r_om (by decide) rfl km_rz)
  have kn_64 : g_12.2.1 lg 3 = .int lz := (Sm.v m_19 r_lg (by decide) rfl kc_lz)
  have kn_65 : g_12.2.1 om 24 = .int lz := (Sm.v m_19 r_om (by decide) rfl km_lz)
  refine W.eq (g2 := F0 m 169 ls [.int r_13]) rfl ?_
  refine lv_pop hx hb dL_law_169 rfl ?_
  refine lv_aload_n hx hb dL_law_170 rfl (lv_at hl 1 rfl) ?_
  refine lv_aload_n hx hb dL_law_171 rfl (lv_at hl 3 rfl) ?_
  refine lv_iload_n hx hb dL_law_172 rfl (lv_at hl 0 rfl) ?_
  refine lv_iconst (v := 1) hx hb dL_law_173 (by decide) ?_
  refine lv_iadd hx hb dL_law_174 ?_
  refine lv_topi (fun z_66 ez_66 => ?_)
  have e_z_66 : z_66.toInt = i.toInt + 1 := i_add ez_66 rfl (by decide) (by omega) (by omega)
  refine va_sld hx hb hX hbl (fun q => by have q_ : N0.1 ≤ b := q; omega) hT.2 (i_in (n := L) rfl (by omega) (by omega)) dL_law_175 ?_
  refine lv_topi (fun u_67 e_u_67 => ?_)
  refine lv_i2l hx hb dL_law_176 rfl ?_
  refine lv_topl (fun z_68 ez_68 => ?_)
  refine lv_bipush (v := 32) hx hb dL_law_177 (by decide) ?_
  refine lv_lshl hx hb dL_law_179 rfl ?_
  refine lv_topl (fun z_69 ez_69 => ?_)
  refine lv_aload_n hx hb dL_law_180 rfl (lv_at hl 3 rfl) ?_
  refine lv_iload_n hx hb dL_law_181 rfl (lv_at hl 0 rfl) ?_
  refine lv_iconst (v := 2) hx hb dL_law_182 (by decide) ?_
  refine lv_iadd hx hb dL_law_183 ?_
  refine lv_topi (fun z_70 ez_70 => ?_)
  have e_z_70 : z_70.toInt = i.toInt + 2 := i_add ez_70 rfl (by decide) (by omega) (by omega)
  refine va_sld hx hb hX hbl (fun q => by have q_ : N0.1 ≤ b := q; omega) hT.2 (i_in (n := L) rfl (by omega) (by omega)) dL_law_184 ?_
  refine lv_topi (fun u_71 e_u_71 => ?_)
  refine lv_i2l hx hb dL_law_185 rfl ?_
  refine lv_topl (fun z_72 ez_72 => ?_)
  refine lv_ldc2 (v := 4294967295) hx hb hB.2.2.2.1 (hB.2.2.2.2.1 _ k_1190) dL_law_186 ?_
  refine lv_land hx hb dL_law_189 ?_
  refine lv_topl (fun z_73 ez_73 => ?_)
  refine lv_lor hx hb dL_law_190 ?_
  refine lv_topl (fun z_74 ez_74 => ?_)
  refine lv_aload_n hx hb dL_law_191 rfl (lv_at hl 3 rfl) ?_
  refine lv_iload_n hx hb dL_law_192 rfl (lv_at hl 0 rfl) ?_
  refine lv_iconst (v := 3) hx hb dL_law_193 (by decide) ?_
  refine lv_iadd hx hb dL_law_194 ?_
  refine lv_topi (fun z_75 ez_75 => ?_)
  have e_z_75 : z_75.toInt = i.toInt + 3 := i_add ez_75 rfl (by decide) (by omega) (by omega)
  refine va_sld hx hb hX hbl (fun q => by have q_ : N0.1 ≤ b := q; omega) hT.2 (i_in (n := L) rfl (by omega) (by omega)) dL_law_195 ?_
  refine lv_topi (fun u_76 e_u_76 => ?_)
  refine t_callV (n := 2) (As := [.long z_74, .int u_76]) (rest := []) (ci := 7) hB hT hl.1 (m_feed l D cI cZ cS cR N0 g_12 hI om z_74 u_76 tz ta (g_12.2.2.2.1 ta) r_22 r_28 n_37 kn_59 kn_51 (by omega) (by omega) rfl) (ro_ci r_22 rfl) rfl k_951 k_65 k_948 k_949 k_950 (by decide +kernel) ⟨(Nat.le_of_ble_eq_true rfl), (Nat.le_of_ble_eq_true rfl)⟩ rfl (Nat.le_of_ble_eq_true rfl) ⟨(by show _ ≤ _; first | exact Nat.le_of_ble_eq_true rfl | (simp only [room_1]; omega)), (by show _ ≤ _; first | exact Nat.le_of_ble_eq_true rfl | (simp only [room_1]; omega))⟩ dL_law_196 (fun v g_77 H locs hp hT => ?_)
  obtain ⟨r_78, z2_79, rfl, hI, x_85, m_84, f_80, f_81, f_82, f_83⟩ := hp
  have hw : PX 48 2 3 71 72 g_77 om := hw.mono m_84 x_85 r_22 (by decide) (by decide) rfl rfl rfl rfl
  have hN0 : PX 8 39 40 84 85 g_77 om := hN0.mono m_84 x_85 r_22 (by decide) (by decide) rfl rfl rfl rfl
  have hWT : WT g_77 wt := hWT.sm m_84 r_29 (by decide) rfl
  have hL0 : TE g_77 y0 m0 lz.toInt := hL0.sm m_84 r_30 (by decide) rfl r_33 (by decide) rfl
  have hL1 : TE g_77 y1 m1 lz.toInt := hL1.sm m_84 r_31 (by decide) rfl r_34 (by decide) rfl
  have hL2 : TE g_77 y2 m2 lz.toInt := hL2.sm m_84 r_32 (by decide) rfl r_35 (by decide) rfl
  have hM : Sm mdA g g_77 := sm_all
  have hE : Ex g g_77 := hE.tr x_85
  have r_86 : g_77.1 ox = 7 := (Ex.r x_85 r_21 (by decide))
  have r_87 : g_77.1 om = 8 := (Ex.r x_85 r_22 (by decide))
  have r_88 : g_77.1 tp = 5 := (Ex.r x_85 r_23 (by decide))
  have r_89 : g_77.1 nw = 19 := (Ex.r x_85 r_24 (by decide))
  have r_90 : g_77.1 rl = 1 := (Ex.r x_85 r_25 (by decide))
  have r_91 : g_77.1 lg = 9 := (Ex.r x_85 r_26 (by decide))
  have r_92 : g_77.1 ba = 67 := (Ex.r x_85 r_27 (by decide))
  have r_93 : g_77.1 ta = 79 := (Ex.r x_85 r_28 (by decide))
  have r_94 : g_77.1 wt = 87 := (Ex.r x_85 r_29 (by decide))
  have r_95 : g_77.1 y0 = 64 := (Ex.r x_85 r_30 (by decide))
  have r_96 : g_77.1 y1 = 65 := (Ex.r x_85 r_31 (by decide))
  have r_97 : g_77.1 y2 = 66 := (Ex.r x_85 r_32 (by decide))
  have r_98 : g_77.1 m0 = 76 := (Ex.r x_85 r_33 (by decide))
  have r_99 : g_77.1 m1 = 77 := (Ex.r x_85 r_34 (by decide))
  have r_100 : g_77.1 m2 = 78 := (Ex.r x_85 r_35 (by decide))
  have n_101 : g_77.2.2.1 ba = 100 := (Ex.n x_85 r_27 (by decide) n_36)
  have n_102 : g_77.2.2.1 ta = 100 := (Ex.n x_85 r_28 (by decide) n_37)
  have n_103 : g_77.2.2.1 wt = 24 := (Ex.n x_85 r_29 (by decide) n_38)
  have n_104 : g_77.2.2.1 y0 = 20 := (Ex.n x_85 r_30 (by decide) n_39)
  have n_105 : g_77.2.2.1 y1 = 20 := (Ex.n x_85 r_31 (by decide) n_40)
  have n_106 : g_77.2.2.1 y2 = 20 := (Ex.n x_85 r_32 (by decide) n_41)
  have n_107 : g_77.2.2.1 m0 = 20 := (Ex.n x_85 r_33 (by decide) n_42)
  have n_108 : g_77.2.2.1 m1 = 20 := (Ex.n x_85 r_34 (by decide) n_43)
  have n_109 : g_77.2.2.1 m2 = 20 := (Ex.n x_85 r_35 (by decide) n_44)
  have kn_110 : g_77.2.1 om 22 = .int o1 := (Sm.v m_84 r_22 (by decide) rfl kn_45)
  have kn_111 : g_77.2.1 ox 0 = .ref tp := (Sm.v m_84 r_21 (by decide) rfl kn_46)
  have kn_112 : g_77.2.1 ox 1 = .ref nw := (Sm.v m_84 r_21 (by decide) rfl kn_47)
  have kn_113 : g_77.2.1 ox 2 = .ref rl := (Sm.v m_84 r_21 (by decide) rfl kn_48)
  have kn_114 : g_77.2.1 ox 3 = .ref lg := (Sm.v m_84 r_21 (by decide) rfl kn_49)
  have kn_115 : g_77.2.1 tp 0 = .ref ba := (Sm.v m_84 r_23 (by decide) rfl kn_50)
  have kn_116 : g_77.2.1 om 28 = .ref ta := (Sm.v m_84 r_22 (by decide) rfl kn_51)
  have kn_117 : g_77.2.1 om 42 = .ref wt := (Sm.v m_84 r_22 (by decide) rfl kn_52)
  have kn_118 : g_77.2.1 lg 0 = .ref y0 := (Sm.v m_84 r_26 (by decide) rfl kn_53)
  have kn_119 : g_77.2.1 lg 1 = .ref y1 := (Sm.v m_84 r_26 (by decide) rfl kn_54)
  have kn_120 : g_77.2.1 lg 2 = .ref y2 := (Sm.v m_84 r_26 (by decide) rfl kn_55)
  have kn_121 : g_77.2.1 om 25 = .ref m0 := (Sm.v m_84 r_22 (by decide) rfl kn_56)
  have kn_122 : g_77.2.1 om 26 = .ref m1 := (Sm.v m_84 r_22 (by decide) rfl kn_57)
  have kn_123 : g_77.2.1 om 27 = .ref m2 := (Sm.v m_84 r_22 (by decide) rfl kn_58)
  have kn_124 : g_77.2.1 nw 1 = .int sv := (Sm.v m_84 r_24 (by decide) rfl kn_60)
  have kn_125 : g_77.2.1 om 0 = .int sv := (Sm.v m_84 r_22 (by decide) rfl kn_61)
  have kn_126 : g_77.2.1 rl 3 = .int rz := (Sm.v m_84 r_25 (by decide) rfl kn_62)
  have kn_127 : g_77.2.1 om 30 = .int rz := (Sm.v m_84 r_22 (by decide) rfl kn_63)
  have kn_128 : g_77.2.1 lg 3 = .int lz := (Sm.v m_84 r_26 (by decide) rfl kn_64)
  have kn_129 : g_77.2.1 om 24 = .int lz := (Sm.v m_84 r_22 (by decide) rfl kn_65)
  have kn_130 : g_77.2.1 tp 1 = .int z2_14 := (Sm.v m_84 r_23 (by decide) rfl f_15)
  refine W.eq (g2 := F0 m 199 ls [.int r_78]) rfl ?_
  refine lv_pop hx hb dL_law_199 rfl ?_
  refine lv_goto (tgt := 829) hx hb dL_law_200 (by decide) ?_
  have eq_u_67 : u_67 = u_2 := e_u_67.trans ((congrArg xs (i_nt (by omega))).trans e_u_2.symm)
  have eqi_u_67 : u_67.toInt = u_2.toInt := congrArg Int32.toInt eq_u_67
  have eq_u_71 : u_71 = u_6 := e_u_71.trans ((congrArg xs (i_nt (by omega))).trans e_u_6.symm)
  have eqi_u_71 : u_71.toInt = u_6.toInt := congrArg Int32.toInt eq_u_71
  have eq_u_76 : u_76 = u_11 := e_u_76.trans ((congrArg xs (i_nt (by omega))).trans e_u_11.symm)
  have eqi_u_76 : u_76.toInt = u_11.toInt := congrArg Int32.toInt eq_u_76
  have ew_ : z_74 = z_9 := by rw [ez_74, ez_73, ez_72, ez_69, ez_68, eq_u_67, eq_u_71, ez_9, ez_8, ez_7, ez_4, ez_3]
  have er_131 := f_82
  try rw [eq_u_67] at er_131
  try rw [eq_u_71] at er_131
  try rw [eq_u_76] at er_131
  have hub_ : z2_14.toInt ≤ 100 ∧ 0 ≤ z2_14.toInt := (by have q_ := f_17; unfold fdK at q_; omega)
  have hfm_ := f_83
  rw [ew_, eq_u_76] at hfm_
  have hfc_ := FD.sm f_18 m_84 r_27 (by decide) rfl
  refine W.widen (k := cells + 4) (n := slots + 28) (by omega) (by omega) ?_
  exact K g_77 o1 z2_14 sv rz lz H locs hT hI r_86 r_87 kn_110 (by have e0_ : (0 : Int32).toInt = 0 := (by decide); omega) (by have e0_ : (0 : Int32).toInt = 0 := (by decide); omega) hw hN0 kn_111 r_88 kn_112 r_89 kn_113 r_90 kn_114 r_91 kn_115 r_92 n_101 kn_116 r_93 n_102 kn_117 r_94 n_103 kn_118 r_95 n_104 kn_119 r_96 n_105 kn_120 r_97 n_106 kn_121 r_98 n_107 kn_122 r_99 n_108 kn_123 r_100 n_109 kn_130 (f_80.trans (congrArg Value.int (i_inj (er_131.trans f_17.symm)))) (by have e0_ : (0 : Int32).toInt = 0 := (by decide); omega) (by have e0_ : (0 : Int32).toInt = 0 := (by decide); omega) kn_124 kn_125 (by have e0_ : (0 : Int32).toInt = 0 := (by decide); omega) (by have e0_ : (0 : Int32).toInt = 0 := (by decide); omega) kn_126 kn_127 (by have e0_ : (0 : Int32).toInt = 0 := (by decide); omega) (by have e0_ : (0 : Int32).toInt = 0 := (by decide); omega) kn_128 kn_129 (by have e0_ : (0 : Int32).toInt = 0 := (by decide); omega) (by have e0_ : (0 : Int32).toInt = 0 := (by decide); omega) (TE.fd (fun i_ hi_ => (hTE0 i_ hi_).trans (congrFun (Sm.cf m_19 r_ta (by decide) rfl).symm i_)) hfc_ hfm_ f_17) hWT hL0 hL1 hL2
set_option maxHeartbeats 4000000 in
set_option maxRecDepth 100000 in
/-- service -/
theorem law_1 {p : Program} {l : Launch} {e : Env} {s : State} {m : MethodId} {below : List Frame} {meth : Method} {c : Code} {D : va_G} {cI cZ cS cR : ClassId} {N0 : NT} {b L : Nat} {xs : Nat → Int32} (hB : Tz p s m meth c #[Value.ref b] code 4 RL D cI cZ cS cR N0) (hAs : N0.1 = s.heap.size) (hX : va_X b L xs s s.heap) (hbl : b < s.heap.size) (hL : L ≤ 2560) (hr : meth.sig.returnType = ret) {cells slots : Nat} (hcl : cells + 4 ≤ 600000) (hsl : slots + 28 ≤ 7302250) {H : Heap} {locs : List Loc} {ls : Array Slot} (g : GS) (ox om : Nat) (tp : Nat) (nw : Nat) (rl : Nat) (lg : Nat) (ba : Nat) (ta : Nat) (wt : Nat) (y0 : Nat) (y1 : Nat) (y2 : Nat) (m0 : Nat) (m1 : Nat) (m2 : Nat) (i o1 tz sv rz lz : Int32) (hT : Tv D cI cZ cS cR N0 s.heap H locs g) (hI : Inv g) (l_i : 0 ≤ i.toInt) (u_i : i.toInt + 5 ≤ L) : g.1 ox = 7 → g.1 om = 8 → g.2.1 om 22 = .int o1 → 0 ≤ o1.toInt → o1.toInt ≤ 12 * i.toInt → PX 48 2 3 71 72 g om → PX 8 39 40 84 85 g om → g.2.1 ox 0 = .ref tp → g.1 tp = 5 → g.2.1 ox 1 = .ref nw → g.1 nw = 19 → g.2.1 ox 2 = .ref rl → g.1 rl = 1 → g.2.1 ox 3 = .ref lg → g.1 lg = 9 → g.2.1 tp 0 = .ref ba → g.1 ba = 67 → g.2.2.1 ba = 100 → g.2.1 om 28 = .ref ta → g.1 ta = 79 → g.2.2.1 ta = 100 → g.2.1 om 42 = .ref wt → g.1 wt = 87 → g.2.2.1 wt = 24 → g.2.1 lg 0 = .ref y0 → g.1 y0 = 64 → g.2.2.1 y0 = 20 → g.2.1 lg 1 = .ref y1 → g.1 y1 = 65 → g.2.2.1 y1 = 20 → g.2.1 lg 2 = .ref y2 → g.1 y2 = 66 → g.2.2.1 y2 = 20 → g.2.1 om 25 = .ref m0 → g.1 m0 = 76 → g.2.2.1 m0 = 20 → g.2.1 om 26 = .ref m1 → g.1 m1 = 77 → g.2.2.1 m1 = 20 → g.2.1 om 27 = .ref m2 → g.1 m2 = 78 → g.2.2.1 m2 = 20 → g.2.1 tp 1 = .int tz → g.2.1 om 29 = .int tz → 0 ≤ tz.toInt → tz.toInt ≤ 100 → g.2.1 nw 1 = .int sv → g.2.1 om 0 = .int sv → 0 ≤ sv.toInt → sv.toInt ≤ 6 → g.2.1 rl 3 = .int rz → g.2.1 om 30 = .int rz → 0 ≤ rz.toInt → rz.toInt ≤ 6 → g.2.1 lg 3 = .int lz → g.2.1 om 24 = .int lz → 0 ≤ lz.toInt → lz.toInt ≤ 20 → TE g ba ta tz.toInt → WT g wt → TE g y0 m0 lz.toInt → TE g y1 m1 lz.toInt → TE g y2 m2 lz.toInt → (hl : lv_has ls 4 [(3, .int i), (2, .ref om), (1, .ref ox), (0, .ref b)]) → (K : ∀ (g1 : GS) (o1_1 tz_1 sv_1 rz_1 lz_1 : Int32) (H1 : Heap) (locs1 : List Loc), Tv D cI cZ cS cR N0 s.heap H1 locs1 g1 → Inv g1 → g1.1 ox = 7 → g1.1 om = 8 → g1.2.1 om 22 = .int o1_1 → 0 ≤ o1_1.toInt → o1_1.toInt ≤ 12 * i.toInt + 60 → PX 48 2 3 71 72 g1 om → PX 8 39 40 84 85 g1 om → g1.2.1 ox 0 = .ref tp → g1.1 tp = 5 → g1.2.1 ox 1 = .ref nw → g1.1 nw = 19 → g1.2.1 ox 2 = .ref rl → g1.1 rl = 1 → g1.2.1 ox 3 = .ref lg → g1.1 lg = 9 → g1.2.1 tp 0 = .ref ba → g1.1 ba = 67 → g1.2.2.1 ba = 100 → g1.2.1 om 28 = .ref ta → g1.1 ta = 79 → g1.2.2.1 ta = 100 → g1.2.1 om 42 = .ref wt → g1.1 wt = 87 → g1.2.2.1 wt = 24 → g1.2.1 lg 0 = .ref y0 → g1.1 y0 = 64 → g1.2.2.1 y0 = 20 → g1.2.1 lg 1 = .ref y1 → g1.1 y1 = 65 → g1.2.2.1 y1 = 20 → g1.2.1 lg 2 = .ref y2 → g1.1 y2 = 66 → g1.2.2.1 y2 = 20 → g1.2.1 om 25 = .ref m0 → g1.1 m0 = 76 → g1.2.2.1 m0 = 20 → g1.2.1 om 26 = .ref m1 → g1.1 m1 = 77 → g1.2.2.1 m1 = 20 → g1.2.1 om 27 = .ref m2 → g1.1 m2 = 78 → g1.2.2.1 m2 = 20 → g1.2.1 tp 1 = .int tz_1 → g1.2.1 om 29 = .int tz_1 → 0 ≤ tz_1.toInt → tz_1.toInt ≤ 100 → g1.2.1 nw 1 = .int sv_1 → g1.2.1 om 0 = .int sv_1 → 0 ≤ sv_1.toInt → sv_1.toInt ≤ 6 → g1.2.1 rl 3 = .int rz_1 → g1.2.1 om 30 = .int rz_1 → 0 ≤ rz_1.toInt → rz_1.toInt ≤ 6 → g1.2.1 lg 3 = .int lz_1 → g1.2.1 om 24 = .int lz_1 → 0 ≤ lz_1.toInt → lz_1.toInt ≤ 20 → TE g1 ba ta tz_1.toInt → WT g1 wt → TE g1 y0 m0 lz_1.toInt → TE g1 y1 m1 lz_1.toInt → TE g1 y2 m2 lz_1.toInt → W p l e room_1 s m #[Value.ref b] below meth c H1 locs1 (cells + 4) (slots + 28) (lw_Z below #[Value.ref b] s) (F0 m 829 ls [])) → W p l e room_1 s m #[Value.ref b] below meth c H locs cells slots (lw_Z below #[Value.ref b] s) (F0 m 203 ls []) := by
  intro r_ox r_om ko l_o u_o hw hN0 k_tp r_tp k_nw r_nw k_rl r_rl k_lg r_lg k_ba r_ba n_ba k_ta r_ta n_ta k_wt r_wt n_wt k_y0 r_y0 n_y0 k_y1 r_y1 n_y1 k_y2 r_y2 n_y2 k_m0 r_m0 n_m0 k_m1 r_m1 n_m1 k_m2 r_m2 n_m2 kc_tz km_tz l_tz u_tz kc_sv km_sv l_sv u_sv kc_rz km_rz l_rz u_rz kc_lz km_lz l_lz u_lz hTE hWT hL0 hL1 hL2 hl K
  have hx := hB.1
  have hb := hB.2.1
  have hE : Ex g g := Ex.rf
  have hM : Sm mdA g g := sm_all
  have hTE0 := hTE
  have hL00 := hL0
  have hL10 := hL1
  have hL20 := hL2
  refine lv_aload_n hx hb dL_law_203 rfl (lv_at hl 2 rfl) ?_
  refine t_callV (n := 0) (As := []) (rest := []) (ci := 6) hB hT hl.1 (P_service l D cI cZ cS cR N0 g hI ox tp tz ba (g.2.2.2.1 ba) nw sv r_ox r_tp r_ba n_ba r_nw k_tp kc_tz k_ba k_nw kc_sv (by omega) (by omega) rfl (by omega) (by omega)) (ro_ci r_ox rfl) rfl k_342 k_57 k_339 k_340 k_341 (by decide +kernel) ⟨(Nat.le_of_ble_eq_true rfl), (Nat.le_of_ble_eq_true rfl)⟩ rfl (Nat.le_of_ble_eq_true rfl) ⟨(by show _ ≤ _; first | exact Nat.le_of_ble_eq_true rfl | (simp only [room_1]; omega)), (by show _ ≤ _; first | exact Nat.le_of_ble_eq_true rfl | (simp only [room_1]; omega))⟩ dL_law_204 (fun v g_1 H locs hp hT => ?_)
  obtain ⟨r_2, z2_3, s2_4, rfl, hI, x_11, m_10, f_5, f_6, f_7, f_8, f_9⟩ := hp
  have hw : PX 48 2 3 71 72 g_1 om := hw.mono m_10 x_11 r_om (by decide) (by decide) rfl rfl rfl rfl
  have hN0 : PX 8 39 40 84 85 g_1 om := hN0.mono m_10 x_11 r_om (by decide) (by decide) rfl rfl rfl rfl
  have hTE : TE g_1 ba ta tz.toInt := hTE.sm m_10 r_ba (by decide) rfl r_ta (by decide) rfl
  have hWT : WT g_1 wt := hWT.sm m_10 r_wt (by decide) rfl
  have hL0 : TE g_1 y0 m0 lz.toInt := hL0.sm m_10 r_y0 (by decide) rfl r_m0 (by decide) rfl
  have hL1 : TE g_1 y1 m1 lz.toInt := hL1.sm m_10 r_y1 (by decide) rfl r_m1 (by decide) rfl
  have hL2 : TE g_1 y2 m2 lz.toInt := hL2.sm m_10 r_y2 (by decide) rfl r_m2 (by decide) rfl
  have hM : Sm mdA g g_1 := sm_all
  have hE : Ex g g_1 := hE.tr x_11
  have r_12 : g_1.1 ox = 7 := (Ex.r x_11 r_ox (by decide))
  have r_13 : g_1.1 om = 8 := (Ex.r x_11 r_om (by decide))
  have r_14 : g_1.1 tp = 5 := (Ex.r x_11 r_tp (by decide))
  have r_15 : g_1.1 nw = 19 := (Ex.r x_11 r_nw (by decide))
  have r_16 : g_1.1 rl = 1 := (Ex.r x_11 r_rl (by decide))
  have r_17 : g_1.1 lg = 9 := (Ex.r x_11 r_lg (by decide))
  have r_18 : g_1.1 ba = 67 := (Ex.r x_11 r_ba (by decide))
  have r_19 : g_1.1 ta = 79 := (Ex.r x_11 r_ta (by decide))
  have r_20 : g_1.1 wt = 87 := (Ex.r x_11 r_wt (by decide))
  have r_21 : g_1.1 y0 = 64 := (Ex.r x_11 r_y0 (by decide))
  have r_22 : g_1.1 y1 = 65 := (Ex.r x_11 r_y1 (by decide))
  have r_23 : g_1.1 y2 = 66 := (Ex.r x_11 r_y2 (by decide))
  have r_24 : g_1.1 m0 = 76 := (Ex.r x_11 r_m0 (by decide))
  have r_25 : g_1.1 m1 = 77 := (Ex.r x_11 r_m1 (by decide))
  have r_26 : g_1.1 m2 = 78 := (Ex.r x_11 r_m2 (by decide))
  have n_27 : g_1.2.2.1 ba = 100 := (Ex.n x_11 r_ba (by decide) n_ba)
  have n_28 : g_1.2.2.1 ta = 100 := (Ex.n x_11 r_ta (by decide) n_ta)
  have n_29 : g_1.2.2.1 wt = 24 := (Ex.n x_11 r_wt (by decide) n_wt)
  have n_30 : g_1.2.2.1 y0 = 20 := (Ex.n x_11 r_y0 (by decide) n_y0)
  have n_31 : g_1.2.2.1 y1 = 20 := (Ex.n x_11 r_y1 (by decide) n_y1)
  have n_32 : g_1.2.2.1 y2 = 20 := (Ex.n x_11 r_y2 (by decide) n_y2)
  have n_33 : g_1.2.2.1 m0 = 20 := (Ex.n x_11 r_m0 (by decide) n_m0)
  have n_34 : g_1.2.2.1 m1 = 20 := (Ex.n x_11 r_m1 (by decide) n_m1)
  have n_35 : g_1.2.2.1 m2 = 20 := (Ex.n x_11 r_m2 (by decide) n_m2)
  have kn_36 : g_1.2.1 om 22 = .int o1 := (Sm.v m_10 r_om (by decide) rfl ko)
  have kn_37 : g_1.2.1 ox 0 = .ref tp := (Sm.v m_10 r_ox (by decide) rfl k_tp)
  have kn_38 : g_1.2.1 ox 1 = .ref nw := (Sm.v m_10 r_ox (by decide) rfl k_nw)
  have kn_39 : g_1.2.1 ox 2 = .ref rl := (Sm.v m_10 r_ox (by decide) rfl k_rl)
  have kn_40 : g_1.2.1 ox 3 = .ref lg := (Sm.v m_10 r_ox (by decide) rfl k_lg)
  have kn_41 : g_1.2.1 tp 0 = .ref ba := (Sm.v m_10 r_tp (by decide) rfl k_ba)
  have kn_42 : g_1.2.1 om 28 = .ref ta := (Sm.v m_10 r_om (by decide) rfl k_ta)
  have kn_43 : g_1.2.1 om 42 = .ref wt := (Sm.v m_10 r_om (by decide) rfl k_wt)
  have kn_44 : g_1.2.1 lg 0 = .ref y0 := (Sm.v m_10 r_lg (by decide) rfl k_y0)
  have kn_45 : g_1.2.1 lg 1 = .ref y1 := (Sm.v m_10 r_lg (by decide) rfl k_y1)
  have kn_46 : g_1.2.1 lg 2 = .ref y2 := (Sm.v m_10 r_lg (by decide) rfl k_y2)
  have kn_47 : g_1.2.1 om 25 = .ref m0 := (Sm.v m_10 r_om (by decide) rfl k_m0)
  have kn_48 : g_1.2.1 om 26 = .ref m1 := (Sm.v m_10 r_om (by decide) rfl k_m1)
  have kn_49 : g_1.2.1 om 27 = .ref m2 := (Sm.v m_10 r_om (by decide) rfl k_m2)
  have kn_50 : g_1.2.1 om 29 = .int tz := (Sm.v m_10 r_om (by decide) rfl km_tz)
  have kn_51 : g_1.2.1 om 0 = .int sv := (Sm.v m_10 r_om (by decide) rfl km_sv)
  have kn_52 : g_1.2.1 rl 3 = .int rz := (Sm.v m_10 r_rl (by decide) rfl kc_rz)
  have kn_53 : g_1.2.1 om 30 = .int rz := (Sm.v m_10 r_om (by decide) rfl km_rz)
  have kn_54 : g_1.2.1 lg 3 = .int lz := (Sm.v m_10 r_lg (by decide) rfl kc_lz)
  have kn_55 : g_1.2.1 om 24 = .int lz := (Sm.v m_10 r_om (by decide) rfl km_lz)
  refine W.eq (g2 := F0 m 207 ls [.int r_2]) rfl ?_
  refine lv_pop hx hb dL_law_207 rfl ?_
  refine lv_aload_n hx hb dL_law_208 rfl (lv_at hl 1 rfl) ?_
  refine t_callV (n := 0) (As := []) (rest := []) (ci := 7) hB hT hl.1 (m_service l D cI cZ cS cR N0 g_1 hI om sv wt tz ta (g_1.2.2.2.1 ta) r_13 r_20 n_29 r_19 n_28 kn_51 kn_43 kn_50 kn_42 hw hN0 (by omega) (by omega) hWT (by omega) (by omega) rfl) (ro_ci r_13 rfl) rfl k_959 k_65 k_956 k_957 k_958 (by decide +kernel) ⟨(Nat.le_of_ble_eq_true rfl), (Nat.le_of_ble_eq_true rfl)⟩ rfl (Nat.le_of_ble_eq_true rfl) ⟨(by show _ ≤ _; first | exact Nat.le_of_ble_eq_true rfl | (simp only [room_1]; omega)), (by show _ ≤ _; first | exact Nat.le_of_ble_eq_true rfl | (simp only [room_1]; omega))⟩ dL_law_209 (fun v g_56 H locs hp hT => ?_)
  obtain ⟨r_57, z2_58, s2_59, rfl, hI, x_68, m_67, f_60, f_61, f_62, f_63, f_64, f_65, f_66⟩ := hp
  have hTE : TE g_56 ba ta tz.toInt := hTE.sm m_67 r_18 (by decide) rfl r_19 (by decide) rfl
  have hWT : WT g_56 wt := hWT.sm m_67 r_20 (by decide) rfl
  have hL0 : TE g_56 y0 m0 lz.toInt := hL0.sm m_67 r_21 (by decide) rfl r_24 (by decide) rfl
  have hL1 : TE g_56 y1 m1 lz.toInt := hL1.sm m_67 r_22 (by decide) rfl r_25 (by decide) rfl
  have hL2 : TE g_56 y2 m2 lz.toInt := hL2.sm m_67 r_23 (by decide) rfl r_26 (by decide) rfl
  have hM : Sm mdA g g_56 := sm_all
  have hE : Ex g g_56 := hE.tr x_68
  have r_69 : g_56.1 ox = 7 := (Ex.r x_68 r_12 (by decide))
  have r_70 : g_56.1 om = 8 := (Ex.r x_68 r_13 (by decide))
  have r_71 : g_56.1 tp = 5 := (Ex.r x_68 r_14 (by decide))
  have r_72 : g_56.1 nw = 19 := (Ex.r x_68 r_15 (by decide))
  have r_73 : g_56.1 rl = 1 := (Ex.r x_68 r_16 (by decide))
  have r_74 : g_56.1 lg = 9 := (Ex.r x_68 r_17 (by decide))
  have r_75 : g_56.1 ba = 67 := (Ex.r x_68 r_18 (by decide))
  have r_76 : g_56.1 ta = 79 := (Ex.r x_68 r_19 (by decide))
  have r_77 : g_56.1 wt = 87 := (Ex.r x_68 r_20 (by decide))
  have r_78 : g_56.1 y0 = 64 := (Ex.r x_68 r_21 (by decide))
  have r_79 : g_56.1 y1 = 65 := (Ex.r x_68 r_22 (by decide))
  have r_80 : g_56.1 y2 = 66 := (Ex.r x_68 r_23 (by decide))
  have r_81 : g_56.1 m0 = 76 := (Ex.r x_68 r_24 (by decide))
  have r_82 : g_56.1 m1 = 77 := (Ex.r x_68 r_25 (by decide))
  have r_83 : g_56.1 m2 = 78 := (Ex.r x_68 r_26 (by decide))
  have n_84 : g_56.2.2.1 ba = 100 := (Ex.n x_68 r_18 (by decide) n_27)
  have n_85 : g_56.2.2.1 ta = 100 := (Ex.n x_68 r_19 (by decide) n_28)
  have n_86 : g_56.2.2.1 wt = 24 := (Ex.n x_68 r_20 (by decide) n_29)
  have n_87 : g_56.2.2.1 y0 = 20 := (Ex.n x_68 r_21 (by decide) n_30)
  have n_88 : g_56.2.2.1 y1 = 20 := (Ex.n x_68 r_22 (by decide) n_31)
  have n_89 : g_56.2.2.1 y2 = 20 := (Ex.n x_68 r_23 (by decide) n_32)
  have n_90 : g_56.2.2.1 m0 = 20 := (Ex.n x_68 r_24 (by decide) n_33)
  have n_91 : g_56.2.2.1 m1 = 20 := (Ex.n x_68 r_25 (by decide) n_34)
  have n_92 : g_56.2.2.1 m2 = 20 := (Ex.n x_68 r_26 (by decide) n_35)
  have kn_93 : g_56.2.1 om 22 = .int o1 := (Sm.v m_67 r_13 (by decide) rfl kn_36)
  have kn_94 : g_56.2.1 ox 0 = .ref tp := (Sm.v m_67 r_12 (by decide) rfl kn_37)
  have kn_95 : g_56.2.1 ox 1 = .ref nw := (Sm.v m_67 r_12 (by decide) rfl kn_38)
  have kn_96 : g_56.2.1 ox 2 = .ref rl := (Sm.v m_67 r_12 (by decide) rfl kn_39)
  have kn_97 : g_56.2.1 ox 3 = .ref lg := (Sm.v m_67 r_12 (by decide) rfl kn_40)
  have kn_98 : g_56.2.1 tp 0 = .ref ba := (Sm.v m_67 r_14 (by decide) rfl kn_41)
  have kn_99 : g_56.2.1 om 28 = .ref ta := (Sm.v m_67 r_13 (by decide) rfl kn_42)
  have kn_100 : g_56.2.1 om 42 = .ref wt := (Sm.v m_67 r_13 (by decide) rfl kn_43)
  have kn_101 : g_56.2.1 lg 0 = .ref y0 := (Sm.v m_67 r_17 (by decide) rfl kn_44)
  have kn_102 : g_56.2.1 lg 1 = .ref y1 := (Sm.v m_67 r_17 (by decide) rfl kn_45)
  have kn_103 : g_56.2.1 lg 2 = .ref y2 := (Sm.v m_67 r_17 (by decide) rfl kn_46)
  have kn_104 : g_56.2.1 om 25 = .ref m0 := (Sm.v m_67 r_13 (by decide) rfl kn_47)
  have kn_105 : g_56.2.1 om 26 = .ref m1 := (Sm.v m_67 r_13 (by decide) rfl kn_48)
  have kn_106 : g_56.2.1 om 27 = .ref m2 := (Sm.v m_67 r_13 (by decide) rfl kn_49)
  have kn_107 : g_56.2.1 rl 3 = .int rz := (Sm.v m_67 r_16 (by decide) rfl kn_52)
  have kn_108 : g_56.2.1 om 30 = .int rz := (Sm.v m_67 r_13 (by decide) rfl kn_53)
  have kn_109 : g_56.2.1 lg 3 = .int lz := (Sm.v m_67 r_17 (by decide) rfl kn_54)
  have kn_110 : g_56.2.1 om 24 = .int lz := (Sm.v m_67 r_13 (by decide) rfl kn_55)
  have kn_111 : g_56.2.1 tp 1 = .int z2_3 := (Sm.v m_67 r_14 (by decide) rfl f_5)
  have kn_112 : g_56.2.1 nw 1 = .int s2_4 := (Sm.v m_67 r_15 (by decide) rfl f_6)
  refine W.eq (g2 := F0 m 212 ls [.int r_57]) rfl ?_
  have hw := f_60
  have hN0 := f_61
  refine lv_pop hx hb dL_law_212 rfl ?_
  refine lv_goto (tgt := 829) hx hb dL_law_213 (by decide) ?_
  have hTx_ : txb (g.2.2.2.1 ba) tz.toInt = txb (g_1.2.2.2.1 ta) tz.toInt := tb_eq (fun i_ hi_ => (hTE0 i_ hi_).trans (congrFun (Sm.cf m_10 r_ta (by decide) rfl).symm i_))
  have er_113 := f_66
  try rw [← hTx_] at er_113
  have hub_ : z2_3.toInt ≤ 100 ∧ 0 ≤ z2_3.toInt ∧ z2_3.toInt ≤ tz.toInt := (by have q_ := f_9; unfold svZ at q_; omega)
  have er_114 := f_65
  try rw [← hTx_] at er_114
  have hus_ : s2_4.toInt ≤ 6 ∧ 0 ≤ s2_4.toInt := (by have q_ := f_8; unfold svS at q_; omega)
  refine W.widen (k := cells + 4) (n := slots + 28) (by omega) (by omega) ?_
  exact K g_56 o1 z2_3 s2_4 rz lz H locs hT hI r_69 r_70 kn_93 (by have e0_ : (0 : Int32).toInt = 0 := (by decide); omega) (by have e0_ : (0 : Int32).toInt = 0 := (by decide); omega) hw hN0 kn_94 r_71 kn_95 r_72 kn_96 r_73 kn_97 r_74 kn_98 r_75 n_84 kn_99 r_76 n_85 kn_100 r_77 n_86 kn_101 r_78 n_87 kn_102 r_79 n_88 kn_103 r_80 n_89 kn_104 r_81 n_90 kn_105 r_82 n_91 kn_106 r_83 n_92 kn_111 (f_62.trans (congrArg Value.int (i_inj (er_113.trans f_9.symm)))) (by have e0_ : (0 : Int32).toInt = 0 := (by decide); omega) (by have e0_ : (0 : Int32).toInt = 0 := (by decide); omega) kn_112 (f_63.trans (congrArg Value.int (i_inj (er_114.trans f_8.symm)))) (by have e0_ : (0 : Int32).toInt = 0 := (by decide); omega) (by have e0_ : (0 : Int32).toInt = 0 := (by decide); omega) kn_107 kn_108 (by have e0_ : (0 : Int32).toInt = 0 := (by decide); omega) (by have e0_ : (0 : Int32).toInt = 0 := (by decide); omega) kn_109 kn_110 (by have e0_ : (0 : Int32).toInt = 0 := (by decide); omega) (by have e0_ : (0 : Int32).toInt = 0 := (by decide); omega) (hTE.cast (by omega)) hWT hL0 hL1 hL2
set_option maxHeartbeats 4000000 in
set_option maxRecDepth 100000 in
/-- change -/
theorem law_2 {p : Program} {l : Launch} {e : Env} {s : State} {m : MethodId} {below : List Frame} {meth : Method} {c : Code} {D : va_G} {cI cZ cS cR : ClassId} {N0 : NT} {b L : Nat} {xs : Nat → Int32} (hB : Tz p s m meth c #[Value.ref b] code 4 RL D cI cZ cS cR N0) (hAs : N0.1 = s.heap.size) (hX : va_X b L xs s s.heap) (hbl : b < s.heap.size) (hL : L ≤ 2560) (hr : meth.sig.returnType = ret) {cells slots : Nat} (hcl : cells + 4 ≤ 600000) (hsl : slots + 28 ≤ 7302250) {H : Heap} {locs : List Loc} {ls : Array Slot} (g : GS) (ox om : Nat) (tp : Nat) (nw : Nat) (rl : Nat) (lg : Nat) (ba : Nat) (ta : Nat) (wt : Nat) (y0 : Nat) (y1 : Nat) (y2 : Nat) (m0 : Nat) (m1 : Nat) (m2 : Nat) (i o1 tz sv rz lz : Int32) (hT : Tv D cI cZ cS cR N0 s.heap H locs g) (hI : Inv g) (l_i : 0 ≤ i.toInt) (u_i : i.toInt + 5 ≤ L) : g.1 ox = 7 → g.1 om = 8 → g.2.1 om 22 = .int o1 → 0 ≤ o1.toInt → o1.toInt ≤ 12 * i.toInt → PX 48 2 3 71 72 g om → PX 8 39 40 84 85 g om → g.2.1 ox 0 = .ref tp → g.1 tp = 5 → g.2.1 ox 1 = .ref nw → g.1 nw = 19 → g.2.1 ox 2 = .ref rl → g.1 rl = 1 → g.2.1 ox 3 = .ref lg → g.1 lg = 9 → g.2.1 tp 0 = .ref ba → g.1 ba = 67 → g.2.2.1 ba = 100 → g.2.1 om 28 = .ref ta → g.1 ta = 79 → g.2.2.1 ta = 100 → g.2.1 om 42 = .ref wt → g.1 wt = 87 → g.2.2.1 wt = 24 → g.2.1 lg 0 = .ref y0 → g.1 y0 = 64 → g.2.2.1 y0 = 20 → g.2.1 lg 1 = .ref y1 → g.1 y1 = 65 → g.2.2.1 y1 = 20 → g.2.1 lg 2 = .ref y2 → g.1 y2 = 66 → g.2.2.1 y2 = 20 → g.2.1 om 25 = .ref m0 → g.1 m0 = 76 → g.2.2.1 m0 = 20 → g.2.1 om 26 = .ref m1 → g.1 m1 = 77 → g.2.2.1 m1 = 20 → g.2.1 om 27 = .ref m2 → g.1 m2 = 78 → g.2.2.1 m2 = 20 → g.2.1 tp 1 = .int tz → g.2.1 om 29 = .int tz → 0 ≤ tz.toInt → tz.toInt ≤ 100 → g.2.1 nw 1 = .int sv → g.2.1 om 0 = .int sv → 0 ≤ sv.toInt → sv.toInt ≤ 6 → g.2.1 rl 3 = .int rz → g.2.1 om 30 = .int rz → 0 ≤ rz.toInt → rz.toInt ≤ 6 → g.2.1 lg 3 = .int lz → g.2.1 om 24 = .int lz → 0 ≤ lz.toInt → lz.toInt ≤ 20 → TE g ba ta tz.toInt → WT g wt → TE g y0 m0 lz.toInt → TE g y1 m1 lz.toInt → TE g y2 m2 lz.toInt → (hl : lv_has ls 4 [(3, .int i), (2, .ref om), (1, .ref ox), (0, .ref b)]) → (K : ∀ (g1 : GS) (o1_1 tz_1 sv_1 rz_1 lz_1 : Int32) (H1 : Heap) (locs1 : List Loc), Tv D cI cZ cS cR N0 s.heap H1 locs1 g1 → Inv g1 → g1.1 ox = 7 → g1.1 om = 8 → g1.2.1 om 22 = .int o1_1 → 0 ≤ o1_1.toInt → o1_1.toInt ≤ 12 * i.toInt + 60 → PX 48 2 3 71 72 g1 om → PX 8 39 40 84 85 g1 om → g1.2.1 ox 0 = .ref tp → g1.1 tp = 5 → g1.2.1 ox 1 = .ref nw → g1.1 nw = 19 → g1.2.1 ox 2 = .ref rl → g1.1 rl = 1 → g1.2.1 ox 3 = .ref lg → g1.1 lg = 9 → g1.2.1 tp 0 = .ref ba → g1.1 ba = 67 → g1.2.2.1 ba = 100 → g1.2.1 om 28 = .ref ta → g1.1 ta = 79 → g1.2.2.1 ta = 100 → g1.2.1 om 42 = .ref wt → g1.1 wt = 87 → g1.2.2.1 wt = 24 → g1.2.1 lg 0 = .ref y0 → g1.1 y0 = 64 → g1.2.2.1 y0 = 20 → g1.2.1 lg 1 = .ref y1 → g1.1 y1 = 65 → g1.2.2.1 y1 = 20 → g1.2.1 lg 2 = .ref y2 → g1.1 y2 = 66 → g1.2.2.1 y2 = 20 → g1.2.1 om 25 = .ref m0 → g1.1 m0 = 76 → g1.2.2.1 m0 = 20 → g1.2.1 om 26 = .ref m1 → g1.1 m1 = 77 → g1.2.2.1 m1 = 20 → g1.2.1 om 27 = .ref m2 → g1.1 m2 = 78 → g1.2.2.1 m2 = 20 → g1.2.1 tp 1 = .int tz_1 → g1.2.1 om 29 = .int tz_1 → 0 ≤ tz_1.toInt → tz_1.toInt ≤ 100 → g1.2.1 nw 1 = .int sv_1 → g1.2.1 om 0 = .int sv_1 → 0 ≤ sv_1.toInt → sv_1.toInt ≤ 6 → g1.2.1 rl 3 = .int rz_1 → g1.2.1 om 30 = .int rz_1 → 0 ≤ rz_1.toInt → rz_1.toInt ≤ 6 → g1.2.1 lg 3 = .int lz_1 → g1.2.1 om 24 = .int lz_1 → 0 ≤ lz_1.toInt → lz_1.toInt ≤ 20 → TE g1 ba ta tz_1.toInt → WT g1 wt → TE g1 y0 m0 lz_1.toInt → TE g1 y1 m1 lz_1.toInt → TE g1 y2 m2 lz_1.toInt → W p l e room_1 s m #[Value.ref b] below meth c H1 locs1 (cells + 4) (slots + 28) (lw_Z below #[Value.ref b] s) (F0 m 829 ls [])) → W p l e room_1 s m #[Value.ref b] below meth c H locs cells slots (lw_Z below #[Value.ref b] s) (F0 m 216 ls []) := by
  intro r_ox r_om ko l_o u_o hw hN0 k_tp r_tp k_nw r_nw k_rl r_rl k_lg r_lg k_ba r_ba n_ba k_ta r_ta n_ta k_wt r_wt n_wt k_y0 r_y0 n_y0 k_y1 r_y1 n_y1 k_y2 r_y2 n_y2 k_m0 r_m0 n_m0 k_m1 r_m1 n_m1 k_m2 r_m2 n_m2 kc_tz km_tz l_tz u_tz kc_sv km_sv l_sv u_sv kc_rz km_rz l_rz u_rz kc_lz km_lz l_lz u_lz hTE hWT hL0 hL1 hL2 hl K
  have hx := hB.1
  have hb := hB.2.1
  have hE : Ex g g := Ex.rf
  have hM : Sm mdA g g := sm_all
  have hTE0 := hTE
  have hL00 := hL0
  have hL10 := hL1
  have hL20 := hL2
  refine lv_aload_n hx hb dL_law_216 rfl (lv_at hl 2 rfl) ?_
  refine lv_aload_n hx hb dL_law_217 rfl (lv_at hl 3 rfl) ?_
  refine lv_iload_n hx hb dL_law_218 rfl (lv_at hl 0 rfl) ?_
  refine lv_iconst (v := 1) hx hb dL_law_219 (by decide) ?_
  refine lv_iadd hx hb dL_law_220 ?_
  refine lv_topi (fun z_1 ez_1 => ?_)
  have e_z_1 : z_1.toInt = i.toInt + 1 := i_add ez_1 rfl (by decide) (by omega) (by omega)
  refine va_sld hx hb hX hbl (fun q => by have q_ : N0.1 ≤ b := q; omega) hT.2 (i_in (n := L) rfl (by omega) (by omega)) dL_law_221 ?_
  refine lv_topi (fun u_2 e_u_2 => ?_)
  refine t_callV (n := 1) (As := [.int u_2]) (rest := []) (ci := 6) hB hT hl.1 (P_change l D cI cZ cS cR N0 g hI ox u_2 tp tz ba (g.2.2.2.1 ba) nw sv r_ox r_tp r_ba n_ba r_nw k_tp kc_tz k_ba k_nw kc_sv (by omega) (by omega) rfl (by omega) (by omega)) (ro_ci r_ox rfl) rfl k_432 k_57 k_429 k_430 k_431 (by decide +kernel) ⟨(Nat.le_of_ble_eq_true rfl), (Nat.le_of_ble_eq_true rfl)⟩ rfl (Nat.le_of_ble_eq_true rfl) ⟨(by show _ ≤ _; first | exact Nat.le_of_ble_eq_true rfl | (simp only [room_1]; omega)), (by show _ ≤ _; first | exact Nat.le_of_ble_eq_true rfl | (simp only [room_1]; omega))⟩ dL_law_222 (fun v g_3 H locs hp hT => ?_)
  obtain ⟨r_4, z2_5, rfl, hI, x_10, m_9, f_6, f_7, f_8⟩ := hp
  have hw : PX 48 2 3 71 72 g_3 om := hw.mono m_9 x_10 r_om (by decide) (by decide) rfl rfl rfl rfl
  have hN0 : PX 8 39 40 84 85 g_3 om := hN0.mono m_9 x_10 r_om (by decide) (by decide) rfl rfl rfl rfl
  have hTE : TE g_3 ba ta tz.toInt := hTE.sm m_9 r_ba (by decide) rfl r_ta (by decide) rfl
  have hWT : WT g_3 wt := hWT.sm m_9 r_wt (by decide) rfl
  have hL0 : TE g_3 y0 m0 lz.toInt := hL0.sm m_9 r_y0 (by decide) rfl r_m0 (by decide) rfl
  have hL1 : TE g_3 y1 m1 lz.toInt := hL1.sm m_9 r_y1 (by decide) rfl r_m1 (by decide) rfl
  have hL2 : TE g_3 y2 m2 lz.toInt := hL2.sm m_9 r_y2 (by decide) rfl r_m2 (by decide) rfl
  have hM : Sm mdA g g_3 := sm_all
  have hE : Ex g g_3 := hE.tr x_10
  have r_11 : g_3.1 ox = 7 := (Ex.r x_10 r_ox (by decide))
  have r_12 : g_3.1 om = 8 := (Ex.r x_10 r_om (by decide))
  have r_13 : g_3.1 tp = 5 := (Ex.r x_10 r_tp (by decide))
  have r_14 : g_3.1 nw = 19 := (Ex.r x_10 r_nw (by decide))
  have r_15 : g_3.1 rl = 1 := (Ex.r x_10 r_rl (by decide))
  have r_16 : g_3.1 lg = 9 := (Ex.r x_10 r_lg (by decide))
  have r_17 : g_3.1 ba = 67 := (Ex.r x_10 r_ba (by decide))
  have r_18 : g_3.1 ta = 79 := (Ex.r x_10 r_ta (by decide))
  have r_19 : g_3.1 wt = 87 := (Ex.r x_10 r_wt (by decide))
  have r_20 : g_3.1 y0 = 64 := (Ex.r x_10 r_y0 (by decide))
  have r_21 : g_3.1 y1 = 65 := (Ex.r x_10 r_y1 (by decide))
  have r_22 : g_3.1 y2 = 66 := (Ex.r x_10 r_y2 (by decide))
  have r_23 : g_3.1 m0 = 76 := (Ex.r x_10 r_m0 (by decide))
  have r_24 : g_3.1 m1 = 77 := (Ex.r x_10 r_m1 (by decide))
  have r_25 : g_3.1 m2 = 78 := (Ex.r x_10 r_m2 (by decide))
  have n_26 : g_3.2.2.1 ba = 100 := (Ex.n x_10 r_ba (by decide) n_ba)
  have n_27 : g_3.2.2.1 ta = 100 := (Ex.n x_10 r_ta (by decide) n_ta)
  have n_28 : g_3.2.2.1 wt = 24 := (Ex.n x_10 r_wt (by decide) n_wt)
  have n_29 : g_3.2.2.1 y0 = 20 := (Ex.n x_10 r_y0 (by decide) n_y0)
  have n_30 : g_3.2.2.1 y1 = 20 := (Ex.n x_10 r_y1 (by decide) n_y1)
  have n_31 : g_3.2.2.1 y2 = 20 := (Ex.n x_10 r_y2 (by decide) n_y2)
  have n_32 : g_3.2.2.1 m0 = 20 := (Ex.n x_10 r_m0 (by decide) n_m0)
  have n_33 : g_3.2.2.1 m1 = 20 := (Ex.n x_10 r_m1 (by decide) n_m1)
  have n_34 : g_3.2.2.1 m2 = 20 := (Ex.n x_10 r_m2 (by decide) n_m2)
  have kn_35 : g_3.2.1 om 22 = .int o1 := (Sm.v m_9 r_om (by decide) rfl ko)
  have kn_36 : g_3.2.1 ox 0 = .ref tp := (Sm.v m_9 r_ox (by decide) rfl k_tp)
  have kn_37 : g_3.2.1 ox 1 = .ref nw := (Sm.v m_9 r_ox (by decide) rfl k_nw)
  have kn_38 : g_3.2.1 ox 2 = .ref rl := (Sm.v m_9 r_ox (by decide) rfl k_rl)
  have kn_39 : g_3.2.1 ox 3 = .ref lg := (Sm.v m_9 r_ox (by decide) rfl k_lg)
  have kn_40 : g_3.2.1 tp 0 = .ref ba := (Sm.v m_9 r_tp (by decide) rfl k_ba)
  have kn_41 : g_3.2.1 om 28 = .ref ta := (Sm.v m_9 r_om (by decide) rfl k_ta)
  have kn_42 : g_3.2.1 om 42 = .ref wt := (Sm.v m_9 r_om (by decide) rfl k_wt)
  have kn_43 : g_3.2.1 lg 0 = .ref y0 := (Sm.v m_9 r_lg (by decide) rfl k_y0)
  have kn_44 : g_3.2.1 lg 1 = .ref y1 := (Sm.v m_9 r_lg (by decide) rfl k_y1)
  have kn_45 : g_3.2.1 lg 2 = .ref y2 := (Sm.v m_9 r_lg (by decide) rfl k_y2)
  have kn_46 : g_3.2.1 om 25 = .ref m0 := (Sm.v m_9 r_om (by decide) rfl k_m0)
  have kn_47 : g_3.2.1 om 26 = .ref m1 := (Sm.v m_9 r_om (by decide) rfl k_m1)
  have kn_48 : g_3.2.1 om 27 = .ref m2 := (Sm.v m_9 r_om (by decide) rfl k_m2)
  have kn_49 : g_3.2.1 om 29 = .int tz := (Sm.v m_9 r_om (by decide) rfl km_tz)
  have kn_50 : g_3.2.1 nw 1 = .int sv := (Sm.v m_9 r_nw (by decide) rfl kc_sv)
  have kn_51 : g_3.2.1 om 0 = .int sv := (Sm.v m_9 r_om (by decide) rfl km_sv)
  have kn_52 : g_3.2.1 rl 3 = .int rz := (Sm.v m_9 r_rl (by decide) rfl kc_rz)
  have kn_53 : g_3.2.1 om 30 = .int rz := (Sm.v m_9 r_om (by decide) rfl km_rz)
  have kn_54 : g_3.2.1 lg 3 = .int lz := (Sm.v m_9 r_lg (by decide) rfl kc_lz)
  have kn_55 : g_3.2.1 om 24 = .int lz := (Sm.v m_9 r_om (by decide) rfl km_lz)
  refine W.eq (g2 := F0 m 225 ls [.int r_4]) rfl ?_
  refine lv_pop hx hb dL_law_225 rfl ?_
  refine lv_aload_n hx hb dL_law_226 rfl (lv_at hl 1 rfl) ?_
  refine lv_aload_n hx hb dL_law_227 rfl (lv_at hl 3 rfl) ?_
  refine lv_iload_n hx hb dL_law_228 rfl (lv_at hl 0 rfl) ?_
  refine lv_iconst (v := 1) hx hb dL_law_229 (by decide) ?_
  refine lv_iadd hx hb dL_law_230 ?_
  refine lv_topi (fun z_56 ez_56 => ?_)
  have e_z_56 : z_56.toInt = i.toInt + 1 := i_add ez_56 rfl (by decide) (by omega) (by omega)
  refine va_sld hx hb hX hbl (fun q => by have q_ : N0.1 ≤ b := q; omega) hT.2 (i_in (n := L) rfl (by omega) (by omega)) dL_law_231 ?_
  refine lv_topi (fun u_57 e_u_57 => ?_)
  refine t_callV (n := 1) (As := [.int u_57]) (rest := []) (ci := 7) hB hT hl.1 (m_change l D cI cZ cS cR N0 g_3 hI om u_57 sv wt tz ta (g_3.2.2.2.1 ta) r_12 r_19 n_28 r_18 n_27 kn_51 kn_42 kn_49 kn_41 hw hN0 (by omega) (by omega) hWT (by omega) (by omega) rfl) (ro_ci r_12 rfl) rfl k_987 k_65 k_984 k_985 k_986 (by decide +kernel) ⟨(Nat.le_of_ble_eq_true rfl), (Nat.le_of_ble_eq_true rfl)⟩ rfl (Nat.le_of_ble_eq_true rfl) ⟨(by show _ ≤ _; first | exact Nat.le_of_ble_eq_true rfl | (simp only [room_1]; omega)), (by show _ ≤ _; first | exact Nat.le_of_ble_eq_true rfl | (simp only [room_1]; omega))⟩ dL_law_232 (fun v g_58 H locs hp hT => ?_)
  obtain ⟨r_59, z2_60, rfl, hI, x_67, m_66, f_61, f_62, f_63, f_64, f_65⟩ := hp
  have hTE : TE g_58 ba ta tz.toInt := hTE.sm m_66 r_17 (by decide) rfl r_18 (by decide) rfl
  have hWT : WT g_58 wt := hWT.sm m_66 r_19 (by decide) rfl
  have hL0 : TE g_58 y0 m0 lz.toInt := hL0.sm m_66 r_20 (by decide) rfl r_23 (by decide) rfl
  have hL1 : TE g_58 y1 m1 lz.toInt := hL1.sm m_66 r_21 (by decide) rfl r_24 (by decide) rfl
  have hL2 : TE g_58 y2 m2 lz.toInt := hL2.sm m_66 r_22 (by decide) rfl r_25 (by decide) rfl
  have hM : Sm mdA g g_58 := sm_all
  have hE : Ex g g_58 := hE.tr x_67
  have r_68 : g_58.1 ox = 7 := (Ex.r x_67 r_11 (by decide))
  have r_69 : g_58.1 om = 8 := (Ex.r x_67 r_12 (by decide))
  have r_70 : g_58.1 tp = 5 := (Ex.r x_67 r_13 (by decide))
  have r_71 : g_58.1 nw = 19 := (Ex.r x_67 r_14 (by decide))
  have r_72 : g_58.1 rl = 1 := (Ex.r x_67 r_15 (by decide))
  have r_73 : g_58.1 lg = 9 := (Ex.r x_67 r_16 (by decide))
  have r_74 : g_58.1 ba = 67 := (Ex.r x_67 r_17 (by decide))
  have r_75 : g_58.1 ta = 79 := (Ex.r x_67 r_18 (by decide))
  have r_76 : g_58.1 wt = 87 := (Ex.r x_67 r_19 (by decide))
  have r_77 : g_58.1 y0 = 64 := (Ex.r x_67 r_20 (by decide))
  have r_78 : g_58.1 y1 = 65 := (Ex.r x_67 r_21 (by decide))
  have r_79 : g_58.1 y2 = 66 := (Ex.r x_67 r_22 (by decide))
  have r_80 : g_58.1 m0 = 76 := (Ex.r x_67 r_23 (by decide))
  have r_81 : g_58.1 m1 = 77 := (Ex.r x_67 r_24 (by decide))
  have r_82 : g_58.1 m2 = 78 := (Ex.r x_67 r_25 (by decide))
  have n_83 : g_58.2.2.1 ba = 100 := (Ex.n x_67 r_17 (by decide) n_26)
  have n_84 : g_58.2.2.1 ta = 100 := (Ex.n x_67 r_18 (by decide) n_27)
  have n_85 : g_58.2.2.1 wt = 24 := (Ex.n x_67 r_19 (by decide) n_28)
  have n_86 : g_58.2.2.1 y0 = 20 := (Ex.n x_67 r_20 (by decide) n_29)
  have n_87 : g_58.2.2.1 y1 = 20 := (Ex.n x_67 r_21 (by decide) n_30)
  have n_88 : g_58.2.2.1 y2 = 20 := (Ex.n x_67 r_22 (by decide) n_31)
  have n_89 : g_58.2.2.1 m0 = 20 := (Ex.n x_67 r_23 (by decide) n_32)
  have n_90 : g_58.2.2.1 m1 = 20 := (Ex.n x_67 r_24 (by decide) n_33)
  have n_91 : g_58.2.2.1 m2 = 20 := (Ex.n x_67 r_25 (by decide) n_34)
  have kn_92 : g_58.2.1 om 22 = .int o1 := (Sm.v m_66 r_12 (by decide) rfl kn_35)
  have kn_93 : g_58.2.1 ox 0 = .ref tp := (Sm.v m_66 r_11 (by decide) rfl kn_36)
  have kn_94 : g_58.2.1 ox 1 = .ref nw := (Sm.v m_66 r_11 (by decide) rfl kn_37)
  have kn_95 : g_58.2.1 ox 2 = .ref rl := (Sm.v m_66 r_11 (by decide) rfl kn_38)
  have kn_96 : g_58.2.1 ox 3 = .ref lg := (Sm.v m_66 r_11 (by decide) rfl kn_39)
  have kn_97 : g_58.2.1 tp 0 = .ref ba := (Sm.v m_66 r_13 (by decide) rfl kn_40)
  have kn_98 : g_58.2.1 om 28 = .ref ta := (Sm.v m_66 r_12 (by decide) rfl kn_41)
  have kn_99 : g_58.2.1 om 42 = .ref wt := (Sm.v m_66 r_12 (by decide) rfl kn_42)
  have kn_100 : g_58.2.1 lg 0 = .ref y0 := (Sm.v m_66 r_16 (by decide) rfl kn_43)
  have kn_101 : g_58.2.1 lg 1 = .ref y1 := (Sm.v m_66 r_16 (by decide) rfl kn_44)
  have kn_102 : g_58.2.1 lg 2 = .ref y2 := (Sm.v m_66 r_16 (by decide) rfl kn_45)
  have kn_103 : g_58.2.1 om 25 = .ref m0 := (Sm.v m_66 r_12 (by decide) rfl kn_46)
  have kn_104 : g_58.2.1 om 26 = .ref m1 := (Sm.v m_66 r_12 (by decide) rfl kn_47)
  have kn_105 : g_58.2.1 om 27 = .ref m2 := (Sm.v m_66 r_12 (by decide) rfl kn_48)
  have kn_106 : g_58.2.1 nw 1 = .int sv := (Sm.v m_66 r_14 (by decide) rfl kn_50)
  have kn_107 : g_58.2.1 om 0 = .int sv := (Sm.v m_66 r_12 (by decide) rfl kn_51)
  have kn_108 : g_58.2.1 rl 3 = .int rz := (Sm.v m_66 r_15 (by decide) rfl kn_52)
  have kn_109 : g_58.2.1 om 30 = .int rz := (Sm.v m_66 r_12 (by decide) rfl kn_53)
  have kn_110 : g_58.2.1 lg 3 = .int lz := (Sm.v m_66 r_16 (by decide) rfl kn_54)
  have kn_111 : g_58.2.1 om 24 = .int lz := (Sm.v m_66 r_12 (by decide) rfl kn_55)
  have kn_112 : g_58.2.1 tp 1 = .int z2_5 := (Sm.v m_66 r_13 (by decide) rfl f_6)
  refine W.eq (g2 := F0 m 235 ls [.int r_59]) rfl ?_
  have hw := f_61
  have hN0 := f_62
  refine lv_pop hx hb dL_law_235 rfl ?_
  refine lv_goto (tgt := 829) hx hb dL_law_236 (by decide) ?_
  have eq_u_57 : u_57 = u_2 := e_u_57.trans ((congrArg xs (i_nt (by omega))).trans e_u_2.symm)
  have eqi_u_57 : u_57.toInt = u_2.toInt := congrArg Int32.toInt eq_u_57
  have hTx_ : txb (g.2.2.2.1 ba) tz.toInt = txb (g_3.2.2.2.1 ta) tz.toInt := tb_eq (fun i_ hi_ => (hTE0 i_ hi_).trans (congrFun (Sm.cf m_9 r_ta (by decide) rfl).symm i_))
  have er_113 := f_65
  try rw [eq_u_57] at er_113
  try rw [← hTx_] at er_113
  have hub_ : z2_5.toInt ≤ 100 ∧ 0 ≤ z2_5.toInt ∧ z2_5.toInt ≤ tz.toInt := (by have q_ := f_8; unfold chZ at q_; omega)
  refine W.widen (k := cells + 4) (n := slots + 28) (by omega) (by omega) ?_
  exact K g_58 o1 z2_5 sv rz lz H locs hT hI r_68 r_69 kn_92 (by have e0_ : (0 : Int32).toInt = 0 := (by decide); omega) (by have e0_ : (0 : Int32).toInt = 0 := (by decide); omega) hw hN0 kn_93 r_70 kn_94 r_71 kn_95 r_72 kn_96 r_73 kn_97 r_74 n_83 kn_98 r_75 n_84 kn_99 r_76 n_85 kn_100 r_77 n_86 kn_101 r_78 n_87 kn_102 r_79 n_88 kn_103 r_80 n_89 kn_104 r_81 n_90 kn_105 r_82 n_91 kn_112 (f_63.trans (congrArg Value.int (i_inj (er_113.trans f_8.symm)))) (by have e0_ : (0 : Int32).toInt = 0 := (by decide); omega) (by have e0_ : (0 : Int32).toInt = 0 := (by decide); omega) kn_106 kn_107 (by have e0_ : (0 : Int32).toInt = 0 := (by decide); omega) (by have e0_ : (0 : Int32).toInt = 0 := (by decide); omega) kn_108 kn_109 (by have e0_ : (0 : Int32).toInt = 0 := (by decide); omega) (by have e0_ : (0 : Int32).toInt = 0 := (by decide); omega) kn_110 kn_111 (by have e0_ : (0 : Int32).toInt = 0 := (by decide); omega) (by have e0_ : (0 : Int32).toInt = 0 := (by decide); omega) (hTE.cast (by omega)) hWT hL0 hL1 hL2
set_option maxHeartbeats 4000000 in
set_option maxRecDepth 100000 in
/-- mend -/
theorem law_3 {p : Program} {l : Launch} {e : Env} {s : State} {m : MethodId} {below : List Frame} {meth : Method} {c : Code} {D : va_G} {cI cZ cS cR : ClassId} {N0 : NT} {b L : Nat} {xs : Nat → Int32} (hB : Tz p s m meth c #[Value.ref b] code 4 RL D cI cZ cS cR N0) (hAs : N0.1 = s.heap.size) (hX : va_X b L xs s s.heap) (hbl : b < s.heap.size) (hL : L ≤ 2560) (hr : meth.sig.returnType = ret) {cells slots : Nat} (hcl : cells + 4 ≤ 600000) (hsl : slots + 28 ≤ 7302250) {H : Heap} {locs : List Loc} {ls : Array Slot} (g : GS) (ox om : Nat) (tp : Nat) (nw : Nat) (rl : Nat) (lg : Nat) (ba : Nat) (ta : Nat) (wt : Nat) (y0 : Nat) (y1 : Nat) (y2 : Nat) (m0 : Nat) (m1 : Nat) (m2 : Nat) (i o1 tz sv rz lz : Int32) (hT : Tv D cI cZ cS cR N0 s.heap H locs g) (hI : Inv g) (l_i : 0 ≤ i.toInt) (u_i : i.toInt + 5 ≤ L) : g.1 ox = 7 → g.1 om = 8 → g.2.1 om 22 = .int o1 → 0 ≤ o1.toInt → o1.toInt ≤ 12 * i.toInt → PX 48 2 3 71 72 g om → PX 8 39 40 84 85 g om → g.2.1 ox 0 = .ref tp → g.1 tp = 5 → g.2.1 ox 1 = .ref nw → g.1 nw = 19 → g.2.1 ox 2 = .ref rl → g.1 rl = 1 → g.2.1 ox 3 = .ref lg → g.1 lg = 9 → g.2.1 tp 0 = .ref ba → g.1 ba = 67 → g.2.2.1 ba = 100 → g.2.1 om 28 = .ref ta → g.1 ta = 79 → g.2.2.1 ta = 100 → g.2.1 om 42 = .ref wt → g.1 wt = 87 → g.2.2.1 wt = 24 → g.2.1 lg 0 = .ref y0 → g.1 y0 = 64 → g.2.2.1 y0 = 20 → g.2.1 lg 1 = .ref y1 → g.1 y1 = 65 → g.2.2.1 y1 = 20 → g.2.1 lg 2 = .ref y2 → g.1 y2 = 66 → g.2.2.1 y2 = 20 → g.2.1 om 25 = .ref m0 → g.1 m0 = 76 → g.2.2.1 m0 = 20 → g.2.1 om 26 = .ref m1 → g.1 m1 = 77 → g.2.2.1 m1 = 20 → g.2.1 om 27 = .ref m2 → g.1 m2 = 78 → g.2.2.1 m2 = 20 → g.2.1 tp 1 = .int tz → g.2.1 om 29 = .int tz → 0 ≤ tz.toInt → tz.toInt ≤ 100 → g.2.1 nw 1 = .int sv → g.2.1 om 0 = .int sv → 0 ≤ sv.toInt → sv.toInt ≤ 6 → g.2.1 rl 3 = .int rz → g.2.1 om 30 = .int rz → 0 ≤ rz.toInt → rz.toInt ≤ 6 → g.2.1 lg 3 = .int lz → g.2.1 om 24 = .int lz → 0 ≤ lz.toInt → lz.toInt ≤ 20 → TE g ba ta tz.toInt → WT g wt → TE g y0 m0 lz.toInt → TE g y1 m1 lz.toInt → TE g y2 m2 lz.toInt → (hl : lv_has ls 4 [(3, .int i), (2, .ref om), (1, .ref ox), (0, .ref b)]) → (K : ∀ (g1 : GS) (o1_1 tz_1 sv_1 rz_1 lz_1 : Int32) (H1 : Heap) (locs1 : List Loc), Tv D cI cZ cS cR N0 s.heap H1 locs1 g1 → Inv g1 → g1.1 ox = 7 → g1.1 om = 8 → g1.2.1 om 22 = .int o1_1 → 0 ≤ o1_1.toInt → o1_1.toInt ≤ 12 * i.toInt + 60 → PX 48 2 3 71 72 g1 om → PX 8 39 40 84 85 g1 om → g1.2.1 ox 0 = .ref tp → g1.1 tp = 5 → g1.2.1 ox 1 = .ref nw → g1.1 nw = 19 → g1.2.1 ox 2 = .ref rl → g1.1 rl = 1 → g1.2.1 ox 3 = .ref lg → g1.1 lg = 9 → g1.2.1 tp 0 = .ref ba → g1.1 ba = 67 → g1.2.2.1 ba = 100 → g1.2.1 om 28 = .ref ta → g1.1 ta = 79 → g1.2.2.1 ta = 100 → g1.2.1 om 42 = .ref wt → g1.1 wt = 87 → g1.2.2.1 wt = 24 → g1.2.1 lg 0 = .ref y0 → g1.1 y0 = 64 → g1.2.2.1 y0 = 20 → g1.2.1 lg 1 = .ref y1 → g1.1 y1 = 65 → g1.2.2.1 y1 = 20 → g1.2.1 lg 2 = .ref y2 → g1.1 y2 = 66 → g1.2.2.1 y2 = 20 → g1.2.1 om 25 = .ref m0 → g1.1 m0 = 76 → g1.2.2.1 m0 = 20 → g1.2.1 om 26 = .ref m1 → g1.1 m1 = 77 → g1.2.2.1 m1 = 20 → g1.2.1 om 27 = .ref m2 → g1.1 m2 = 78 → g1.2.2.1 m2 = 20 → g1.2.1 tp 1 = .int tz_1 → g1.2.1 om 29 = .int tz_1 → 0 ≤ tz_1.toInt → tz_1.toInt ≤ 100 → g1.2.1 nw 1 = .int sv_1 → g1.2.1 om 0 = .int sv_1 → 0 ≤ sv_1.toInt → sv_1.toInt ≤ 6 → g1.2.1 rl 3 = .int rz_1 → g1.2.1 om 30 = .int rz_1 → 0 ≤ rz_1.toInt → rz_1.toInt ≤ 6 → g1.2.1 lg 3 = .int lz_1 → g1.2.1 om 24 = .int lz_1 → 0 ≤ lz_1.toInt → lz_1.toInt ≤ 20 → TE g1 ba ta tz_1.toInt → WT g1 wt → TE g1 y0 m0 lz_1.toInt → TE g1 y1 m1 lz_1.toInt → TE g1 y2 m2 lz_1.toInt → W p l e room_1 s m #[Value.ref b] below meth c H1 locs1 (cells + 4) (slots + 28) (lw_Z below #[Value.ref b] s) (F0 m 829 ls [])) → W p l e room_1 s m #[Value.ref b] below meth c H locs cells slots (lw_Z below #[Value.ref b] s) (F0 m 239 ls []) := by
  intro r_ox r_om ko l_o u_o hw hN0 k_tp r_tp k_nw r_nw k_rl r_rl k_lg r_lg k_ba r_ba n_ba k_ta r_ta n_ta k_wt r_wt n_wt k_y0 r_y0 n_y0 k_y1 r_y1 n_y1 k_y2 r_y2 n_y2 k_m0 r_m0 n_m0 k_m1 r_m1 n_m1 k_m2 r_m2 n_m2 kc_tz km_tz l_tz u_tz kc_sv km_sv l_sv u_sv kc_rz km_rz l_rz u_rz kc_lz km_lz l_lz u_lz hTE hWT hL0 hL1 hL2 hl K
  have hx := hB.1
  have hb := hB.2.1
  have hE : Ex g g := Ex.rf
  have hM : Sm mdA g g := sm_all
  have hTE0 := hTE
  have hL00 := hL0
  have hL10 := hL1
  have hL20 := hL2
  refine lv_aload_n hx hb dL_law_239 rfl (lv_at hl 2 rfl) ?_
  refine lv_aload_n hx hb dL_law_240 rfl (lv_at hl 3 rfl) ?_
  refine lv_iload_n hx hb dL_law_241 rfl (lv_at hl 0 rfl) ?_
  refine lv_iconst (v := 1) hx hb dL_law_242 (by decide) ?_
  refine lv_iadd hx hb dL_law_243 ?_
  refine lv_topi (fun z_1 ez_1 => ?_)
  have e_z_1 : z_1.toInt = i.toInt + 1 := i_add ez_1 rfl (by decide) (by omega) (by omega)
  refine va_sld hx hb hX hbl (fun q => by have q_ : N0.1 ≤ b := q; omega) hT.2 (i_in (n := L) rfl (by omega) (by omega)) dL_law_244 ?_
  refine lv_topi (fun u_2 e_u_2 => ?_)
  refine lv_aload_n hx hb dL_law_245 rfl (lv_at hl 3 rfl) ?_
  refine lv_iload_n hx hb dL_law_246 rfl (lv_at hl 0 rfl) ?_
  refine lv_iconst (v := 2) hx hb dL_law_247 (by decide) ?_
  refine lv_iadd hx hb dL_law_248 ?_
  refine lv_topi (fun z_3 ez_3 => ?_)
  have e_z_3 : z_3.toInt = i.toInt + 2 := i_add ez_3 rfl (by decide) (by omega) (by omega)
  refine va_sld hx hb hX hbl (fun q => by have q_ : N0.1 ≤ b := q; omega) hT.2 (i_in (n := L) rfl (by omega) (by omega)) dL_law_249 ?_
  refine lv_topi (fun u_4 e_u_4 => ?_)
  refine lv_aload_n hx hb dL_law_250 rfl (lv_at hl 3 rfl) ?_
  refine lv_iload_n hx hb dL_law_251 rfl (lv_at hl 0 rfl) ?_
  refine lv_iconst (v := 3) hx hb dL_law_252 (by decide) ?_
  refine lv_iadd hx hb dL_law_253 ?_
  refine lv_topi (fun z_5 ez_5 => ?_)
  have e_z_5 : z_5.toInt = i.toInt + 3 := i_add ez_5 rfl (by decide) (by omega) (by omega)
  refine va_sld hx hb hX hbl (fun q => by have q_ : N0.1 ≤ b := q; omega) hT.2 (i_in (n := L) rfl (by omega) (by omega)) dL_law_254 ?_
  refine lv_topi (fun u_6 e_u_6 => ?_)
  refine t_callV (n := 3) (As := [.int u_2, .int u_4, .int u_6]) (rest := []) (ci := 6) hB hT hl.1 (P_mend l D cI cZ cS cR N0 g hI ox u_2 u_4 u_6 r_ox) (ro_ci r_ox rfl) rfl k_440 k_57 k_437 k_438 k_439 (by decide +kernel) ⟨(Nat.le_of_ble_eq_true rfl), (Nat.le_of_ble_eq_true rfl)⟩ rfl (Nat.le_of_ble_eq_true rfl) ⟨(by show _ ≤ _; first | exact Nat.le_of_ble_eq_true rfl | (simp only [room_1]; omega)), (by show _ ≤ _; first | exact Nat.le_of_ble_eq_true rfl | (simp only [room_1]; omega))⟩ dL_law_255 (fun v g_7 H locs hp hT => ?_)
  obtain ⟨r_8, rfl, hI, x_10, m_9⟩ := hp
  have hw : PX 48 2 3 71 72 g_7 om := hw.mono m_9 x_10 r_om (by decide) (by decide) rfl rfl rfl rfl
  have hN0 : PX 8 39 40 84 85 g_7 om := hN0.mono m_9 x_10 r_om (by decide) (by decide) rfl rfl rfl rfl
  have hTE : TE g_7 ba ta tz.toInt := hTE.sm m_9 r_ba (by decide) rfl r_ta (by decide) rfl
  have hWT : WT g_7 wt := hWT.sm m_9 r_wt (by decide) rfl
  have hL0 : TE g_7 y0 m0 lz.toInt := hL0.sm m_9 r_y0 (by decide) rfl r_m0 (by decide) rfl
  have hL1 : TE g_7 y1 m1 lz.toInt := hL1.sm m_9 r_y1 (by decide) rfl r_m1 (by decide) rfl
  have hL2 : TE g_7 y2 m2 lz.toInt := hL2.sm m_9 r_y2 (by decide) rfl r_m2 (by decide) rfl
  have hM : Sm mdA g g_7 := sm_all
  have hE : Ex g g_7 := hE.tr x_10
  have r_11 : g_7.1 ox = 7 := (Ex.r x_10 r_ox (by decide))
  have r_12 : g_7.1 om = 8 := (Ex.r x_10 r_om (by decide))
  have r_13 : g_7.1 tp = 5 := (Ex.r x_10 r_tp (by decide))
  have r_14 : g_7.1 nw = 19 := (Ex.r x_10 r_nw (by decide))
  have r_15 : g_7.1 rl = 1 := (Ex.r x_10 r_rl (by decide))
  have r_16 : g_7.1 lg = 9 := (Ex.r x_10 r_lg (by decide))
  have r_17 : g_7.1 ba = 67 := (Ex.r x_10 r_ba (by decide))
  have r_18 : g_7.1 ta = 79 := (Ex.r x_10 r_ta (by decide))
  have r_19 : g_7.1 wt = 87 := (Ex.r x_10 r_wt (by decide))
  have r_20 : g_7.1 y0 = 64 := (Ex.r x_10 r_y0 (by decide))
  have r_21 : g_7.1 y1 = 65 := (Ex.r x_10 r_y1 (by decide))
  have r_22 : g_7.1 y2 = 66 := (Ex.r x_10 r_y2 (by decide))
  have r_23 : g_7.1 m0 = 76 := (Ex.r x_10 r_m0 (by decide))
  have r_24 : g_7.1 m1 = 77 := (Ex.r x_10 r_m1 (by decide))
  have r_25 : g_7.1 m2 = 78 := (Ex.r x_10 r_m2 (by decide))
  have n_26 : g_7.2.2.1 ba = 100 := (Ex.n x_10 r_ba (by decide) n_ba)
  have n_27 : g_7.2.2.1 ta = 100 := (Ex.n x_10 r_ta (by decide) n_ta)
  have n_28 : g_7.2.2.1 wt = 24 := (Ex.n x_10 r_wt (by decide) n_wt)
  have n_29 : g_7.2.2.1 y0 = 20 := (Ex.n x_10 r_y0 (by decide) n_y0)
  have n_30 : g_7.2.2.1 y1 = 20 := (Ex.n x_10 r_y1 (by decide) n_y1)
  have n_31 : g_7.2.2.1 y2 = 20 := (Ex.n x_10 r_y2 (by decide) n_y2)
  have n_32 : g_7.2.2.1 m0 = 20 := (Ex.n x_10 r_m0 (by decide) n_m0)
  have n_33 : g_7.2.2.1 m1 = 20 := (Ex.n x_10 r_m1 (by decide) n_m1)
  have n_34 : g_7.2.2.1 m2 = 20 := (Ex.n x_10 r_m2 (by decide) n_m2)
  have kn_35 : g_7.2.1 om 22 = .int o1 := (Sm.v m_9 r_om (by decide) rfl ko)
  have kn_36 : g_7.2.1 ox 0 = .ref tp := (Sm.v m_9 r_ox (by decide) rfl k_tp)
  have kn_37 : g_7.2.1 ox 1 = .ref nw := (Sm.v m_9 r_ox (by decide) rfl k_nw)
  have kn_38 : g_7.2.1 ox 2 = .ref rl := (Sm.v m_9 r_ox (by decide) rfl k_rl)
  have kn_39 : g_7.2.1 ox 3 = .ref lg := (Sm.v m_9 r_ox (by decide) rfl k_lg)
  have kn_40 : g_7.2.1 tp 0 = .ref ba := (Sm.v m_9 r_tp (by decide) rfl k_ba)
  have kn_41 : g_7.2.1 om 28 = .ref ta := (Sm.v m_9 r_om (by decide) rfl k_ta)
  have kn_42 : g_7.2.1 om 42 = .ref wt := (Sm.v m_9 r_om (by decide) rfl k_wt)
  have kn_43 : g_7.2.1 lg 0 = .ref y0 := (Sm.v m_9 r_lg (by decide) rfl k_y0)
  have kn_44 : g_7.2.1 lg 1 = .ref y1 := (Sm.v m_9 r_lg (by decide) rfl k_y1)
  have kn_45 : g_7.2.1 lg 2 = .ref y2 := (Sm.v m_9 r_lg (by decide) rfl k_y2)
  have kn_46 : g_7.2.1 om 25 = .ref m0 := (Sm.v m_9 r_om (by decide) rfl k_m0)
  have kn_47 : g_7.2.1 om 26 = .ref m1 := (Sm.v m_9 r_om (by decide) rfl k_m1)
  have kn_48 : g_7.2.1 om 27 = .ref m2 := (Sm.v m_9 r_om (by decide) rfl k_m2)
  have kn_49 : g_7.2.1 tp 1 = .int tz := (Sm.v m_9 r_tp (by decide) rfl kc_tz)
  have kn_50 : g_7.2.1 om 29 = .int tz := (Sm.v m_9 r_om (by decide) rfl km_tz)
  have kn_51 : g_7.2.1 nw 1 = .int sv := (Sm.v m_9 r_nw (by decide) rfl kc_sv)
  have kn_52 : g_7.2.1 om 0 = .int sv := (Sm.v m_9 r_om (by decide) rfl km_sv)
  have kn_53 : g_7.2.1 rl 3 = .int rz := (Sm.v m_9 r_rl (by decide) rfl kc_rz)
  have kn_54 : g_7.2.1 om 30 = .int rz := (Sm.v m_9 r_om (by decide) rfl km_rz)
  have kn_55 : g_7.2.1 lg 3 = .int lz := (Sm.v m_9 r_lg (by decide) rfl kc_lz)
  have kn_56 : g_7.2.1 om 24 = .int lz := (Sm.v m_9 r_om (by decide) rfl km_lz)
  refine W.eq (g2 := F0 m 258 ls [.int r_8]) rfl ?_
  refine lv_pop hx hb dL_law_258 rfl ?_
  refine lv_aload_n hx hb dL_law_259 rfl (lv_at hl 1 rfl) ?_
  refine lv_aload_n hx hb dL_law_260 rfl (lv_at hl 3 rfl) ?_
  refine lv_iload_n hx hb dL_law_261 rfl (lv_at hl 0 rfl) ?_
  refine lv_iconst (v := 1) hx hb dL_law_262 (by decide) ?_
  refine lv_iadd hx hb dL_law_263 ?_
  refine lv_topi (fun z_57 ez_57 => ?_)
  have e_z_57 : z_57.toInt = i.toInt + 1 := i_add ez_57 rfl (by decide) (by omega) (by omega)
  refine va_sld hx hb hX hbl (fun q => by have q_ : N0.1 ≤ b := q; omega) hT.2 (i_in (n := L) rfl (by omega) (by omega)) dL_law_264 ?_
  refine lv_topi (fun u_58 e_u_58 => ?_)
  refine lv_aload_n hx hb dL_law_265 rfl (lv_at hl 3 rfl) ?_
  refine lv_iload_n hx hb dL_law_266 rfl (lv_at hl 0 rfl) ?_
  refine lv_iconst (v := 2) hx hb dL_law_267 (by decide) ?_
  refine lv_iadd hx hb dL_law_268 ?_
  refine lv_topi (fun z_59 ez_59 => ?_)
  have e_z_59 : z_59.toInt = i.toInt + 2 := i_add ez_59 rfl (by decide) (by omega) (by omega)
  refine va_sld hx hb hX hbl (fun q => by have q_ : N0.1 ≤ b := q; omega) hT.2 (i_in (n := L) rfl (by omega) (by omega)) dL_law_269 ?_
  refine lv_topi (fun u_60 e_u_60 => ?_)
  refine lv_aload_n hx hb dL_law_270 rfl (lv_at hl 3 rfl) ?_
  refine lv_iload_n hx hb dL_law_271 rfl (lv_at hl 0 rfl) ?_
  refine lv_iconst (v := 3) hx hb dL_law_272 (by decide) ?_
  refine lv_iadd hx hb dL_law_273 ?_
  refine lv_topi (fun z_61 ez_61 => ?_)
  have e_z_61 : z_61.toInt = i.toInt + 3 := i_add ez_61 rfl (by decide) (by omega) (by omega)
  refine va_sld hx hb hX hbl (fun q => by have q_ : N0.1 ≤ b := q; omega) hT.2 (i_in (n := L) rfl (by omega) (by omega)) dL_law_274 ?_
  refine lv_topi (fun u_62 e_u_62 => ?_)
  refine t_callV (n := 3) (As := [.int u_58, .int u_60, .int u_62]) (rest := []) (ci := 7) hB hT hl.1 (m_mend l D cI cZ cS cR N0 g_7 hI om u_58 u_60 u_62 r_12) (ro_ci r_12 rfl) rfl k_995 k_65 k_992 k_993 k_994 (by decide +kernel) ⟨(Nat.le_of_ble_eq_true rfl), (Nat.le_of_ble_eq_true rfl)⟩ rfl (Nat.le_of_ble_eq_true rfl) ⟨(by show _ ≤ _; first | exact Nat.le_of_ble_eq_true rfl | (simp only [room_1]; omega)), (by show _ ≤ _; first | exact Nat.le_of_ble_eq_true rfl | (simp only [room_1]; omega))⟩ dL_law_275 (fun v g_63 H locs hp hT => ?_)
  obtain ⟨r_64, rfl, hI, x_66, m_65⟩ := hp
  have hw : PX 48 2 3 71 72 g_63 om := hw.mono m_65 x_66 r_12 (by decide) (by decide) rfl rfl rfl rfl
  have hN0 : PX 8 39 40 84 85 g_63 om := hN0.mono m_65 x_66 r_12 (by decide) (by decide) rfl rfl rfl rfl
  have hTE : TE g_63 ba ta tz.toInt := hTE.sm m_65 r_17 (by decide) rfl r_18 (by decide) rfl
  have hWT : WT g_63 wt := hWT.sm m_65 r_19 (by decide) rfl
  have hL0 : TE g_63 y0 m0 lz.toInt := hL0.sm m_65 r_20 (by decide) rfl r_23 (by decide) rfl
  have hL1 : TE g_63 y1 m1 lz.toInt := hL1.sm m_65 r_21 (by decide) rfl r_24 (by decide) rfl
  have hL2 : TE g_63 y2 m2 lz.toInt := hL2.sm m_65 r_22 (by decide) rfl r_25 (by decide) rfl
  have hM : Sm mdA g g_63 := sm_all
  have hE : Ex g g_63 := hE.tr x_66
  have r_67 : g_63.1 ox = 7 := (Ex.r x_66 r_11 (by decide))
  have r_68 : g_63.1 om = 8 := (Ex.r x_66 r_12 (by decide))
  have r_69 : g_63.1 tp = 5 := (Ex.r x_66 r_13 (by decide))
  have r_70 : g_63.1 nw = 19 := (Ex.r x_66 r_14 (by decide))
  have r_71 : g_63.1 rl = 1 := (Ex.r x_66 r_15 (by decide))
  have r_72 : g_63.1 lg = 9 := (Ex.r x_66 r_16 (by decide))
  have r_73 : g_63.1 ba = 67 := (Ex.r x_66 r_17 (by decide))
  have r_74 : g_63.1 ta = 79 := (Ex.r x_66 r_18 (by decide))
  have r_75 : g_63.1 wt = 87 := (Ex.r x_66 r_19 (by decide))
  have r_76 : g_63.1 y0 = 64 := (Ex.r x_66 r_20 (by decide))
  have r_77 : g_63.1 y1 = 65 := (Ex.r x_66 r_21 (by decide))
  have r_78 : g_63.1 y2 = 66 := (Ex.r x_66 r_22 (by decide))
  have r_79 : g_63.1 m0 = 76 := (Ex.r x_66 r_23 (by decide))
  have r_80 : g_63.1 m1 = 77 := (Ex.r x_66 r_24 (by decide))
  have r_81 : g_63.1 m2 = 78 := (Ex.r x_66 r_25 (by decide))
  have n_82 : g_63.2.2.1 ba = 100 := (Ex.n x_66 r_17 (by decide) n_26)
  have n_83 : g_63.2.2.1 ta = 100 := (Ex.n x_66 r_18 (by decide) n_27)
  have n_84 : g_63.2.2.1 wt = 24 := (Ex.n x_66 r_19 (by decide) n_28)
  have n_85 : g_63.2.2.1 y0 = 20 := (Ex.n x_66 r_20 (by decide) n_29)
  have n_86 : g_63.2.2.1 y1 = 20 := (Ex.n x_66 r_21 (by decide) n_30)
  have n_87 : g_63.2.2.1 y2 = 20 := (Ex.n x_66 r_22 (by decide) n_31)
  have n_88 : g_63.2.2.1 m0 = 20 := (Ex.n x_66 r_23 (by decide) n_32)
  have n_89 : g_63.2.2.1 m1 = 20 := (Ex.n x_66 r_24 (by decide) n_33)
  have n_90 : g_63.2.2.1 m2 = 20 := (Ex.n x_66 r_25 (by decide) n_34)
  have kn_91 : g_63.2.1 om 22 = .int o1 := (Sm.v m_65 r_12 (by decide) rfl kn_35)
  have kn_92 : g_63.2.1 ox 0 = .ref tp := (Sm.v m_65 r_11 (by decide) rfl kn_36)
  have kn_93 : g_63.2.1 ox 1 = .ref nw := (Sm.v m_65 r_11 (by decide) rfl kn_37)
  have kn_94 : g_63.2.1 ox 2 = .ref rl := (Sm.v m_65 r_11 (by decide) rfl kn_38)
  have kn_95 : g_63.2.1 ox 3 = .ref lg := (Sm.v m_65 r_11 (by decide) rfl kn_39)
  have kn_96 : g_63.2.1 tp 0 = .ref ba := (Sm.v m_65 r_13 (by decide) rfl kn_40)
  have kn_97 : g_63.2.1 om 28 = .ref ta := (Sm.v m_65 r_12 (by decide) rfl kn_41)
  have kn_98 : g_63.2.1 om 42 = .ref wt := (Sm.v m_65 r_12 (by decide) rfl kn_42)
  have kn_99 : g_63.2.1 lg 0 = .ref y0 := (Sm.v m_65 r_16 (by decide) rfl kn_43)
  have kn_100 : g_63.2.1 lg 1 = .ref y1 := (Sm.v m_65 r_16 (by decide) rfl kn_44)
  have kn_101 : g_63.2.1 lg 2 = .ref y2 := (Sm.v m_65 r_16 (by decide) rfl kn_45)
  have kn_102 : g_63.2.1 om 25 = .ref m0 := (Sm.v m_65 r_12 (by decide) rfl kn_46)
  have kn_103 : g_63.2.1 om 26 = .ref m1 := (Sm.v m_65 r_12 (by decide) rfl kn_47)
  have kn_104 : g_63.2.1 om 27 = .ref m2 := (Sm.v m_65 r_12 (by decide) rfl kn_48)
  have kn_105 : g_63.2.1 tp 1 = .int tz := (Sm.v m_65 r_13 (by decide) rfl kn_49)
  have kn_106 : g_63.2.1 om 29 = .int tz := (Sm.v m_65 r_12 (by decide) rfl kn_50)
  have kn_107 : g_63.2.1 nw 1 = .int sv := (Sm.v m_65 r_14 (by decide) rfl kn_51)
  have kn_108 : g_63.2.1 om 0 = .int sv := (Sm.v m_65 r_12 (by decide) rfl kn_52)
  have kn_109 : g_63.2.1 rl 3 = .int rz := (Sm.v m_65 r_15 (by decide) rfl kn_53)
  have kn_110 : g_63.2.1 om 30 = .int rz := (Sm.v m_65 r_12 (by decide) rfl kn_54)
  have kn_111 : g_63.2.1 lg 3 = .int lz := (Sm.v m_65 r_16 (by decide) rfl kn_55)
  have kn_112 : g_63.2.1 om 24 = .int lz := (Sm.v m_65 r_12 (by decide) rfl kn_56)
  refine W.eq (g2 := F0 m 278 ls [.int r_64]) rfl ?_
  refine lv_pop hx hb dL_law_278 rfl ?_
  refine lv_goto (tgt := 829) hx hb dL_law_279 (by decide) ?_
  refine W.widen (k := cells + 4) (n := slots + 28) (by omega) (by omega) ?_
  exact K g_63 o1 tz sv rz lz H locs hT hI r_67 r_68 kn_91 (by have e0_ : (0 : Int32).toInt = 0 := (by decide); omega) (by have e0_ : (0 : Int32).toInt = 0 := (by decide); omega) hw hN0 kn_92 r_69 kn_93 r_70 kn_94 r_71 kn_95 r_72 kn_96 r_73 n_82 kn_97 r_74 n_83 kn_98 r_75 n_84 kn_99 r_76 n_85 kn_100 r_77 n_86 kn_101 r_78 n_87 kn_102 r_79 n_88 kn_103 r_80 n_89 kn_104 r_81 n_90 kn_105 kn_106 (by have e0_ : (0 : Int32).toInt = 0 := (by decide); omega) (by have e0_ : (0 : Int32).toInt = 0 := (by decide); omega) kn_107 kn_108 (by have e0_ : (0 : Int32).toInt = 0 := (by decide); omega) (by have e0_ : (0 : Int32).toInt = 0 := (by decide); omega) kn_109 kn_110 (by have e0_ : (0 : Int32).toInt = 0 := (by decide); omega) (by have e0_ : (0 : Int32).toInt = 0 := (by decide); omega) kn_111 kn_112 (by have e0_ : (0 : Int32).toInt = 0 := (by decide); omega) (by have e0_ : (0 : Int32).toInt = 0 := (by decide); omega) hTE hWT hL0 hL1 hL2
