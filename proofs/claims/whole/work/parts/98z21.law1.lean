/-! THE LAW: its rounds -/
set_option maxHeartbeats 4000000 in
set_option maxRecDepth 100000 in
theorem law_feed (E : EnvT) (ad : Nat → Nat) (kb nb j : Nat) (x : Xst) (m : Mst) (hR : RR (400 * j) x m) (hj : j < 512) (hL : 6 * j + 5 < E.2.2 301) (hLL : E.2.2 301 ≤ 3072) (ih : ∀ x m, RR (400 * (j + 1)) x m → ∃ w0, Tr (E, mL_law, ad, some (.int (bI true)), w0) kb nb 18 [some (.ref (E.2.2 300)), some (.ref (ad 0)), some (.ref (ad 159)), some (.int (nI (6 * (j + 1))))] [] (WW E ad x m)) (hk : sx E (6 * j) &&& nI 63 = nI 0) : ∃ w0, Tr (E, mL_law, ad, some (.int (bI true)), w0) kb nb 18 [some (.ref (E.2.2 300)), some (.ref (ad 0)), some (.ref (ad 159)), some (.int (nI (6 * j)))] [] (WW E ad x m) := by
  obtain ⟨r, x', m', hR', h1, h2⟩ := pr_feed E (400 * j) x m (sx E (6 * j + 1)) (sx E (6 * j + 2)) (sx E (6 * j + 3)) (sx E (6 * j + 4)) (sx E (6 * j + 5)) hR (by omega)
  obtain ⟨w0, hw⟩ := ih x' m' hR'
  refine ⟨w0, ?_⟩
  refine Tr.iload_n (i := 3) dL_law_18 rfl rfl (Eq.refl 19) ?_
  refine Tr.aload_n (i := 0) dL_law_19 rfl rfl (Eq.refl 20) ?_
  refine Tr.slen dL_law_20 (Eq.refl 21) ?_
  refine Tr.bipush (v := nI 6) dL_law_21 (by decide +kernel) (Eq.refl 23) ?_
  refine Tr.isub dL_law_23 (Eq.refl 24) ?_
  refine Tr.icmp_gt (tgt := 1165) dL_law_24 (by decide) (Eq.refl 27) (fun h24 => ?_) (fun h24 => ?_)
  · exact absurd ((law_in hLL (by omega)).mp h24) (by omega)
  · refine Tr.aload_n (i := 0) dL_law_27 rfl rfl (Eq.refl 28) ?_
    refine Tr.iload_n (i := 3) dL_law_28 rfl rfl (Eq.refl 29) ?_
    refine Tr.sald dL_law_29 (show _ < E.2.2 301 by omega) hLL (Eq.refl 30) ?_
    refine Tr.bipush (v := nI 63) dL_law_30 (by decide +kernel) (Eq.refl 32) ?_
    refine Tr.iand dL_law_32 (Eq.refl 33) ?_
    skip
    refine Tr.tsIn (off := 155) (tgt := 188) dL_law_33 (by rw [hk]; decide) (by rw [hk]; decide) (by rw [hk]; rfl) (by decide) ?_
    refine Tr.aload_n (i := 1) dL_law_188 rfl rfl (Eq.refl 189) ?_
    refine Tr.aload_n (i := 0) dL_law_189 rfl rfl (Eq.refl 190) ?_
    refine Tr.iload_n (i := 3) dL_law_190 rfl rfl (Eq.refl 191) ?_
    refine Tr.iconst (v := nI 1) dL_law_191 (icN 1) (Eq.refl 192) ?_
    refine Tr.iaddN dL_law_192 (Eq.refl 193) ?_
    refine Tr.sald dL_law_193 (show _ < E.2.2 301 by omega) hLL (Eq.refl 194) ?_
    refine Tr.aload_n (i := 0) dL_law_194 rfl rfl (Eq.refl 195) ?_
    refine Tr.iload_n (i := 3) dL_law_195 rfl rfl (Eq.refl 196) ?_
    refine Tr.iconst (v := nI 2) dL_law_196 (icN 2) (Eq.refl 197) ?_
    refine Tr.iaddN dL_law_197 (Eq.refl 198) ?_
    refine Tr.sald dL_law_198 (show _ < E.2.2 301 by omega) hLL (Eq.refl 199) ?_
    refine Tr.aload_n (i := 0) dL_law_199 rfl rfl (Eq.refl 200) ?_
    refine Tr.iload_n (i := 3) dL_law_200 rfl rfl (Eq.refl 201) ?_
    refine Tr.iconst (v := nI 3) dL_law_201 (icN 3) (Eq.refl 202) ?_
    refine Tr.iaddN dL_law_202 (Eq.refl 203) ?_
    refine Tr.sald dL_law_203 (show _ < E.2.2 301 by omega) hLL (Eq.refl 204) ?_
    refine Tr.aload_n (i := 0) dL_law_204 rfl rfl (Eq.refl 205) ?_
    refine Tr.iload_n (i := 3) dL_law_205 rfl rfl (Eq.refl 206) ?_
    refine Tr.iconst (v := nI 4) dL_law_206 (icN 4) (Eq.refl 207) ?_
    refine Tr.iaddN dL_law_207 (Eq.refl 208) ?_
    refine Tr.sald dL_law_208 (show _ < E.2.2 301 by omega) hLL (Eq.refl 209) ?_
    refine Tr.aload_n (i := 0) dL_law_209 rfl rfl (Eq.refl 210) ?_
    refine Tr.iload_n (i := 3) dL_law_210 rfl rfl (Eq.refl 211) ?_
    refine Tr.iconst (v := nI 5) dL_law_211 (icN 5) (Eq.refl 212) ?_
    refine Tr.iaddN dL_law_212 (Eq.refl 213) ?_
    refine Tr.sald dL_law_213 (show _ < E.2.2 301 by omega) hLL (Eq.refl 214) ?_
    refine Tr.lawX (As := [.int (sx E (6 * j + 1)), .int (sx E (6 * j + 2)), .int (sx E (6 * j + 3)), .int (sx E (6 * j + 4)), .int (sx E (6 * j + 5))]) h1 dL_law_214 (kL_13 (Nat.le_of_ble_eq_true rfl)) iX9_feed rfl rfl rfl rfl rfl rfl (Eq.refl 217) ?_
    refine Tr.aload_n (i := 2) dL_law_217 rfl rfl (Eq.refl 218) ?_
    refine Tr.aload_n (i := 0) dL_law_218 rfl rfl (Eq.refl 219) ?_
    refine Tr.iload_n (i := 3) dL_law_219 rfl rfl (Eq.refl 220) ?_
    refine Tr.iconst (v := nI 1) dL_law_220 (icN 1) (Eq.refl 221) ?_
    refine Tr.iaddN dL_law_221 (Eq.refl 222) ?_
    refine Tr.sald dL_law_222 (show _ < E.2.2 301 by omega) hLL (Eq.refl 223) ?_
    refine Tr.aload_n (i := 0) dL_law_223 rfl rfl (Eq.refl 224) ?_
    refine Tr.iload_n (i := 3) dL_law_224 rfl rfl (Eq.refl 225) ?_
    refine Tr.iconst (v := nI 2) dL_law_225 (icN 2) (Eq.refl 226) ?_
    refine Tr.iaddN dL_law_226 (Eq.refl 227) ?_
    refine Tr.sald dL_law_227 (show _ < E.2.2 301 by omega) hLL (Eq.refl 228) ?_
    refine Tr.aload_n (i := 0) dL_law_228 rfl rfl (Eq.refl 229) ?_
    refine Tr.iload_n (i := 3) dL_law_229 rfl rfl (Eq.refl 230) ?_
    refine Tr.iconst (v := nI 3) dL_law_230 (icN 3) (Eq.refl 231) ?_
    refine Tr.iaddN dL_law_231 (Eq.refl 232) ?_
    refine Tr.sald dL_law_232 (show _ < E.2.2 301 by omega) hLL (Eq.refl 233) ?_
    refine Tr.aload_n (i := 0) dL_law_233 rfl rfl (Eq.refl 234) ?_
    refine Tr.iload_n (i := 3) dL_law_234 rfl rfl (Eq.refl 235) ?_
    refine Tr.iconst (v := nI 4) dL_law_235 (icN 4) (Eq.refl 236) ?_
    refine Tr.iaddN dL_law_236 (Eq.refl 237) ?_
    refine Tr.sald dL_law_237 (show _ < E.2.2 301 by omega) hLL (Eq.refl 238) ?_
    refine Tr.aload_n (i := 0) dL_law_238 rfl rfl (Eq.refl 239) ?_
    refine Tr.iload_n (i := 3) dL_law_239 rfl rfl (Eq.refl 240) ?_
    refine Tr.iconst (v := nI 5) dL_law_240 (icN 5) (Eq.refl 241) ?_
    refine Tr.iaddN dL_law_241 (Eq.refl 242) ?_
    refine Tr.sald dL_law_242 (show _ < E.2.2 301 by omega) hLL (Eq.refl 243) ?_
    refine Tr.lawM (As := [.int (sx E (6 * j + 1)), .int (sx E (6 * j + 2)), .int (sx E (6 * j + 3)), .int (sx E (6 * j + 4)), .int (sx E (6 * j + 5))]) h2 dL_law_243 (kL_17 (Nat.le_of_ble_eq_true rfl)) iX10_feed rfl rfl rfl rfl rfl rfl (Eq.refl 246) ?_
    refine Tr.icmp_eq (tgt := 1159) dL_law_246 (by decide) (Eq.refl 249) (fun h246 => ?_) (fun h246 => ?_)
    · skip
      refine Tr.iinc dL_law_1159 rfl rfl rfl rfl (Eq.refl 1162) ?_
      refine Tr.goto (pc' := 18) dL_law_1162 (by decide) ?_
      rw [law_6]
      exact hw
    · exact absurd rfl h246
set_option maxHeartbeats 4000000 in
set_option maxRecDepth 100000 in
theorem law_end (E : EnvT) (ad : Nat → Nat) (kb nb j : Nat) (x : Xst) (m : Mst) (hR : RR (400 * j) x m) (hj : j < 512) (hL : 6 * j + 5 < E.2.2 301) (hLL : E.2.2 301 ≤ 3072) (ih : ∀ x m, RR (400 * (j + 1)) x m → ∃ w0, Tr (E, mL_law, ad, some (.int (bI true)), w0) kb nb 18 [some (.ref (E.2.2 300)), some (.ref (ad 0)), some (.ref (ad 159)), some (.int (nI (6 * (j + 1))))] [] (WW E ad x m)) (hk : sx E (6 * j) &&& nI 63 = nI 1) : ∃ w0, Tr (E, mL_law, ad, some (.int (bI true)), w0) kb nb 18 [some (.ref (E.2.2 300)), some (.ref (ad 0)), some (.ref (ad 159)), some (.int (nI (6 * j)))] [] (WW E ad x m) := by
  obtain ⟨r, x', m', hR', h1, h2⟩ := pr_end E (400 * j) x m (sx E (6 * j + 1)) hR (by omega)
  obtain ⟨w0, hw⟩ := ih x' m' hR'
  refine ⟨w0, ?_⟩
  refine Tr.iload_n (i := 3) dL_law_18 rfl rfl (Eq.refl 19) ?_
  refine Tr.aload_n (i := 0) dL_law_19 rfl rfl (Eq.refl 20) ?_
  refine Tr.slen dL_law_20 (Eq.refl 21) ?_
  refine Tr.bipush (v := nI 6) dL_law_21 (by decide +kernel) (Eq.refl 23) ?_
  refine Tr.isub dL_law_23 (Eq.refl 24) ?_
  refine Tr.icmp_gt (tgt := 1165) dL_law_24 (by decide) (Eq.refl 27) (fun h24 => ?_) (fun h24 => ?_)
  · exact absurd ((law_in hLL (by omega)).mp h24) (by omega)
  · refine Tr.aload_n (i := 0) dL_law_27 rfl rfl (Eq.refl 28) ?_
    refine Tr.iload_n (i := 3) dL_law_28 rfl rfl (Eq.refl 29) ?_
    refine Tr.sald dL_law_29 (show _ < E.2.2 301 by omega) hLL (Eq.refl 30) ?_
    refine Tr.bipush (v := nI 63) dL_law_30 (by decide +kernel) (Eq.refl 32) ?_
    refine Tr.iand dL_law_32 (Eq.refl 33) ?_
    skip
    refine Tr.tsIn (off := 218) (tgt := 251) dL_law_33 (by rw [hk]; decide) (by rw [hk]; decide) (by rw [hk]; rfl) (by decide) ?_
    refine Tr.aload_n (i := 1) dL_law_251 rfl rfl (Eq.refl 252) ?_
    refine Tr.aload_n (i := 0) dL_law_252 rfl rfl (Eq.refl 253) ?_
    refine Tr.iload_n (i := 3) dL_law_253 rfl rfl (Eq.refl 254) ?_
    refine Tr.iconst (v := nI 1) dL_law_254 (icN 1) (Eq.refl 255) ?_
    refine Tr.iaddN dL_law_255 (Eq.refl 256) ?_
    refine Tr.sald dL_law_256 (show _ < E.2.2 301 by omega) hLL (Eq.refl 257) ?_
    refine Tr.lawX (As := [.int (sx E (6 * j + 1))]) h1 dL_law_257 (kL_18 (Nat.le_of_ble_eq_true rfl)) iX9_end rfl rfl rfl rfl rfl rfl (Eq.refl 260) ?_
    refine Tr.aload_n (i := 2) dL_law_260 rfl rfl (Eq.refl 261) ?_
    refine Tr.aload_n (i := 0) dL_law_261 rfl rfl (Eq.refl 262) ?_
    refine Tr.iload_n (i := 3) dL_law_262 rfl rfl (Eq.refl 263) ?_
    refine Tr.iconst (v := nI 1) dL_law_263 (icN 1) (Eq.refl 264) ?_
    refine Tr.iaddN dL_law_264 (Eq.refl 265) ?_
    refine Tr.sald dL_law_265 (show _ < E.2.2 301 by omega) hLL (Eq.refl 266) ?_
    refine Tr.lawM (As := [.int (sx E (6 * j + 1))]) h2 dL_law_266 (kL_22 (Nat.le_of_ble_eq_true rfl)) iX10_end rfl rfl rfl rfl rfl rfl (Eq.refl 269) ?_
    refine Tr.icmp_eq (tgt := 1159) dL_law_269 (by decide) (Eq.refl 272) (fun h269 => ?_) (fun h269 => ?_)
    · skip
      refine Tr.iinc dL_law_1159 rfl rfl rfl rfl (Eq.refl 1162) ?_
      refine Tr.goto (pc' := 18) dL_law_1162 (by decide) ?_
      rw [law_6]
      exact hw
    · exact absurd rfl h269
set_option maxHeartbeats 4000000 in
set_option maxRecDepth 100000 in
theorem law_village (E : EnvT) (ad : Nat → Nat) (kb nb j : Nat) (x : Xst) (m : Mst) (hR : RR (400 * j) x m) (hj : j < 512) (hL : 6 * j + 5 < E.2.2 301) (hLL : E.2.2 301 ≤ 3072) (ih : ∀ x m, RR (400 * (j + 1)) x m → ∃ w0, Tr (E, mL_law, ad, some (.int (bI true)), w0) kb nb 18 [some (.ref (E.2.2 300)), some (.ref (ad 0)), some (.ref (ad 159)), some (.int (nI (6 * (j + 1))))] [] (WW E ad x m)) (hk : sx E (6 * j) &&& nI 63 = nI 2) : ∃ w0, Tr (E, mL_law, ad, some (.int (bI true)), w0) kb nb 18 [some (.ref (E.2.2 300)), some (.ref (ad 0)), some (.ref (ad 159)), some (.int (nI (6 * j)))] [] (WW E ad x m) := by
  obtain ⟨r, x', m', hR', h1, h2⟩ := pr_village E (400 * j) x m  hR (by omega)
  obtain ⟨w0, hw⟩ := ih x' m' hR'
  refine ⟨w0, ?_⟩
  refine Tr.iload_n (i := 3) dL_law_18 rfl rfl (Eq.refl 19) ?_
  refine Tr.aload_n (i := 0) dL_law_19 rfl rfl (Eq.refl 20) ?_
  refine Tr.slen dL_law_20 (Eq.refl 21) ?_
  refine Tr.bipush (v := nI 6) dL_law_21 (by decide +kernel) (Eq.refl 23) ?_
  refine Tr.isub dL_law_23 (Eq.refl 24) ?_
  refine Tr.icmp_gt (tgt := 1165) dL_law_24 (by decide) (Eq.refl 27) (fun h24 => ?_) (fun h24 => ?_)
  · exact absurd ((law_in hLL (by omega)).mp h24) (by omega)
  · refine Tr.aload_n (i := 0) dL_law_27 rfl rfl (Eq.refl 28) ?_
    refine Tr.iload_n (i := 3) dL_law_28 rfl rfl (Eq.refl 29) ?_
    refine Tr.sald dL_law_29 (show _ < E.2.2 301 by omega) hLL (Eq.refl 30) ?_
    refine Tr.bipush (v := nI 63) dL_law_30 (by decide +kernel) (Eq.refl 32) ?_
    refine Tr.iand dL_law_32 (Eq.refl 33) ?_
    skip
    refine Tr.tsIn (off := 241) (tgt := 274) dL_law_33 (by rw [hk]; decide) (by rw [hk]; decide) (by rw [hk]; rfl) (by decide) ?_
    refine Tr.aload_n (i := 1) dL_law_274 rfl rfl (Eq.refl 275) ?_
    refine Tr.lawX (As := []) h1 dL_law_275 (kL_23 (Nat.le_of_ble_eq_true rfl)) iX9_village rfl rfl rfl rfl rfl rfl (Eq.refl 278) ?_
    refine Tr.aload_n (i := 2) dL_law_278 rfl rfl (Eq.refl 279) ?_
    refine Tr.lawM (As := []) h2 dL_law_279 (kL_27 (Nat.le_of_ble_eq_true rfl)) iX10_village rfl rfl rfl rfl rfl rfl (Eq.refl 282) ?_
    refine Tr.icmp_eq (tgt := 1159) dL_law_282 (by decide) (Eq.refl 285) (fun h282 => ?_) (fun h282 => ?_)
    · skip
      refine Tr.iinc dL_law_1159 rfl rfl rfl rfl (Eq.refl 1162) ?_
      refine Tr.goto (pc' := 18) dL_law_1162 (by decide) ?_
      rw [law_6]
      exact hw
    · exact absurd rfl h282
set_option maxHeartbeats 4000000 in
set_option maxRecDepth 100000 in
theorem law_fault (E : EnvT) (ad : Nat → Nat) (kb nb j : Nat) (x : Xst) (m : Mst) (hR : RR (400 * j) x m) (hj : j < 512) (hL : 6 * j + 5 < E.2.2 301) (hLL : E.2.2 301 ≤ 3072) (ih : ∀ x m, RR (400 * (j + 1)) x m → ∃ w0, Tr (E, mL_law, ad, some (.int (bI true)), w0) kb nb 18 [some (.ref (E.2.2 300)), some (.ref (ad 0)), some (.ref (ad 159)), some (.int (nI (6 * (j + 1))))] [] (WW E ad x m)) (hk : sx E (6 * j) &&& nI 63 = nI 3) : ∃ w0, Tr (E, mL_law, ad, some (.int (bI true)), w0) kb nb 18 [some (.ref (E.2.2 300)), some (.ref (ad 0)), some (.ref (ad 159)), some (.int (nI (6 * j)))] [] (WW E ad x m) := by
  obtain ⟨r, x', m', hR', h1, h2⟩ := pr_fault E (400 * j) x m (sx E (6 * j + 1)) hR (by omega)
  obtain ⟨w0, hw⟩ := ih x' m' hR'
  refine ⟨w0, ?_⟩
  refine Tr.iload_n (i := 3) dL_law_18 rfl rfl (Eq.refl 19) ?_
  refine Tr.aload_n (i := 0) dL_law_19 rfl rfl (Eq.refl 20) ?_
  refine Tr.slen dL_law_20 (Eq.refl 21) ?_
  refine Tr.bipush (v := nI 6) dL_law_21 (by decide +kernel) (Eq.refl 23) ?_
  refine Tr.isub dL_law_23 (Eq.refl 24) ?_
  refine Tr.icmp_gt (tgt := 1165) dL_law_24 (by decide) (Eq.refl 27) (fun h24 => ?_) (fun h24 => ?_)
  · exact absurd ((law_in hLL (by omega)).mp h24) (by omega)
  · refine Tr.aload_n (i := 0) dL_law_27 rfl rfl (Eq.refl 28) ?_
    refine Tr.iload_n (i := 3) dL_law_28 rfl rfl (Eq.refl 29) ?_
    refine Tr.sald dL_law_29 (show _ < E.2.2 301 by omega) hLL (Eq.refl 30) ?_
    refine Tr.bipush (v := nI 63) dL_law_30 (by decide +kernel) (Eq.refl 32) ?_
    refine Tr.iand dL_law_32 (Eq.refl 33) ?_
    skip
    refine Tr.tsIn (off := 254) (tgt := 287) dL_law_33 (by rw [hk]; decide) (by rw [hk]; decide) (by rw [hk]; rfl) (by decide) ?_
    refine Tr.aload_n (i := 1) dL_law_287 rfl rfl (Eq.refl 288) ?_
    refine Tr.aload_n (i := 0) dL_law_288 rfl rfl (Eq.refl 289) ?_
    refine Tr.iload_n (i := 3) dL_law_289 rfl rfl (Eq.refl 290) ?_
    refine Tr.iconst (v := nI 1) dL_law_290 (icN 1) (Eq.refl 291) ?_
    refine Tr.iaddN dL_law_291 (Eq.refl 292) ?_
    refine Tr.sald dL_law_292 (show _ < E.2.2 301 by omega) hLL (Eq.refl 293) ?_
    refine Tr.lawX (As := [.int (sx E (6 * j + 1))]) h1 dL_law_293 (kL_28 (Nat.le_of_ble_eq_true rfl)) iX9_fault rfl rfl rfl rfl rfl rfl (Eq.refl 296) ?_
    refine Tr.aload_n (i := 2) dL_law_296 rfl rfl (Eq.refl 297) ?_
    refine Tr.aload_n (i := 0) dL_law_297 rfl rfl (Eq.refl 298) ?_
    refine Tr.iload_n (i := 3) dL_law_298 rfl rfl (Eq.refl 299) ?_
    refine Tr.iconst (v := nI 1) dL_law_299 (icN 1) (Eq.refl 300) ?_
    refine Tr.iaddN dL_law_300 (Eq.refl 301) ?_
    refine Tr.sald dL_law_301 (show _ < E.2.2 301 by omega) hLL (Eq.refl 302) ?_
    refine Tr.lawM (As := [.int (sx E (6 * j + 1))]) h2 dL_law_302 (kL_31 (Nat.le_of_ble_eq_true rfl)) iX10_fault rfl rfl rfl rfl rfl rfl (Eq.refl 305) ?_
    refine Tr.icmp_eq (tgt := 1159) dL_law_305 (by decide) (Eq.refl 308) (fun h305 => ?_) (fun h305 => ?_)
    · skip
      refine Tr.iinc dL_law_1159 rfl rfl rfl rfl (Eq.refl 1162) ?_
      refine Tr.goto (pc' := 18) dL_law_1162 (by decide) ?_
      rw [law_6]
      exact hw
    · exact absurd rfl h305
set_option maxHeartbeats 4000000 in
set_option maxRecDepth 100000 in
theorem law_told (E : EnvT) (ad : Nat → Nat) (kb nb j : Nat) (x : Xst) (m : Mst) (hR : RR (400 * j) x m) (hj : j < 512) (hL : 6 * j + 5 < E.2.2 301) (hLL : E.2.2 301 ≤ 3072) (ih : ∀ x m, RR (400 * (j + 1)) x m → ∃ w0, Tr (E, mL_law, ad, some (.int (bI true)), w0) kb nb 18 [some (.ref (E.2.2 300)), some (.ref (ad 0)), some (.ref (ad 159)), some (.int (nI (6 * (j + 1))))] [] (WW E ad x m)) (hk : sx E (6 * j) &&& nI 63 = nI 4) : ∃ w0, Tr (E, mL_law, ad, some (.int (bI true)), w0) kb nb 18 [some (.ref (E.2.2 300)), some (.ref (ad 0)), some (.ref (ad 159)), some (.int (nI (6 * j)))] [] (WW E ad x m) := by
  obtain ⟨r, x', m', hR', h1, h2⟩ := pr_told E (400 * j) x m (sx E (6 * j + 1)) hR (by omega)
  obtain ⟨w0, hw⟩ := ih x' m' hR'
  refine ⟨w0, ?_⟩
  refine Tr.iload_n (i := 3) dL_law_18 rfl rfl (Eq.refl 19) ?_
  refine Tr.aload_n (i := 0) dL_law_19 rfl rfl (Eq.refl 20) ?_
  refine Tr.slen dL_law_20 (Eq.refl 21) ?_
  refine Tr.bipush (v := nI 6) dL_law_21 (by decide +kernel) (Eq.refl 23) ?_
  refine Tr.isub dL_law_23 (Eq.refl 24) ?_
  refine Tr.icmp_gt (tgt := 1165) dL_law_24 (by decide) (Eq.refl 27) (fun h24 => ?_) (fun h24 => ?_)
  · exact absurd ((law_in hLL (by omega)).mp h24) (by omega)
  · refine Tr.aload_n (i := 0) dL_law_27 rfl rfl (Eq.refl 28) ?_
    refine Tr.iload_n (i := 3) dL_law_28 rfl rfl (Eq.refl 29) ?_
    refine Tr.sald dL_law_29 (show _ < E.2.2 301 by omega) hLL (Eq.refl 30) ?_
    refine Tr.bipush (v := nI 63) dL_law_30 (by decide +kernel) (Eq.refl 32) ?_
    refine Tr.iand dL_law_32 (Eq.refl 33) ?_
    skip
    refine Tr.tsIn (off := 277) (tgt := 310) dL_law_33 (by rw [hk]; decide) (by rw [hk]; decide) (by rw [hk]; rfl) (by decide) ?_
    refine Tr.aload_n (i := 1) dL_law_310 rfl rfl (Eq.refl 311) ?_
    refine Tr.aload_n (i := 0) dL_law_311 rfl rfl (Eq.refl 312) ?_
    refine Tr.iload_n (i := 3) dL_law_312 rfl rfl (Eq.refl 313) ?_
    refine Tr.iconst (v := nI 1) dL_law_313 (icN 1) (Eq.refl 314) ?_
    refine Tr.iaddN dL_law_314 (Eq.refl 315) ?_
    refine Tr.sald dL_law_315 (show _ < E.2.2 301 by omega) hLL (Eq.refl 316) ?_
    refine Tr.lawX (As := [.int (sx E (6 * j + 1))]) h1 dL_law_316 (kL_32 (Nat.le_of_ble_eq_true rfl)) iX9_told rfl rfl rfl rfl rfl rfl (Eq.refl 319) ?_
    refine Tr.aload_n (i := 2) dL_law_319 rfl rfl (Eq.refl 320) ?_
    refine Tr.aload_n (i := 0) dL_law_320 rfl rfl (Eq.refl 321) ?_
    refine Tr.iload_n (i := 3) dL_law_321 rfl rfl (Eq.refl 322) ?_
    refine Tr.iconst (v := nI 1) dL_law_322 (icN 1) (Eq.refl 323) ?_
    refine Tr.iaddN dL_law_323 (Eq.refl 324) ?_
    refine Tr.sald dL_law_324 (show _ < E.2.2 301 by omega) hLL (Eq.refl 325) ?_
    refine Tr.lawM (As := [.int (sx E (6 * j + 1))]) h2 dL_law_325 (kL_35 (Nat.le_of_ble_eq_true rfl)) iX10_told rfl rfl rfl rfl rfl rfl (Eq.refl 328) ?_
    refine Tr.icmp_eq (tgt := 1159) dL_law_328 (by decide) (Eq.refl 331) (fun h328 => ?_) (fun h328 => ?_)
    · skip
      refine Tr.iinc dL_law_1159 rfl rfl rfl rfl (Eq.refl 1162) ?_
      refine Tr.goto (pc' := 18) dL_law_1162 (by decide) ?_
      rw [law_6]
      exact hw
    · exact absurd rfl h328
set_option maxHeartbeats 4000000 in
set_option maxRecDepth 100000 in
theorem law_tie (E : EnvT) (ad : Nat → Nat) (kb nb j : Nat) (x : Xst) (m : Mst) (hR : RR (400 * j) x m) (hj : j < 512) (hL : 6 * j + 5 < E.2.2 301) (hLL : E.2.2 301 ≤ 3072) (ih : ∀ x m, RR (400 * (j + 1)) x m → ∃ w0, Tr (E, mL_law, ad, some (.int (bI true)), w0) kb nb 18 [some (.ref (E.2.2 300)), some (.ref (ad 0)), some (.ref (ad 159)), some (.int (nI (6 * (j + 1))))] [] (WW E ad x m)) (hk : sx E (6 * j) &&& nI 63 = nI 5) : ∃ w0, Tr (E, mL_law, ad, some (.int (bI true)), w0) kb nb 18 [some (.ref (E.2.2 300)), some (.ref (ad 0)), some (.ref (ad 159)), some (.int (nI (6 * j)))] [] (WW E ad x m) := by
  obtain ⟨r, x', m', hR', h1, h2⟩ := pr_tie E (400 * j) x m (sx E (6 * j + 1)) (sx E (6 * j + 2)) hR (by omega)
  obtain ⟨w0, hw⟩ := ih x' m' hR'
  refine ⟨w0, ?_⟩
  refine Tr.iload_n (i := 3) dL_law_18 rfl rfl (Eq.refl 19) ?_
  refine Tr.aload_n (i := 0) dL_law_19 rfl rfl (Eq.refl 20) ?_
  refine Tr.slen dL_law_20 (Eq.refl 21) ?_
  refine Tr.bipush (v := nI 6) dL_law_21 (by decide +kernel) (Eq.refl 23) ?_
  refine Tr.isub dL_law_23 (Eq.refl 24) ?_
  refine Tr.icmp_gt (tgt := 1165) dL_law_24 (by decide) (Eq.refl 27) (fun h24 => ?_) (fun h24 => ?_)
  · exact absurd ((law_in hLL (by omega)).mp h24) (by omega)
  · refine Tr.aload_n (i := 0) dL_law_27 rfl rfl (Eq.refl 28) ?_
    refine Tr.iload_n (i := 3) dL_law_28 rfl rfl (Eq.refl 29) ?_
    refine Tr.sald dL_law_29 (show _ < E.2.2 301 by omega) hLL (Eq.refl 30) ?_
    refine Tr.bipush (v := nI 63) dL_law_30 (by decide +kernel) (Eq.refl 32) ?_
    refine Tr.iand dL_law_32 (Eq.refl 33) ?_
    skip
    refine Tr.tsIn (off := 300) (tgt := 333) dL_law_33 (by rw [hk]; decide) (by rw [hk]; decide) (by rw [hk]; rfl) (by decide) ?_
    refine Tr.aload_n (i := 1) dL_law_333 rfl rfl (Eq.refl 334) ?_
    refine Tr.aload_n (i := 0) dL_law_334 rfl rfl (Eq.refl 335) ?_
    refine Tr.iload_n (i := 3) dL_law_335 rfl rfl (Eq.refl 336) ?_
    refine Tr.iconst (v := nI 1) dL_law_336 (icN 1) (Eq.refl 337) ?_
    refine Tr.iaddN dL_law_337 (Eq.refl 338) ?_
    refine Tr.sald dL_law_338 (show _ < E.2.2 301 by omega) hLL (Eq.refl 339) ?_
    refine Tr.aload_n (i := 0) dL_law_339 rfl rfl (Eq.refl 340) ?_
    refine Tr.iload_n (i := 3) dL_law_340 rfl rfl (Eq.refl 341) ?_
    refine Tr.iconst (v := nI 2) dL_law_341 (icN 2) (Eq.refl 342) ?_
    refine Tr.iaddN dL_law_342 (Eq.refl 343) ?_
    refine Tr.sald dL_law_343 (show _ < E.2.2 301 by omega) hLL (Eq.refl 344) ?_
    refine Tr.lawX (As := [.int (sx E (6 * j + 1)), .int (sx E (6 * j + 2))]) h1 dL_law_344 (kL_36 (Nat.le_of_ble_eq_true rfl)) iX9_tie rfl rfl rfl rfl rfl rfl (Eq.refl 347) ?_
    refine Tr.aload_n (i := 2) dL_law_347 rfl rfl (Eq.refl 348) ?_
    refine Tr.aload_n (i := 0) dL_law_348 rfl rfl (Eq.refl 349) ?_
    refine Tr.iload_n (i := 3) dL_law_349 rfl rfl (Eq.refl 350) ?_
    refine Tr.iconst (v := nI 1) dL_law_350 (icN 1) (Eq.refl 351) ?_
    refine Tr.iaddN dL_law_351 (Eq.refl 352) ?_
    refine Tr.sald dL_law_352 (show _ < E.2.2 301 by omega) hLL (Eq.refl 353) ?_
    refine Tr.aload_n (i := 0) dL_law_353 rfl rfl (Eq.refl 354) ?_
    refine Tr.iload_n (i := 3) dL_law_354 rfl rfl (Eq.refl 355) ?_
    refine Tr.iconst (v := nI 2) dL_law_355 (icN 2) (Eq.refl 356) ?_
    refine Tr.iaddN dL_law_356 (Eq.refl 357) ?_
    refine Tr.sald dL_law_357 (show _ < E.2.2 301 by omega) hLL (Eq.refl 358) ?_
    refine Tr.lawM (As := [.int (sx E (6 * j + 1)), .int (sx E (6 * j + 2))]) h2 dL_law_358 (kL_40 (Nat.le_of_ble_eq_true rfl)) iX10_tie rfl rfl rfl rfl rfl rfl (Eq.refl 361) ?_
    refine Tr.icmp_eq (tgt := 1159) dL_law_361 (by decide) (Eq.refl 364) (fun h361 => ?_) (fun h361 => ?_)
    · skip
      refine Tr.iinc dL_law_1159 rfl rfl rfl rfl (Eq.refl 1162) ?_
      refine Tr.goto (pc' := 18) dL_law_1162 (by decide) ?_
      rw [law_6]
      exact hw
    · exact absurd rfl h361
set_option maxHeartbeats 4000000 in
set_option maxRecDepth 100000 in
theorem law_plan (E : EnvT) (ad : Nat → Nat) (kb nb j : Nat) (x : Xst) (m : Mst) (hR : RR (400 * j) x m) (hj : j < 512) (hL : 6 * j + 5 < E.2.2 301) (hLL : E.2.2 301 ≤ 3072) (ih : ∀ x m, RR (400 * (j + 1)) x m → ∃ w0, Tr (E, mL_law, ad, some (.int (bI true)), w0) kb nb 18 [some (.ref (E.2.2 300)), some (.ref (ad 0)), some (.ref (ad 159)), some (.int (nI (6 * (j + 1))))] [] (WW E ad x m)) (hk : sx E (6 * j) &&& nI 63 = nI 6) : ∃ w0, Tr (E, mL_law, ad, some (.int (bI true)), w0) kb nb 18 [some (.ref (E.2.2 300)), some (.ref (ad 0)), some (.ref (ad 159)), some (.int (nI (6 * j)))] [] (WW E ad x m) := by
  obtain ⟨r, x', m', hR', h1, h2⟩ := pr_plan E (400 * j) x m (sx E (6 * j + 1)) hR (by omega)
  obtain ⟨w0, hw⟩ := ih x' m' hR'
  refine ⟨w0, ?_⟩
  refine Tr.iload_n (i := 3) dL_law_18 rfl rfl (Eq.refl 19) ?_
  refine Tr.aload_n (i := 0) dL_law_19 rfl rfl (Eq.refl 20) ?_
  refine Tr.slen dL_law_20 (Eq.refl 21) ?_
  refine Tr.bipush (v := nI 6) dL_law_21 (by decide +kernel) (Eq.refl 23) ?_
  refine Tr.isub dL_law_23 (Eq.refl 24) ?_
  refine Tr.icmp_gt (tgt := 1165) dL_law_24 (by decide) (Eq.refl 27) (fun h24 => ?_) (fun h24 => ?_)
  · exact absurd ((law_in hLL (by omega)).mp h24) (by omega)
  · refine Tr.aload_n (i := 0) dL_law_27 rfl rfl (Eq.refl 28) ?_
    refine Tr.iload_n (i := 3) dL_law_28 rfl rfl (Eq.refl 29) ?_
    refine Tr.sald dL_law_29 (show _ < E.2.2 301 by omega) hLL (Eq.refl 30) ?_
    refine Tr.bipush (v := nI 63) dL_law_30 (by decide +kernel) (Eq.refl 32) ?_
    refine Tr.iand dL_law_32 (Eq.refl 33) ?_
    skip
    refine Tr.tsIn (off := 333) (tgt := 366) dL_law_33 (by rw [hk]; decide) (by rw [hk]; decide) (by rw [hk]; rfl) (by decide) ?_
    refine Tr.aload_n (i := 1) dL_law_366 rfl rfl (Eq.refl 367) ?_
    refine Tr.aload_n (i := 0) dL_law_367 rfl rfl (Eq.refl 368) ?_
    refine Tr.iload_n (i := 3) dL_law_368 rfl rfl (Eq.refl 369) ?_
    refine Tr.iconst (v := nI 1) dL_law_369 (icN 1) (Eq.refl 370) ?_
    refine Tr.iaddN dL_law_370 (Eq.refl 371) ?_
    refine Tr.sald dL_law_371 (show _ < E.2.2 301 by omega) hLL (Eq.refl 372) ?_
    refine Tr.lawX (As := [.int (sx E (6 * j + 1))]) h1 dL_law_372 (kL_41 (Nat.le_of_ble_eq_true rfl)) iX9_plan rfl rfl rfl rfl rfl rfl (Eq.refl 375) ?_
    refine Tr.aload_n (i := 2) dL_law_375 rfl rfl (Eq.refl 376) ?_
    refine Tr.aload_n (i := 0) dL_law_376 rfl rfl (Eq.refl 377) ?_
    refine Tr.iload_n (i := 3) dL_law_377 rfl rfl (Eq.refl 378) ?_
    refine Tr.iconst (v := nI 1) dL_law_378 (icN 1) (Eq.refl 379) ?_
    refine Tr.iaddN dL_law_379 (Eq.refl 380) ?_
    refine Tr.sald dL_law_380 (show _ < E.2.2 301 by omega) hLL (Eq.refl 381) ?_
    refine Tr.lawM (As := [.int (sx E (6 * j + 1))]) h2 dL_law_381 (kL_44 (Nat.le_of_ble_eq_true rfl)) iX10_plan rfl rfl rfl rfl rfl rfl (Eq.refl 384) ?_
    refine Tr.icmp_eq (tgt := 1159) dL_law_384 (by decide) (Eq.refl 387) (fun h384 => ?_) (fun h384 => ?_)
    · skip
      refine Tr.iinc dL_law_1159 rfl rfl rfl rfl (Eq.refl 1162) ?_
      refine Tr.goto (pc' := 18) dL_law_1162 (by decide) ?_
      rw [law_6]
      exact hw
    · exact absurd rfl h384
set_option maxHeartbeats 4000000 in
set_option maxRecDepth 100000 in
theorem law_planned (E : EnvT) (ad : Nat → Nat) (kb nb j : Nat) (x : Xst) (m : Mst) (hR : RR (400 * j) x m) (hj : j < 512) (hL : 6 * j + 5 < E.2.2 301) (hLL : E.2.2 301 ≤ 3072) (ih : ∀ x m, RR (400 * (j + 1)) x m → ∃ w0, Tr (E, mL_law, ad, some (.int (bI true)), w0) kb nb 18 [some (.ref (E.2.2 300)), some (.ref (ad 0)), some (.ref (ad 159)), some (.int (nI (6 * (j + 1))))] [] (WW E ad x m)) (hk : sx E (6 * j) &&& nI 63 = nI 7) : ∃ w0, Tr (E, mL_law, ad, some (.int (bI true)), w0) kb nb 18 [some (.ref (E.2.2 300)), some (.ref (ad 0)), some (.ref (ad 159)), some (.int (nI (6 * j)))] [] (WW E ad x m) := by
  obtain ⟨r, x', m', hR', h1, h2⟩ := pr_planned E (400 * j) x m (sx E (6 * j + 1)) (sx E (6 * j + 2)) hR (by omega)
  obtain ⟨w0, hw⟩ := ih x' m' hR'
  refine ⟨w0, ?_⟩
  refine Tr.iload_n (i := 3) dL_law_18 rfl rfl (Eq.refl 19) ?_
  refine Tr.aload_n (i := 0) dL_law_19 rfl rfl (Eq.refl 20) ?_
  refine Tr.slen dL_law_20 (Eq.refl 21) ?_
  refine Tr.bipush (v := nI 6) dL_law_21 (by decide +kernel) (Eq.refl 23) ?_
  refine Tr.isub dL_law_23 (Eq.refl 24) ?_
  refine Tr.icmp_gt (tgt := 1165) dL_law_24 (by decide) (Eq.refl 27) (fun h24 => ?_) (fun h24 => ?_)
  · exact absurd ((law_in hLL (by omega)).mp h24) (by omega)
  · refine Tr.aload_n (i := 0) dL_law_27 rfl rfl (Eq.refl 28) ?_
    refine Tr.iload_n (i := 3) dL_law_28 rfl rfl (Eq.refl 29) ?_
    refine Tr.sald dL_law_29 (show _ < E.2.2 301 by omega) hLL (Eq.refl 30) ?_
    refine Tr.bipush (v := nI 63) dL_law_30 (by decide +kernel) (Eq.refl 32) ?_
    refine Tr.iand dL_law_32 (Eq.refl 33) ?_
    skip
    refine Tr.tsIn (off := 356) (tgt := 389) dL_law_33 (by rw [hk]; decide) (by rw [hk]; decide) (by rw [hk]; rfl) (by decide) ?_
    refine Tr.aload_n (i := 1) dL_law_389 rfl rfl (Eq.refl 390) ?_
    refine Tr.aload_n (i := 0) dL_law_390 rfl rfl (Eq.refl 391) ?_
    refine Tr.iload_n (i := 3) dL_law_391 rfl rfl (Eq.refl 392) ?_
    refine Tr.iconst (v := nI 1) dL_law_392 (icN 1) (Eq.refl 393) ?_
    refine Tr.iaddN dL_law_393 (Eq.refl 394) ?_
    refine Tr.sald dL_law_394 (show _ < E.2.2 301 by omega) hLL (Eq.refl 395) ?_
    refine Tr.aload_n (i := 0) dL_law_395 rfl rfl (Eq.refl 396) ?_
    refine Tr.iload_n (i := 3) dL_law_396 rfl rfl (Eq.refl 397) ?_
    refine Tr.iconst (v := nI 2) dL_law_397 (icN 2) (Eq.refl 398) ?_
    refine Tr.iaddN dL_law_398 (Eq.refl 399) ?_
    refine Tr.sald dL_law_399 (show _ < E.2.2 301 by omega) hLL (Eq.refl 400) ?_
    refine Tr.lawX (As := [.int (sx E (6 * j + 1)), .int (sx E (6 * j + 2))]) h1 dL_law_400 (kL_45 (Nat.le_of_ble_eq_true rfl)) iX9_planned rfl rfl rfl rfl rfl rfl (Eq.refl 403) ?_
    refine Tr.aload_n (i := 2) dL_law_403 rfl rfl (Eq.refl 404) ?_
    refine Tr.aload_n (i := 0) dL_law_404 rfl rfl (Eq.refl 405) ?_
    refine Tr.iload_n (i := 3) dL_law_405 rfl rfl (Eq.refl 406) ?_
    refine Tr.iconst (v := nI 1) dL_law_406 (icN 1) (Eq.refl 407) ?_
    refine Tr.iaddN dL_law_407 (Eq.refl 408) ?_
    refine Tr.sald dL_law_408 (show _ < E.2.2 301 by omega) hLL (Eq.refl 409) ?_
    refine Tr.aload_n (i := 0) dL_law_409 rfl rfl (Eq.refl 410) ?_
    refine Tr.iload_n (i := 3) dL_law_410 rfl rfl (Eq.refl 411) ?_
    refine Tr.iconst (v := nI 2) dL_law_411 (icN 2) (Eq.refl 412) ?_
    refine Tr.iaddN dL_law_412 (Eq.refl 413) ?_
    refine Tr.sald dL_law_413 (show _ < E.2.2 301 by omega) hLL (Eq.refl 414) ?_
    refine Tr.lawM (As := [.int (sx E (6 * j + 1)), .int (sx E (6 * j + 2))]) h2 dL_law_414 (kL_48 (Nat.le_of_ble_eq_true rfl)) iX10_planned rfl rfl rfl rfl rfl rfl (Eq.refl 417) ?_
    refine Tr.icmp_eq (tgt := 1159) dL_law_417 (by decide) (Eq.refl 420) (fun h417 => ?_) (fun h417 => ?_)
    · skip
      refine Tr.iinc dL_law_1159 rfl rfl rfl rfl (Eq.refl 1162) ?_
      refine Tr.goto (pc' := 18) dL_law_1162 (by decide) ?_
      rw [law_6]
      exact hw
    · exact absurd rfl h417
set_option maxHeartbeats 4000000 in
set_option maxRecDepth 100000 in
theorem law_lets (E : EnvT) (ad : Nat → Nat) (kb nb j : Nat) (x : Xst) (m : Mst) (hR : RR (400 * j) x m) (hj : j < 512) (hL : 6 * j + 5 < E.2.2 301) (hLL : E.2.2 301 ≤ 3072) (ih : ∀ x m, RR (400 * (j + 1)) x m → ∃ w0, Tr (E, mL_law, ad, some (.int (bI true)), w0) kb nb 18 [some (.ref (E.2.2 300)), some (.ref (ad 0)), some (.ref (ad 159)), some (.int (nI (6 * (j + 1))))] [] (WW E ad x m)) (hk : sx E (6 * j) &&& nI 63 = nI 8) : ∃ w0, Tr (E, mL_law, ad, some (.int (bI true)), w0) kb nb 18 [some (.ref (E.2.2 300)), some (.ref (ad 0)), some (.ref (ad 159)), some (.int (nI (6 * j)))] [] (WW E ad x m) := by
  obtain ⟨r, x', m', hR', h1, h2⟩ := pr_lets E (400 * j) x m (sx E (6 * j + 1)) (sx E (6 * j + 2)) hR (by omega)
  obtain ⟨w0, hw⟩ := ih x' m' hR'
  refine ⟨w0, ?_⟩
  refine Tr.iload_n (i := 3) dL_law_18 rfl rfl (Eq.refl 19) ?_
  refine Tr.aload_n (i := 0) dL_law_19 rfl rfl (Eq.refl 20) ?_
  refine Tr.slen dL_law_20 (Eq.refl 21) ?_
  refine Tr.bipush (v := nI 6) dL_law_21 (by decide +kernel) (Eq.refl 23) ?_
  refine Tr.isub dL_law_23 (Eq.refl 24) ?_
  refine Tr.icmp_gt (tgt := 1165) dL_law_24 (by decide) (Eq.refl 27) (fun h24 => ?_) (fun h24 => ?_)
  · exact absurd ((law_in hLL (by omega)).mp h24) (by omega)
  · refine Tr.aload_n (i := 0) dL_law_27 rfl rfl (Eq.refl 28) ?_
    refine Tr.iload_n (i := 3) dL_law_28 rfl rfl (Eq.refl 29) ?_
    refine Tr.sald dL_law_29 (show _ < E.2.2 301 by omega) hLL (Eq.refl 30) ?_
    refine Tr.bipush (v := nI 63) dL_law_30 (by decide +kernel) (Eq.refl 32) ?_
    refine Tr.iand dL_law_32 (Eq.refl 33) ?_
    skip
    refine Tr.tsIn (off := 389) (tgt := 422) dL_law_33 (by rw [hk]; decide) (by rw [hk]; decide) (by rw [hk]; rfl) (by decide) ?_
    refine Tr.aload_n (i := 1) dL_law_422 rfl rfl (Eq.refl 423) ?_
    refine Tr.aload_n (i := 0) dL_law_423 rfl rfl (Eq.refl 424) ?_
    refine Tr.iload_n (i := 3) dL_law_424 rfl rfl (Eq.refl 425) ?_
    refine Tr.iconst (v := nI 1) dL_law_425 (icN 1) (Eq.refl 426) ?_
    refine Tr.iaddN dL_law_426 (Eq.refl 427) ?_
    refine Tr.sald dL_law_427 (show _ < E.2.2 301 by omega) hLL (Eq.refl 428) ?_
    refine Tr.aload_n (i := 0) dL_law_428 rfl rfl (Eq.refl 429) ?_
    refine Tr.iload_n (i := 3) dL_law_429 rfl rfl (Eq.refl 430) ?_
    refine Tr.iconst (v := nI 2) dL_law_430 (icN 2) (Eq.refl 431) ?_
    refine Tr.iaddN dL_law_431 (Eq.refl 432) ?_
    refine Tr.sald dL_law_432 (show _ < E.2.2 301 by omega) hLL (Eq.refl 433) ?_
    refine Tr.lawX (As := [.int (sx E (6 * j + 1)), .int (sx E (6 * j + 2))]) h1 dL_law_433 (kL_49 (Nat.le_of_ble_eq_true rfl)) iX9_lets rfl rfl rfl rfl rfl rfl (Eq.refl 436) ?_
    refine Tr.aload_n (i := 2) dL_law_436 rfl rfl (Eq.refl 437) ?_
    refine Tr.aload_n (i := 0) dL_law_437 rfl rfl (Eq.refl 438) ?_
    refine Tr.iload_n (i := 3) dL_law_438 rfl rfl (Eq.refl 439) ?_
    refine Tr.iconst (v := nI 1) dL_law_439 (icN 1) (Eq.refl 440) ?_
    refine Tr.iaddN dL_law_440 (Eq.refl 441) ?_
    refine Tr.sald dL_law_441 (show _ < E.2.2 301 by omega) hLL (Eq.refl 442) ?_
    refine Tr.aload_n (i := 0) dL_law_442 rfl rfl (Eq.refl 443) ?_
    refine Tr.iload_n (i := 3) dL_law_443 rfl rfl (Eq.refl 444) ?_
    refine Tr.iconst (v := nI 2) dL_law_444 (icN 2) (Eq.refl 445) ?_
    refine Tr.iaddN dL_law_445 (Eq.refl 446) ?_
    refine Tr.sald dL_law_446 (show _ < E.2.2 301 by omega) hLL (Eq.refl 447) ?_
    refine Tr.lawM (As := [.int (sx E (6 * j + 1)), .int (sx E (6 * j + 2))]) h2 dL_law_447 (kL_52 (Nat.le_of_ble_eq_true rfl)) iX10_lets rfl rfl rfl rfl rfl rfl (Eq.refl 450) ?_
    refine Tr.icmp_eq (tgt := 1159) dL_law_450 (by decide) (Eq.refl 453) (fun h450 => ?_) (fun h450 => ?_)
    · skip
      refine Tr.iinc dL_law_1159 rfl rfl rfl rfl (Eq.refl 1162) ?_
      refine Tr.goto (pc' := 18) dL_law_1162 (by decide) ?_
      rw [law_6]
      exact hw
    · exact absurd rfl h450
set_option maxHeartbeats 4000000 in
set_option maxRecDepth 100000 in
theorem law_chance (E : EnvT) (ad : Nat → Nat) (kb nb j : Nat) (x : Xst) (m : Mst) (hR : RR (400 * j) x m) (hj : j < 512) (hL : 6 * j + 5 < E.2.2 301) (hLL : E.2.2 301 ≤ 3072) (ih : ∀ x m, RR (400 * (j + 1)) x m → ∃ w0, Tr (E, mL_law, ad, some (.int (bI true)), w0) kb nb 18 [some (.ref (E.2.2 300)), some (.ref (ad 0)), some (.ref (ad 159)), some (.int (nI (6 * (j + 1))))] [] (WW E ad x m)) (hk : sx E (6 * j) &&& nI 63 = nI 9) : ∃ w0, Tr (E, mL_law, ad, some (.int (bI true)), w0) kb nb 18 [some (.ref (E.2.2 300)), some (.ref (ad 0)), some (.ref (ad 159)), some (.int (nI (6 * j)))] [] (WW E ad x m) := by
  obtain ⟨r, x', m', hR', h1, h2⟩ := pr_chance E (400 * j) x m (sx E (6 * j + 1)) hR (by omega)
  obtain ⟨w0, hw⟩ := ih x' m' hR'
  refine ⟨w0, ?_⟩
  refine Tr.iload_n (i := 3) dL_law_18 rfl rfl (Eq.refl 19) ?_
  refine Tr.aload_n (i := 0) dL_law_19 rfl rfl (Eq.refl 20) ?_
  refine Tr.slen dL_law_20 (Eq.refl 21) ?_
  refine Tr.bipush (v := nI 6) dL_law_21 (by decide +kernel) (Eq.refl 23) ?_
  refine Tr.isub dL_law_23 (Eq.refl 24) ?_
  refine Tr.icmp_gt (tgt := 1165) dL_law_24 (by decide) (Eq.refl 27) (fun h24 => ?_) (fun h24 => ?_)
  · exact absurd ((law_in hLL (by omega)).mp h24) (by omega)
  · refine Tr.aload_n (i := 0) dL_law_27 rfl rfl (Eq.refl 28) ?_
    refine Tr.iload_n (i := 3) dL_law_28 rfl rfl (Eq.refl 29) ?_
    refine Tr.sald dL_law_29 (show _ < E.2.2 301 by omega) hLL (Eq.refl 30) ?_
    refine Tr.bipush (v := nI 63) dL_law_30 (by decide +kernel) (Eq.refl 32) ?_
    refine Tr.iand dL_law_32 (Eq.refl 33) ?_
    skip
    refine Tr.tsIn (off := 422) (tgt := 455) dL_law_33 (by rw [hk]; decide) (by rw [hk]; decide) (by rw [hk]; rfl) (by decide) ?_
    refine Tr.aload_n (i := 1) dL_law_455 rfl rfl (Eq.refl 456) ?_
    refine Tr.aload_n (i := 0) dL_law_456 rfl rfl (Eq.refl 457) ?_
    refine Tr.iload_n (i := 3) dL_law_457 rfl rfl (Eq.refl 458) ?_
    refine Tr.iconst (v := nI 1) dL_law_458 (icN 1) (Eq.refl 459) ?_
    refine Tr.iaddN dL_law_459 (Eq.refl 460) ?_
    refine Tr.sald dL_law_460 (show _ < E.2.2 301 by omega) hLL (Eq.refl 461) ?_
    refine Tr.lawX (As := [.int (sx E (6 * j + 1))]) h1 dL_law_461 (kL_53 (Nat.le_of_ble_eq_true rfl)) iX9_chance rfl rfl rfl rfl rfl rfl (Eq.refl 464) ?_
    refine Tr.aload_n (i := 2) dL_law_464 rfl rfl (Eq.refl 465) ?_
    refine Tr.aload_n (i := 0) dL_law_465 rfl rfl (Eq.refl 466) ?_
    refine Tr.iload_n (i := 3) dL_law_466 rfl rfl (Eq.refl 467) ?_
    refine Tr.iconst (v := nI 1) dL_law_467 (icN 1) (Eq.refl 468) ?_
    refine Tr.iaddN dL_law_468 (Eq.refl 469) ?_
    refine Tr.sald dL_law_469 (show _ < E.2.2 301 by omega) hLL (Eq.refl 470) ?_
    refine Tr.lawM (As := [.int (sx E (6 * j + 1))]) h2 dL_law_470 (kL_56 (Nat.le_of_ble_eq_true rfl)) iX10_chance rfl rfl rfl rfl rfl rfl (Eq.refl 473) ?_
    refine Tr.icmp_eq (tgt := 1159) dL_law_473 (by decide) (Eq.refl 476) (fun h473 => ?_) (fun h473 => ?_)
    · skip
      refine Tr.iinc dL_law_1159 rfl rfl rfl rfl (Eq.refl 1162) ?_
      refine Tr.goto (pc' := 18) dL_law_1162 (by decide) ?_
      rw [law_6]
      exact hw
    · exact absurd rfl h473
set_option maxHeartbeats 4000000 in
set_option maxRecDepth 100000 in
theorem law_pass (E : EnvT) (ad : Nat → Nat) (kb nb j : Nat) (x : Xst) (m : Mst) (hR : RR (400 * j) x m) (hj : j < 512) (hL : 6 * j + 5 < E.2.2 301) (hLL : E.2.2 301 ≤ 3072) (ih : ∀ x m, RR (400 * (j + 1)) x m → ∃ w0, Tr (E, mL_law, ad, some (.int (bI true)), w0) kb nb 18 [some (.ref (E.2.2 300)), some (.ref (ad 0)), some (.ref (ad 159)), some (.int (nI (6 * (j + 1))))] [] (WW E ad x m)) (hk : sx E (6 * j) &&& nI 63 = nI 10) : ∃ w0, Tr (E, mL_law, ad, some (.int (bI true)), w0) kb nb 18 [some (.ref (E.2.2 300)), some (.ref (ad 0)), some (.ref (ad 159)), some (.int (nI (6 * j)))] [] (WW E ad x m) := by
  obtain ⟨r, x', m', hR', h1, h2⟩ := pr_pass E (400 * j) x m (sx E (6 * j + 1)) hR (by omega)
  obtain ⟨w0, hw⟩ := ih x' m' hR'
  refine ⟨w0, ?_⟩
  refine Tr.iload_n (i := 3) dL_law_18 rfl rfl (Eq.refl 19) ?_
  refine Tr.aload_n (i := 0) dL_law_19 rfl rfl (Eq.refl 20) ?_
  refine Tr.slen dL_law_20 (Eq.refl 21) ?_
  refine Tr.bipush (v := nI 6) dL_law_21 (by decide +kernel) (Eq.refl 23) ?_
  refine Tr.isub dL_law_23 (Eq.refl 24) ?_
  refine Tr.icmp_gt (tgt := 1165) dL_law_24 (by decide) (Eq.refl 27) (fun h24 => ?_) (fun h24 => ?_)
  · exact absurd ((law_in hLL (by omega)).mp h24) (by omega)
  · refine Tr.aload_n (i := 0) dL_law_27 rfl rfl (Eq.refl 28) ?_
    refine Tr.iload_n (i := 3) dL_law_28 rfl rfl (Eq.refl 29) ?_
    refine Tr.sald dL_law_29 (show _ < E.2.2 301 by omega) hLL (Eq.refl 30) ?_
    refine Tr.bipush (v := nI 63) dL_law_30 (by decide +kernel) (Eq.refl 32) ?_
    refine Tr.iand dL_law_32 (Eq.refl 33) ?_
    skip
    refine Tr.tsIn (off := 445) (tgt := 478) dL_law_33 (by rw [hk]; decide) (by rw [hk]; decide) (by rw [hk]; rfl) (by decide) ?_
    refine Tr.aload_n (i := 1) dL_law_478 rfl rfl (Eq.refl 479) ?_
    refine Tr.aload_n (i := 0) dL_law_479 rfl rfl (Eq.refl 480) ?_
    refine Tr.iload_n (i := 3) dL_law_480 rfl rfl (Eq.refl 481) ?_
    refine Tr.iconst (v := nI 1) dL_law_481 (icN 1) (Eq.refl 482) ?_
    refine Tr.iaddN dL_law_482 (Eq.refl 483) ?_
    refine Tr.sald dL_law_483 (show _ < E.2.2 301 by omega) hLL (Eq.refl 484) ?_
    refine Tr.lawX (As := [.int (sx E (6 * j + 1))]) h1 dL_law_484 (kL_57 (Nat.le_of_ble_eq_true rfl)) iX9_pass rfl rfl rfl rfl rfl rfl (Eq.refl 487) ?_
    refine Tr.aload_n (i := 2) dL_law_487 rfl rfl (Eq.refl 488) ?_
    refine Tr.aload_n (i := 0) dL_law_488 rfl rfl (Eq.refl 489) ?_
    refine Tr.iload_n (i := 3) dL_law_489 rfl rfl (Eq.refl 490) ?_
    refine Tr.iconst (v := nI 1) dL_law_490 (icN 1) (Eq.refl 491) ?_
    refine Tr.iaddN dL_law_491 (Eq.refl 492) ?_
    refine Tr.sald dL_law_492 (show _ < E.2.2 301 by omega) hLL (Eq.refl 493) ?_
    refine Tr.lawM (As := [.int (sx E (6 * j + 1))]) h2 dL_law_493 (kL_60 (Nat.le_of_ble_eq_true rfl)) iX10_pass rfl rfl rfl rfl rfl rfl (Eq.refl 496) ?_
    refine Tr.icmp_eq (tgt := 1159) dL_law_496 (by decide) (Eq.refl 499) (fun h496 => ?_) (fun h496 => ?_)
    · skip
      refine Tr.iinc dL_law_1159 rfl rfl rfl rfl (Eq.refl 1162) ?_
      refine Tr.goto (pc' := 18) dL_law_1162 (by decide) ?_
      rw [law_6]
      exact hw
    · exact absurd rfl h496
set_option maxHeartbeats 4000000 in
set_option maxRecDepth 100000 in
theorem law_who (E : EnvT) (ad : Nat → Nat) (kb nb j : Nat) (x : Xst) (m : Mst) (hR : RR (400 * j) x m) (hj : j < 512) (hL : 6 * j + 5 < E.2.2 301) (hLL : E.2.2 301 ≤ 3072) (ih : ∀ x m, RR (400 * (j + 1)) x m → ∃ w0, Tr (E, mL_law, ad, some (.int (bI true)), w0) kb nb 18 [some (.ref (E.2.2 300)), some (.ref (ad 0)), some (.ref (ad 159)), some (.int (nI (6 * (j + 1))))] [] (WW E ad x m)) (hk : sx E (6 * j) &&& nI 63 = nI 11) : ∃ w0, Tr (E, mL_law, ad, some (.int (bI true)), w0) kb nb 18 [some (.ref (E.2.2 300)), some (.ref (ad 0)), some (.ref (ad 159)), some (.int (nI (6 * j)))] [] (WW E ad x m) := by
  obtain ⟨r, x', m', hR', h1, h2⟩ := pr_who E (400 * j) x m (sx E (6 * j + 1)) (sx E (6 * j + 2)) hR (by omega)
  obtain ⟨w0, hw⟩ := ih x' m' hR'
  refine ⟨w0, ?_⟩
  refine Tr.iload_n (i := 3) dL_law_18 rfl rfl (Eq.refl 19) ?_
  refine Tr.aload_n (i := 0) dL_law_19 rfl rfl (Eq.refl 20) ?_
  refine Tr.slen dL_law_20 (Eq.refl 21) ?_
  refine Tr.bipush (v := nI 6) dL_law_21 (by decide +kernel) (Eq.refl 23) ?_
  refine Tr.isub dL_law_23 (Eq.refl 24) ?_
  refine Tr.icmp_gt (tgt := 1165) dL_law_24 (by decide) (Eq.refl 27) (fun h24 => ?_) (fun h24 => ?_)
  · exact absurd ((law_in hLL (by omega)).mp h24) (by omega)
  · refine Tr.aload_n (i := 0) dL_law_27 rfl rfl (Eq.refl 28) ?_
    refine Tr.iload_n (i := 3) dL_law_28 rfl rfl (Eq.refl 29) ?_
    refine Tr.sald dL_law_29 (show _ < E.2.2 301 by omega) hLL (Eq.refl 30) ?_
    refine Tr.bipush (v := nI 63) dL_law_30 (by decide +kernel) (Eq.refl 32) ?_
    refine Tr.iand dL_law_32 (Eq.refl 33) ?_
    skip
    refine Tr.tsIn (off := 468) (tgt := 501) dL_law_33 (by rw [hk]; decide) (by rw [hk]; decide) (by rw [hk]; rfl) (by decide) ?_
    refine Tr.aload_n (i := 1) dL_law_501 rfl rfl (Eq.refl 502) ?_
    refine Tr.aload_n (i := 0) dL_law_502 rfl rfl (Eq.refl 503) ?_
    refine Tr.iload_n (i := 3) dL_law_503 rfl rfl (Eq.refl 504) ?_
    refine Tr.iconst (v := nI 1) dL_law_504 (icN 1) (Eq.refl 505) ?_
    refine Tr.iaddN dL_law_505 (Eq.refl 506) ?_
    refine Tr.sald dL_law_506 (show _ < E.2.2 301 by omega) hLL (Eq.refl 507) ?_
    refine Tr.aload_n (i := 0) dL_law_507 rfl rfl (Eq.refl 508) ?_
    refine Tr.iload_n (i := 3) dL_law_508 rfl rfl (Eq.refl 509) ?_
    refine Tr.iconst (v := nI 2) dL_law_509 (icN 2) (Eq.refl 510) ?_
    refine Tr.iaddN dL_law_510 (Eq.refl 511) ?_
    refine Tr.sald dL_law_511 (show _ < E.2.2 301 by omega) hLL (Eq.refl 512) ?_
    refine Tr.lawX (As := [.int (sx E (6 * j + 1)), .int (sx E (6 * j + 2))]) h1 dL_law_512 (kL_61 (Nat.le_of_ble_eq_true rfl)) iX9_who rfl rfl rfl rfl rfl rfl (Eq.refl 515) ?_
    refine Tr.aload_n (i := 2) dL_law_515 rfl rfl (Eq.refl 516) ?_
    refine Tr.aload_n (i := 0) dL_law_516 rfl rfl (Eq.refl 517) ?_
    refine Tr.iload_n (i := 3) dL_law_517 rfl rfl (Eq.refl 518) ?_
    refine Tr.iconst (v := nI 1) dL_law_518 (icN 1) (Eq.refl 519) ?_
    refine Tr.iaddN dL_law_519 (Eq.refl 520) ?_
    refine Tr.sald dL_law_520 (show _ < E.2.2 301 by omega) hLL (Eq.refl 521) ?_
    refine Tr.aload_n (i := 0) dL_law_521 rfl rfl (Eq.refl 522) ?_
    refine Tr.iload_n (i := 3) dL_law_522 rfl rfl (Eq.refl 523) ?_
    refine Tr.iconst (v := nI 2) dL_law_523 (icN 2) (Eq.refl 524) ?_
    refine Tr.iaddN dL_law_524 (Eq.refl 525) ?_
    refine Tr.sald dL_law_525 (show _ < E.2.2 301 by omega) hLL (Eq.refl 526) ?_
    refine Tr.lawM (As := [.int (sx E (6 * j + 1)), .int (sx E (6 * j + 2))]) h2 dL_law_526 (kL_64 (Nat.le_of_ble_eq_true rfl)) iX10_who rfl rfl rfl rfl rfl rfl (Eq.refl 529) ?_
    refine Tr.icmp_eq (tgt := 1159) dL_law_529 (by decide) (Eq.refl 532) (fun h529 => ?_) (fun h529 => ?_)
    · skip
      refine Tr.iinc dL_law_1159 rfl rfl rfl rfl (Eq.refl 1162) ?_
      refine Tr.goto (pc' := 18) dL_law_1162 (by decide) ?_
      rw [law_6]
      exact hw
    · exact absurd rfl h529
set_option maxHeartbeats 4000000 in
set_option maxRecDepth 100000 in
theorem law_house (E : EnvT) (ad : Nat → Nat) (kb nb j : Nat) (x : Xst) (m : Mst) (hR : RR (400 * j) x m) (hj : j < 512) (hL : 6 * j + 5 < E.2.2 301) (hLL : E.2.2 301 ≤ 3072) (ih : ∀ x m, RR (400 * (j + 1)) x m → ∃ w0, Tr (E, mL_law, ad, some (.int (bI true)), w0) kb nb 18 [some (.ref (E.2.2 300)), some (.ref (ad 0)), some (.ref (ad 159)), some (.int (nI (6 * (j + 1))))] [] (WW E ad x m)) (hk : sx E (6 * j) &&& nI 63 = nI 12) : ∃ w0, Tr (E, mL_law, ad, some (.int (bI true)), w0) kb nb 18 [some (.ref (E.2.2 300)), some (.ref (ad 0)), some (.ref (ad 159)), some (.int (nI (6 * j)))] [] (WW E ad x m) := by
  obtain ⟨r, x', m', hR', h1, h2⟩ := pr_house E (400 * j) x m (sx E (6 * j + 1)) (sx E (6 * j + 2)) hR (by omega)
  obtain ⟨w0, hw⟩ := ih x' m' hR'
  refine ⟨w0, ?_⟩
  refine Tr.iload_n (i := 3) dL_law_18 rfl rfl (Eq.refl 19) ?_
  refine Tr.aload_n (i := 0) dL_law_19 rfl rfl (Eq.refl 20) ?_
  refine Tr.slen dL_law_20 (Eq.refl 21) ?_
  refine Tr.bipush (v := nI 6) dL_law_21 (by decide +kernel) (Eq.refl 23) ?_
  refine Tr.isub dL_law_23 (Eq.refl 24) ?_
  refine Tr.icmp_gt (tgt := 1165) dL_law_24 (by decide) (Eq.refl 27) (fun h24 => ?_) (fun h24 => ?_)
  · exact absurd ((law_in hLL (by omega)).mp h24) (by omega)
  · refine Tr.aload_n (i := 0) dL_law_27 rfl rfl (Eq.refl 28) ?_
    refine Tr.iload_n (i := 3) dL_law_28 rfl rfl (Eq.refl 29) ?_
    refine Tr.sald dL_law_29 (show _ < E.2.2 301 by omega) hLL (Eq.refl 30) ?_
    refine Tr.bipush (v := nI 63) dL_law_30 (by decide +kernel) (Eq.refl 32) ?_
    refine Tr.iand dL_law_32 (Eq.refl 33) ?_
    skip
    refine Tr.tsIn (off := 501) (tgt := 534) dL_law_33 (by rw [hk]; decide) (by rw [hk]; decide) (by rw [hk]; rfl) (by decide) ?_
    refine Tr.aload_n (i := 1) dL_law_534 rfl rfl (Eq.refl 535) ?_
    refine Tr.aload_n (i := 0) dL_law_535 rfl rfl (Eq.refl 536) ?_
    refine Tr.iload_n (i := 3) dL_law_536 rfl rfl (Eq.refl 537) ?_
    refine Tr.iconst (v := nI 1) dL_law_537 (icN 1) (Eq.refl 538) ?_
    refine Tr.iaddN dL_law_538 (Eq.refl 539) ?_
    refine Tr.sald dL_law_539 (show _ < E.2.2 301 by omega) hLL (Eq.refl 540) ?_
    refine Tr.aload_n (i := 0) dL_law_540 rfl rfl (Eq.refl 541) ?_
    refine Tr.iload_n (i := 3) dL_law_541 rfl rfl (Eq.refl 542) ?_
    refine Tr.iconst (v := nI 2) dL_law_542 (icN 2) (Eq.refl 543) ?_
    refine Tr.iaddN dL_law_543 (Eq.refl 544) ?_
    refine Tr.sald dL_law_544 (show _ < E.2.2 301 by omega) hLL (Eq.refl 545) ?_
    refine Tr.lawX (As := [.int (sx E (6 * j + 1)), .int (sx E (6 * j + 2))]) h1 dL_law_545 (kL_65 (Nat.le_of_ble_eq_true rfl)) iX9_house rfl rfl rfl rfl rfl rfl (Eq.refl 548) ?_
    refine Tr.aload_n (i := 2) dL_law_548 rfl rfl (Eq.refl 549) ?_
    refine Tr.aload_n (i := 0) dL_law_549 rfl rfl (Eq.refl 550) ?_
    refine Tr.iload_n (i := 3) dL_law_550 rfl rfl (Eq.refl 551) ?_
    refine Tr.iconst (v := nI 1) dL_law_551 (icN 1) (Eq.refl 552) ?_
    refine Tr.iaddN dL_law_552 (Eq.refl 553) ?_
    refine Tr.sald dL_law_553 (show _ < E.2.2 301 by omega) hLL (Eq.refl 554) ?_
    refine Tr.aload_n (i := 0) dL_law_554 rfl rfl (Eq.refl 555) ?_
    refine Tr.iload_n (i := 3) dL_law_555 rfl rfl (Eq.refl 556) ?_
    refine Tr.iconst (v := nI 2) dL_law_556 (icN 2) (Eq.refl 557) ?_
    refine Tr.iaddN dL_law_557 (Eq.refl 558) ?_
    refine Tr.sald dL_law_558 (show _ < E.2.2 301 by omega) hLL (Eq.refl 559) ?_
    refine Tr.lawM (As := [.int (sx E (6 * j + 1)), .int (sx E (6 * j + 2))]) h2 dL_law_559 (kL_68 (Nat.le_of_ble_eq_true rfl)) iX10_house rfl rfl rfl rfl rfl rfl (Eq.refl 562) ?_
    refine Tr.icmp_eq (tgt := 1159) dL_law_562 (by decide) (Eq.refl 565) (fun h562 => ?_) (fun h562 => ?_)
    · skip
      refine Tr.iinc dL_law_1159 rfl rfl rfl rfl (Eq.refl 1162) ?_
      refine Tr.goto (pc' := 18) dL_law_1162 (by decide) ?_
      rw [law_6]
      exact hw
    · exact absurd rfl h562
set_option maxHeartbeats 4000000 in
set_option maxRecDepth 100000 in
theorem law_word (E : EnvT) (ad : Nat → Nat) (kb nb j : Nat) (x : Xst) (m : Mst) (hR : RR (400 * j) x m) (hj : j < 512) (hL : 6 * j + 5 < E.2.2 301) (hLL : E.2.2 301 ≤ 3072) (ih : ∀ x m, RR (400 * (j + 1)) x m → ∃ w0, Tr (E, mL_law, ad, some (.int (bI true)), w0) kb nb 18 [some (.ref (E.2.2 300)), some (.ref (ad 0)), some (.ref (ad 159)), some (.int (nI (6 * (j + 1))))] [] (WW E ad x m)) (hk : sx E (6 * j) &&& nI 63 = nI 13) : ∃ w0, Tr (E, mL_law, ad, some (.int (bI true)), w0) kb nb 18 [some (.ref (E.2.2 300)), some (.ref (ad 0)), some (.ref (ad 159)), some (.int (nI (6 * j)))] [] (WW E ad x m) := by
  obtain ⟨r, x', m', hR', h1, h2⟩ := pr_word E (400 * j) x m (sx E (6 * j + 1)) hR (by omega)
  obtain ⟨w0, hw⟩ := ih x' m' hR'
  refine ⟨w0, ?_⟩
  refine Tr.iload_n (i := 3) dL_law_18 rfl rfl (Eq.refl 19) ?_
  refine Tr.aload_n (i := 0) dL_law_19 rfl rfl (Eq.refl 20) ?_
  refine Tr.slen dL_law_20 (Eq.refl 21) ?_
  refine Tr.bipush (v := nI 6) dL_law_21 (by decide +kernel) (Eq.refl 23) ?_
  refine Tr.isub dL_law_23 (Eq.refl 24) ?_
  refine Tr.icmp_gt (tgt := 1165) dL_law_24 (by decide) (Eq.refl 27) (fun h24 => ?_) (fun h24 => ?_)
  · exact absurd ((law_in hLL (by omega)).mp h24) (by omega)
  · refine Tr.aload_n (i := 0) dL_law_27 rfl rfl (Eq.refl 28) ?_
    refine Tr.iload_n (i := 3) dL_law_28 rfl rfl (Eq.refl 29) ?_
    refine Tr.sald dL_law_29 (show _ < E.2.2 301 by omega) hLL (Eq.refl 30) ?_
    refine Tr.bipush (v := nI 63) dL_law_30 (by decide +kernel) (Eq.refl 32) ?_
    refine Tr.iand dL_law_32 (Eq.refl 33) ?_
    skip
    refine Tr.tsIn (off := 534) (tgt := 567) dL_law_33 (by rw [hk]; decide) (by rw [hk]; decide) (by rw [hk]; rfl) (by decide) ?_
    refine Tr.aload_n (i := 1) dL_law_567 rfl rfl (Eq.refl 568) ?_
    refine Tr.aload_n (i := 0) dL_law_568 rfl rfl (Eq.refl 569) ?_
    refine Tr.iload_n (i := 3) dL_law_569 rfl rfl (Eq.refl 570) ?_
    refine Tr.iconst (v := nI 1) dL_law_570 (icN 1) (Eq.refl 571) ?_
    refine Tr.iaddN dL_law_571 (Eq.refl 572) ?_
    refine Tr.sald dL_law_572 (show _ < E.2.2 301 by omega) hLL (Eq.refl 573) ?_
    refine Tr.lawX (As := [.int (sx E (6 * j + 1))]) h1 dL_law_573 (kL_69 (Nat.le_of_ble_eq_true rfl)) iX9_word rfl rfl rfl rfl rfl rfl (Eq.refl 576) ?_
    refine Tr.aload_n (i := 2) dL_law_576 rfl rfl (Eq.refl 577) ?_
    refine Tr.aload_n (i := 0) dL_law_577 rfl rfl (Eq.refl 578) ?_
    refine Tr.iload_n (i := 3) dL_law_578 rfl rfl (Eq.refl 579) ?_
    refine Tr.iconst (v := nI 1) dL_law_579 (icN 1) (Eq.refl 580) ?_
    refine Tr.iaddN dL_law_580 (Eq.refl 581) ?_
    refine Tr.sald dL_law_581 (show _ < E.2.2 301 by omega) hLL (Eq.refl 582) ?_
    refine Tr.lawM (As := [.int (sx E (6 * j + 1))]) h2 dL_law_582 (kL_72 (Nat.le_of_ble_eq_true rfl)) iX10_word rfl rfl rfl rfl rfl rfl (Eq.refl 585) ?_
    refine Tr.icmp_eq (tgt := 1159) dL_law_585 (by decide) (Eq.refl 588) (fun h585 => ?_) (fun h585 => ?_)
    · skip
      refine Tr.iinc dL_law_1159 rfl rfl rfl rfl (Eq.refl 1162) ?_
      refine Tr.goto (pc' := 18) dL_law_1162 (by decide) ?_
      rw [law_6]
      exact hw
    · exact absurd rfl h585
set_option maxHeartbeats 4000000 in
set_option maxRecDepth 100000 in
theorem law_keep (E : EnvT) (ad : Nat → Nat) (kb nb j : Nat) (x : Xst) (m : Mst) (hR : RR (400 * j) x m) (hj : j < 512) (hL : 6 * j + 5 < E.2.2 301) (hLL : E.2.2 301 ≤ 3072) (ih : ∀ x m, RR (400 * (j + 1)) x m → ∃ w0, Tr (E, mL_law, ad, some (.int (bI true)), w0) kb nb 18 [some (.ref (E.2.2 300)), some (.ref (ad 0)), some (.ref (ad 159)), some (.int (nI (6 * (j + 1))))] [] (WW E ad x m)) (hk : sx E (6 * j) &&& nI 63 = nI 14) : ∃ w0, Tr (E, mL_law, ad, some (.int (bI true)), w0) kb nb 18 [some (.ref (E.2.2 300)), some (.ref (ad 0)), some (.ref (ad 159)), some (.int (nI (6 * j)))] [] (WW E ad x m) := by
  obtain ⟨r, x', m', hR', h1, h2⟩ := pr_keep E (400 * j) x m (sx E (6 * j + 1)) hR (by omega)
  obtain ⟨w0, hw⟩ := ih x' m' hR'
  refine ⟨w0, ?_⟩
  refine Tr.iload_n (i := 3) dL_law_18 rfl rfl (Eq.refl 19) ?_
  refine Tr.aload_n (i := 0) dL_law_19 rfl rfl (Eq.refl 20) ?_
  refine Tr.slen dL_law_20 (Eq.refl 21) ?_
  refine Tr.bipush (v := nI 6) dL_law_21 (by decide +kernel) (Eq.refl 23) ?_
  refine Tr.isub dL_law_23 (Eq.refl 24) ?_
  refine Tr.icmp_gt (tgt := 1165) dL_law_24 (by decide) (Eq.refl 27) (fun h24 => ?_) (fun h24 => ?_)
  · exact absurd ((law_in hLL (by omega)).mp h24) (by omega)
  · refine Tr.aload_n (i := 0) dL_law_27 rfl rfl (Eq.refl 28) ?_
    refine Tr.iload_n (i := 3) dL_law_28 rfl rfl (Eq.refl 29) ?_
    refine Tr.sald dL_law_29 (show _ < E.2.2 301 by omega) hLL (Eq.refl 30) ?_
    refine Tr.bipush (v := nI 63) dL_law_30 (by decide +kernel) (Eq.refl 32) ?_
    refine Tr.iand dL_law_32 (Eq.refl 33) ?_
    skip
    refine Tr.tsIn (off := 557) (tgt := 590) dL_law_33 (by rw [hk]; decide) (by rw [hk]; decide) (by rw [hk]; rfl) (by decide) ?_
    refine Tr.aload_n (i := 1) dL_law_590 rfl rfl (Eq.refl 591) ?_
    refine Tr.aload_n (i := 0) dL_law_591 rfl rfl (Eq.refl 592) ?_
    refine Tr.iload_n (i := 3) dL_law_592 rfl rfl (Eq.refl 593) ?_
    refine Tr.iconst (v := nI 1) dL_law_593 (icN 1) (Eq.refl 594) ?_
    refine Tr.iaddN dL_law_594 (Eq.refl 595) ?_
    refine Tr.sald dL_law_595 (show _ < E.2.2 301 by omega) hLL (Eq.refl 596) ?_
    refine Tr.lawX (As := [.int (sx E (6 * j + 1))]) h1 dL_law_596 (kL_73 (Nat.le_of_ble_eq_true rfl)) iX9_keep rfl rfl rfl rfl rfl rfl (Eq.refl 599) ?_
    refine Tr.aload_n (i := 2) dL_law_599 rfl rfl (Eq.refl 600) ?_
    refine Tr.aload_n (i := 0) dL_law_600 rfl rfl (Eq.refl 601) ?_
    refine Tr.iload_n (i := 3) dL_law_601 rfl rfl (Eq.refl 602) ?_
    refine Tr.iconst (v := nI 1) dL_law_602 (icN 1) (Eq.refl 603) ?_
    refine Tr.iaddN dL_law_603 (Eq.refl 604) ?_
    refine Tr.sald dL_law_604 (show _ < E.2.2 301 by omega) hLL (Eq.refl 605) ?_
    refine Tr.lawM (As := [.int (sx E (6 * j + 1))]) h2 dL_law_605 (kL_76 (Nat.le_of_ble_eq_true rfl)) iX10_keep rfl rfl rfl rfl rfl rfl (Eq.refl 608) ?_
    refine Tr.icmp_eq (tgt := 1159) dL_law_608 (by decide) (Eq.refl 611) (fun h608 => ?_) (fun h608 => ?_)
    · skip
      refine Tr.iinc dL_law_1159 rfl rfl rfl rfl (Eq.refl 1162) ?_
      refine Tr.goto (pc' := 18) dL_law_1162 (by decide) ?_
      rw [law_6]
      exact hw
    · exact absurd rfl h608
set_option maxHeartbeats 4000000 in
set_option maxRecDepth 100000 in
theorem law_take (E : EnvT) (ad : Nat → Nat) (kb nb j : Nat) (x : Xst) (m : Mst) (hR : RR (400 * j) x m) (hj : j < 512) (hL : 6 * j + 5 < E.2.2 301) (hLL : E.2.2 301 ≤ 3072) (ih : ∀ x m, RR (400 * (j + 1)) x m → ∃ w0, Tr (E, mL_law, ad, some (.int (bI true)), w0) kb nb 18 [some (.ref (E.2.2 300)), some (.ref (ad 0)), some (.ref (ad 159)), some (.int (nI (6 * (j + 1))))] [] (WW E ad x m)) (hk : sx E (6 * j) &&& nI 63 = nI 15) : ∃ w0, Tr (E, mL_law, ad, some (.int (bI true)), w0) kb nb 18 [some (.ref (E.2.2 300)), some (.ref (ad 0)), some (.ref (ad 159)), some (.int (nI (6 * j)))] [] (WW E ad x m) := by
  obtain ⟨r, x', m', hR', h1, h2⟩ := pr_take E (400 * j) x m (sx E (6 * j + 1)) hR (by omega)
  obtain ⟨w0, hw⟩ := ih x' m' hR'
  refine ⟨w0, ?_⟩
  refine Tr.iload_n (i := 3) dL_law_18 rfl rfl (Eq.refl 19) ?_
  refine Tr.aload_n (i := 0) dL_law_19 rfl rfl (Eq.refl 20) ?_
  refine Tr.slen dL_law_20 (Eq.refl 21) ?_
  refine Tr.bipush (v := nI 6) dL_law_21 (by decide +kernel) (Eq.refl 23) ?_
  refine Tr.isub dL_law_23 (Eq.refl 24) ?_
  refine Tr.icmp_gt (tgt := 1165) dL_law_24 (by decide) (Eq.refl 27) (fun h24 => ?_) (fun h24 => ?_)
  · exact absurd ((law_in hLL (by omega)).mp h24) (by omega)
  · refine Tr.aload_n (i := 0) dL_law_27 rfl rfl (Eq.refl 28) ?_
    refine Tr.iload_n (i := 3) dL_law_28 rfl rfl (Eq.refl 29) ?_
    refine Tr.sald dL_law_29 (show _ < E.2.2 301 by omega) hLL (Eq.refl 30) ?_
    refine Tr.bipush (v := nI 63) dL_law_30 (by decide +kernel) (Eq.refl 32) ?_
    refine Tr.iand dL_law_32 (Eq.refl 33) ?_
    skip
    refine Tr.tsIn (off := 580) (tgt := 613) dL_law_33 (by rw [hk]; decide) (by rw [hk]; decide) (by rw [hk]; rfl) (by decide) ?_
    refine Tr.aload_n (i := 1) dL_law_613 rfl rfl (Eq.refl 614) ?_
    refine Tr.aload_n (i := 0) dL_law_614 rfl rfl (Eq.refl 615) ?_
    refine Tr.iload_n (i := 3) dL_law_615 rfl rfl (Eq.refl 616) ?_
    refine Tr.iconst (v := nI 1) dL_law_616 (icN 1) (Eq.refl 617) ?_
    refine Tr.iaddN dL_law_617 (Eq.refl 618) ?_
    refine Tr.sald dL_law_618 (show _ < E.2.2 301 by omega) hLL (Eq.refl 619) ?_
    refine Tr.lawX (As := [.int (sx E (6 * j + 1))]) h1 dL_law_619 (kL_77 (Nat.le_of_ble_eq_true rfl)) iX9_take rfl rfl rfl rfl rfl rfl (Eq.refl 622) ?_
    refine Tr.aload_n (i := 2) dL_law_622 rfl rfl (Eq.refl 623) ?_
    refine Tr.aload_n (i := 0) dL_law_623 rfl rfl (Eq.refl 624) ?_
    refine Tr.iload_n (i := 3) dL_law_624 rfl rfl (Eq.refl 625) ?_
    refine Tr.iconst (v := nI 1) dL_law_625 (icN 1) (Eq.refl 626) ?_
    refine Tr.iaddN dL_law_626 (Eq.refl 627) ?_
    refine Tr.sald dL_law_627 (show _ < E.2.2 301 by omega) hLL (Eq.refl 628) ?_
    refine Tr.lawM (As := [.int (sx E (6 * j + 1))]) h2 dL_law_628 (kL_80 (Nat.le_of_ble_eq_true rfl)) iX10_take rfl rfl rfl rfl rfl rfl (Eq.refl 631) ?_
    refine Tr.icmp_eq (tgt := 1159) dL_law_631 (by decide) (Eq.refl 634) (fun h631 => ?_) (fun h631 => ?_)
    · skip
      refine Tr.iinc dL_law_1159 rfl rfl rfl rfl (Eq.refl 1162) ?_
      refine Tr.goto (pc' := 18) dL_law_1162 (by decide) ?_
      rw [law_6]
      exact hw
    · exact absurd rfl h631
set_option maxHeartbeats 4000000 in
set_option maxRecDepth 100000 in
theorem law_sum (E : EnvT) (ad : Nat → Nat) (kb nb j : Nat) (x : Xst) (m : Mst) (hR : RR (400 * j) x m) (hj : j < 512) (hL : 6 * j + 5 < E.2.2 301) (hLL : E.2.2 301 ≤ 3072) (ih : ∀ x m, RR (400 * (j + 1)) x m → ∃ w0, Tr (E, mL_law, ad, some (.int (bI true)), w0) kb nb 18 [some (.ref (E.2.2 300)), some (.ref (ad 0)), some (.ref (ad 159)), some (.int (nI (6 * (j + 1))))] [] (WW E ad x m)) (hk : sx E (6 * j) &&& nI 63 = nI 16) : ∃ w0, Tr (E, mL_law, ad, some (.int (bI true)), w0) kb nb 18 [some (.ref (E.2.2 300)), some (.ref (ad 0)), some (.ref (ad 159)), some (.int (nI (6 * j)))] [] (WW E ad x m) := by
  obtain ⟨r, x', m', hR', h1, h2⟩ := pr_sum E (400 * j) x m (sx E (6 * j + 1)) hR (by omega)
  obtain ⟨w0, hw⟩ := ih x' m' hR'
  refine ⟨w0, ?_⟩
  refine Tr.iload_n (i := 3) dL_law_18 rfl rfl (Eq.refl 19) ?_
  refine Tr.aload_n (i := 0) dL_law_19 rfl rfl (Eq.refl 20) ?_
  refine Tr.slen dL_law_20 (Eq.refl 21) ?_
  refine Tr.bipush (v := nI 6) dL_law_21 (by decide +kernel) (Eq.refl 23) ?_
  refine Tr.isub dL_law_23 (Eq.refl 24) ?_
  refine Tr.icmp_gt (tgt := 1165) dL_law_24 (by decide) (Eq.refl 27) (fun h24 => ?_) (fun h24 => ?_)
  · exact absurd ((law_in hLL (by omega)).mp h24) (by omega)
  · refine Tr.aload_n (i := 0) dL_law_27 rfl rfl (Eq.refl 28) ?_
    refine Tr.iload_n (i := 3) dL_law_28 rfl rfl (Eq.refl 29) ?_
    refine Tr.sald dL_law_29 (show _ < E.2.2 301 by omega) hLL (Eq.refl 30) ?_
    refine Tr.bipush (v := nI 63) dL_law_30 (by decide +kernel) (Eq.refl 32) ?_
    refine Tr.iand dL_law_32 (Eq.refl 33) ?_
    skip
    refine Tr.tsIn (off := 603) (tgt := 636) dL_law_33 (by rw [hk]; decide) (by rw [hk]; decide) (by rw [hk]; rfl) (by decide) ?_
    refine Tr.aload_n (i := 1) dL_law_636 rfl rfl (Eq.refl 637) ?_
    refine Tr.aload_n (i := 0) dL_law_637 rfl rfl (Eq.refl 638) ?_
    refine Tr.iload_n (i := 3) dL_law_638 rfl rfl (Eq.refl 639) ?_
    refine Tr.iconst (v := nI 1) dL_law_639 (icN 1) (Eq.refl 640) ?_
    refine Tr.iaddN dL_law_640 (Eq.refl 641) ?_
    refine Tr.sald dL_law_641 (show _ < E.2.2 301 by omega) hLL (Eq.refl 642) ?_
    refine Tr.lawX (As := [.int (sx E (6 * j + 1))]) h1 dL_law_642 (kL_81 (Nat.le_of_ble_eq_true rfl)) iX9_sum rfl rfl rfl rfl rfl rfl (Eq.refl 645) ?_
    refine Tr.aload_n (i := 2) dL_law_645 rfl rfl (Eq.refl 646) ?_
    refine Tr.aload_n (i := 0) dL_law_646 rfl rfl (Eq.refl 647) ?_
    refine Tr.iload_n (i := 3) dL_law_647 rfl rfl (Eq.refl 648) ?_
    refine Tr.iconst (v := nI 1) dL_law_648 (icN 1) (Eq.refl 649) ?_
    refine Tr.iaddN dL_law_649 (Eq.refl 650) ?_
    refine Tr.sald dL_law_650 (show _ < E.2.2 301 by omega) hLL (Eq.refl 651) ?_
    refine Tr.lawM (As := [.int (sx E (6 * j + 1))]) h2 dL_law_651 (kL_84 (Nat.le_of_ble_eq_true rfl)) iX10_sum rfl rfl rfl rfl rfl rfl (Eq.refl 654) ?_
    refine Tr.icmp_eq (tgt := 1159) dL_law_654 (by decide) (Eq.refl 657) (fun h654 => ?_) (fun h654 => ?_)
    · skip
      refine Tr.iinc dL_law_1159 rfl rfl rfl rfl (Eq.refl 1162) ?_
      refine Tr.goto (pc' := 18) dL_law_1162 (by decide) ?_
      rw [law_6]
      exact hw
    · exact absurd rfl h654
set_option maxHeartbeats 4000000 in
set_option maxRecDepth 100000 in
theorem law_best (E : EnvT) (ad : Nat → Nat) (kb nb j : Nat) (x : Xst) (m : Mst) (hR : RR (400 * j) x m) (hj : j < 512) (hL : 6 * j + 5 < E.2.2 301) (hLL : E.2.2 301 ≤ 3072) (ih : ∀ x m, RR (400 * (j + 1)) x m → ∃ w0, Tr (E, mL_law, ad, some (.int (bI true)), w0) kb nb 18 [some (.ref (E.2.2 300)), some (.ref (ad 0)), some (.ref (ad 159)), some (.int (nI (6 * (j + 1))))] [] (WW E ad x m)) (hk : sx E (6 * j) &&& nI 63 = nI 17) : ∃ w0, Tr (E, mL_law, ad, some (.int (bI true)), w0) kb nb 18 [some (.ref (E.2.2 300)), some (.ref (ad 0)), some (.ref (ad 159)), some (.int (nI (6 * j)))] [] (WW E ad x m) := by
  obtain ⟨r, x', m', hR', h1, h2⟩ := pr_best E (400 * j) x m (sx E (6 * j + 1)) (sx E (6 * j + 2)) hR (by omega)
  obtain ⟨w0, hw⟩ := ih x' m' hR'
  refine ⟨w0, ?_⟩
  refine Tr.iload_n (i := 3) dL_law_18 rfl rfl (Eq.refl 19) ?_
  refine Tr.aload_n (i := 0) dL_law_19 rfl rfl (Eq.refl 20) ?_
  refine Tr.slen dL_law_20 (Eq.refl 21) ?_
  refine Tr.bipush (v := nI 6) dL_law_21 (by decide +kernel) (Eq.refl 23) ?_
  refine Tr.isub dL_law_23 (Eq.refl 24) ?_
  refine Tr.icmp_gt (tgt := 1165) dL_law_24 (by decide) (Eq.refl 27) (fun h24 => ?_) (fun h24 => ?_)
  · exact absurd ((law_in hLL (by omega)).mp h24) (by omega)
  · refine Tr.aload_n (i := 0) dL_law_27 rfl rfl (Eq.refl 28) ?_
    refine Tr.iload_n (i := 3) dL_law_28 rfl rfl (Eq.refl 29) ?_
    refine Tr.sald dL_law_29 (show _ < E.2.2 301 by omega) hLL (Eq.refl 30) ?_
    refine Tr.bipush (v := nI 63) dL_law_30 (by decide +kernel) (Eq.refl 32) ?_
    refine Tr.iand dL_law_32 (Eq.refl 33) ?_
    skip
    refine Tr.tsIn (off := 626) (tgt := 659) dL_law_33 (by rw [hk]; decide) (by rw [hk]; decide) (by rw [hk]; rfl) (by decide) ?_
    refine Tr.aload_n (i := 1) dL_law_659 rfl rfl (Eq.refl 660) ?_
    refine Tr.aload_n (i := 0) dL_law_660 rfl rfl (Eq.refl 661) ?_
    refine Tr.iload_n (i := 3) dL_law_661 rfl rfl (Eq.refl 662) ?_
    refine Tr.iconst (v := nI 1) dL_law_662 (icN 1) (Eq.refl 663) ?_
    refine Tr.iaddN dL_law_663 (Eq.refl 664) ?_
    refine Tr.sald dL_law_664 (show _ < E.2.2 301 by omega) hLL (Eq.refl 665) ?_
    refine Tr.aload_n (i := 0) dL_law_665 rfl rfl (Eq.refl 666) ?_
    refine Tr.iload_n (i := 3) dL_law_666 rfl rfl (Eq.refl 667) ?_
    refine Tr.iconst (v := nI 2) dL_law_667 (icN 2) (Eq.refl 668) ?_
    refine Tr.iaddN dL_law_668 (Eq.refl 669) ?_
    refine Tr.sald dL_law_669 (show _ < E.2.2 301 by omega) hLL (Eq.refl 670) ?_
    refine Tr.lawX (As := [.int (sx E (6 * j + 1)), .int (sx E (6 * j + 2))]) h1 dL_law_670 (kL_85 (Nat.le_of_ble_eq_true rfl)) iX9_best rfl rfl rfl rfl rfl rfl (Eq.refl 673) ?_
    refine Tr.aload_n (i := 2) dL_law_673 rfl rfl (Eq.refl 674) ?_
    refine Tr.aload_n (i := 0) dL_law_674 rfl rfl (Eq.refl 675) ?_
    refine Tr.iload_n (i := 3) dL_law_675 rfl rfl (Eq.refl 676) ?_
    refine Tr.iconst (v := nI 1) dL_law_676 (icN 1) (Eq.refl 677) ?_
    refine Tr.iaddN dL_law_677 (Eq.refl 678) ?_
    refine Tr.sald dL_law_678 (show _ < E.2.2 301 by omega) hLL (Eq.refl 679) ?_
    refine Tr.aload_n (i := 0) dL_law_679 rfl rfl (Eq.refl 680) ?_
    refine Tr.iload_n (i := 3) dL_law_680 rfl rfl (Eq.refl 681) ?_
    refine Tr.iconst (v := nI 2) dL_law_681 (icN 2) (Eq.refl 682) ?_
    refine Tr.iaddN dL_law_682 (Eq.refl 683) ?_
    refine Tr.sald dL_law_683 (show _ < E.2.2 301 by omega) hLL (Eq.refl 684) ?_
    refine Tr.lawM (As := [.int (sx E (6 * j + 1)), .int (sx E (6 * j + 2))]) h2 dL_law_684 (kL_88 (Nat.le_of_ble_eq_true rfl)) iX10_best rfl rfl rfl rfl rfl rfl (Eq.refl 687) ?_
    refine Tr.icmp_eq (tgt := 1159) dL_law_687 (by decide) (Eq.refl 690) (fun h687 => ?_) (fun h687 => ?_)
    · skip
      refine Tr.iinc dL_law_1159 rfl rfl rfl rfl (Eq.refl 1162) ?_
      refine Tr.goto (pc' := 18) dL_law_1162 (by decide) ?_
      rw [law_6]
      exact hw
    · exact absurd rfl h687
set_option maxHeartbeats 4000000 in
set_option maxRecDepth 100000 in
theorem law_rests (E : EnvT) (ad : Nat → Nat) (kb nb j : Nat) (x : Xst) (m : Mst) (hR : RR (400 * j) x m) (hj : j < 512) (hL : 6 * j + 5 < E.2.2 301) (hLL : E.2.2 301 ≤ 3072) (ih : ∀ x m, RR (400 * (j + 1)) x m → ∃ w0, Tr (E, mL_law, ad, some (.int (bI true)), w0) kb nb 18 [some (.ref (E.2.2 300)), some (.ref (ad 0)), some (.ref (ad 159)), some (.int (nI (6 * (j + 1))))] [] (WW E ad x m)) (hk : sx E (6 * j) &&& nI 63 = nI 18) : ∃ w0, Tr (E, mL_law, ad, some (.int (bI true)), w0) kb nb 18 [some (.ref (E.2.2 300)), some (.ref (ad 0)), some (.ref (ad 159)), some (.int (nI (6 * j)))] [] (WW E ad x m) := by
  obtain ⟨r, x', m', hR', h1, h2⟩ := pr_rests E (400 * j) x m  hR (by omega)
  obtain ⟨w0, hw⟩ := ih x' m' hR'
  refine ⟨w0, ?_⟩
  refine Tr.iload_n (i := 3) dL_law_18 rfl rfl (Eq.refl 19) ?_
  refine Tr.aload_n (i := 0) dL_law_19 rfl rfl (Eq.refl 20) ?_
  refine Tr.slen dL_law_20 (Eq.refl 21) ?_
  refine Tr.bipush (v := nI 6) dL_law_21 (by decide +kernel) (Eq.refl 23) ?_
  refine Tr.isub dL_law_23 (Eq.refl 24) ?_
  refine Tr.icmp_gt (tgt := 1165) dL_law_24 (by decide) (Eq.refl 27) (fun h24 => ?_) (fun h24 => ?_)
  · exact absurd ((law_in hLL (by omega)).mp h24) (by omega)
  · refine Tr.aload_n (i := 0) dL_law_27 rfl rfl (Eq.refl 28) ?_
    refine Tr.iload_n (i := 3) dL_law_28 rfl rfl (Eq.refl 29) ?_
    refine Tr.sald dL_law_29 (show _ < E.2.2 301 by omega) hLL (Eq.refl 30) ?_
    refine Tr.bipush (v := nI 63) dL_law_30 (by decide +kernel) (Eq.refl 32) ?_
    refine Tr.iand dL_law_32 (Eq.refl 33) ?_
    skip
    refine Tr.tsIn (off := 659) (tgt := 692) dL_law_33 (by rw [hk]; decide) (by rw [hk]; decide) (by rw [hk]; rfl) (by decide) ?_
    refine Tr.aload_n (i := 1) dL_law_692 rfl rfl (Eq.refl 693) ?_
    refine Tr.lawX (As := []) h1 dL_law_693 (kL_89 (Nat.le_of_ble_eq_true rfl)) iX9_rests rfl rfl rfl rfl rfl rfl (Eq.refl 696) ?_
    refine Tr.aload_n (i := 2) dL_law_696 rfl rfl (Eq.refl 697) ?_
    refine Tr.lawM (As := []) h2 dL_law_697 (kL_92 (Nat.le_of_ble_eq_true rfl)) iX10_rests rfl rfl rfl rfl rfl rfl (Eq.refl 700) ?_
    refine Tr.icmp_eq (tgt := 1159) dL_law_700 (by decide) (Eq.refl 703) (fun h700 => ?_) (fun h700 => ?_)
    · skip
      refine Tr.iinc dL_law_1159 rfl rfl rfl rfl (Eq.refl 1162) ?_
      refine Tr.goto (pc' := 18) dL_law_1162 (by decide) ?_
      rw [law_6]
      exact hw
    · exact absurd rfl h700
set_option maxHeartbeats 4000000 in
set_option maxRecDepth 100000 in
theorem law_rest (E : EnvT) (ad : Nat → Nat) (kb nb j : Nat) (x : Xst) (m : Mst) (hR : RR (400 * j) x m) (hj : j < 512) (hL : 6 * j + 5 < E.2.2 301) (hLL : E.2.2 301 ≤ 3072) (ih : ∀ x m, RR (400 * (j + 1)) x m → ∃ w0, Tr (E, mL_law, ad, some (.int (bI true)), w0) kb nb 18 [some (.ref (E.2.2 300)), some (.ref (ad 0)), some (.ref (ad 159)), some (.int (nI (6 * (j + 1))))] [] (WW E ad x m)) (hk : sx E (6 * j) &&& nI 63 = nI 19) : ∃ w0, Tr (E, mL_law, ad, some (.int (bI true)), w0) kb nb 18 [some (.ref (E.2.2 300)), some (.ref (ad 0)), some (.ref (ad 159)), some (.int (nI (6 * j)))] [] (WW E ad x m) := by
  obtain ⟨r, x', m', hR', h1, h2⟩ := pr_rest E (400 * j) x m (sx E (6 * j + 1)) (sx E (6 * j + 2)) hR (by omega)
  obtain ⟨w0, hw⟩ := ih x' m' hR'
  refine ⟨w0, ?_⟩
  refine Tr.iload_n (i := 3) dL_law_18 rfl rfl (Eq.refl 19) ?_
  refine Tr.aload_n (i := 0) dL_law_19 rfl rfl (Eq.refl 20) ?_
  refine Tr.slen dL_law_20 (Eq.refl 21) ?_
  refine Tr.bipush (v := nI 6) dL_law_21 (by decide +kernel) (Eq.refl 23) ?_
  refine Tr.isub dL_law_23 (Eq.refl 24) ?_
  refine Tr.icmp_gt (tgt := 1165) dL_law_24 (by decide) (Eq.refl 27) (fun h24 => ?_) (fun h24 => ?_)
  · exact absurd ((law_in hLL (by omega)).mp h24) (by omega)
  · refine Tr.aload_n (i := 0) dL_law_27 rfl rfl (Eq.refl 28) ?_
    refine Tr.iload_n (i := 3) dL_law_28 rfl rfl (Eq.refl 29) ?_
    refine Tr.sald dL_law_29 (show _ < E.2.2 301 by omega) hLL (Eq.refl 30) ?_
    refine Tr.bipush (v := nI 63) dL_law_30 (by decide +kernel) (Eq.refl 32) ?_
    refine Tr.iand dL_law_32 (Eq.refl 33) ?_
    skip
    refine Tr.tsIn (off := 672) (tgt := 705) dL_law_33 (by rw [hk]; decide) (by rw [hk]; decide) (by rw [hk]; rfl) (by decide) ?_
    refine Tr.aload_n (i := 1) dL_law_705 rfl rfl (Eq.refl 706) ?_
    refine Tr.aload_n (i := 0) dL_law_706 rfl rfl (Eq.refl 707) ?_
    refine Tr.iload_n (i := 3) dL_law_707 rfl rfl (Eq.refl 708) ?_
    refine Tr.iconst (v := nI 1) dL_law_708 (icN 1) (Eq.refl 709) ?_
    refine Tr.iaddN dL_law_709 (Eq.refl 710) ?_
    refine Tr.sald dL_law_710 (show _ < E.2.2 301 by omega) hLL (Eq.refl 711) ?_
    refine Tr.aload_n (i := 0) dL_law_711 rfl rfl (Eq.refl 712) ?_
    refine Tr.iload_n (i := 3) dL_law_712 rfl rfl (Eq.refl 713) ?_
    refine Tr.iconst (v := nI 2) dL_law_713 (icN 2) (Eq.refl 714) ?_
    refine Tr.iaddN dL_law_714 (Eq.refl 715) ?_
    refine Tr.sald dL_law_715 (show _ < E.2.2 301 by omega) hLL (Eq.refl 716) ?_
    refine Tr.lawX (As := [.int (sx E (6 * j + 1)), .int (sx E (6 * j + 2))]) h1 dL_law_716 (kL_93 (Nat.le_of_ble_eq_true rfl)) iX9_rest rfl rfl rfl rfl rfl rfl (Eq.refl 719) ?_
    refine Tr.aload_n (i := 2) dL_law_719 rfl rfl (Eq.refl 720) ?_
    refine Tr.aload_n (i := 0) dL_law_720 rfl rfl (Eq.refl 721) ?_
    refine Tr.iload_n (i := 3) dL_law_721 rfl rfl (Eq.refl 722) ?_
    refine Tr.iconst (v := nI 1) dL_law_722 (icN 1) (Eq.refl 723) ?_
    refine Tr.iaddN dL_law_723 (Eq.refl 724) ?_
    refine Tr.sald dL_law_724 (show _ < E.2.2 301 by omega) hLL (Eq.refl 725) ?_
    refine Tr.aload_n (i := 0) dL_law_725 rfl rfl (Eq.refl 726) ?_
    refine Tr.iload_n (i := 3) dL_law_726 rfl rfl (Eq.refl 727) ?_
    refine Tr.iconst (v := nI 2) dL_law_727 (icN 2) (Eq.refl 728) ?_
    refine Tr.iaddN dL_law_728 (Eq.refl 729) ?_
    refine Tr.sald dL_law_729 (show _ < E.2.2 301 by omega) hLL (Eq.refl 730) ?_
    refine Tr.lawM (As := [.int (sx E (6 * j + 1)), .int (sx E (6 * j + 2))]) h2 dL_law_730 (kL_96 (Nat.le_of_ble_eq_true rfl)) iX10_rest rfl rfl rfl rfl rfl rfl (Eq.refl 733) ?_
    refine Tr.icmp_eq (tgt := 1159) dL_law_733 (by decide) (Eq.refl 736) (fun h733 => ?_) (fun h733 => ?_)
    · skip
      refine Tr.iinc dL_law_1159 rfl rfl rfl rfl (Eq.refl 1162) ?_
      refine Tr.goto (pc' := 18) dL_law_1162 (by decide) ?_
      rw [law_6]
      exact hw
    · exact absurd rfl h733
set_option maxHeartbeats 4000000 in
set_option maxRecDepth 100000 in
theorem law_settle (E : EnvT) (ad : Nat → Nat) (kb nb j : Nat) (x : Xst) (m : Mst) (hR : RR (400 * j) x m) (hj : j < 512) (hL : 6 * j + 5 < E.2.2 301) (hLL : E.2.2 301 ≤ 3072) (ih : ∀ x m, RR (400 * (j + 1)) x m → ∃ w0, Tr (E, mL_law, ad, some (.int (bI true)), w0) kb nb 18 [some (.ref (E.2.2 300)), some (.ref (ad 0)), some (.ref (ad 159)), some (.int (nI (6 * (j + 1))))] [] (WW E ad x m)) (hk : sx E (6 * j) &&& nI 63 = nI 20) : ∃ w0, Tr (E, mL_law, ad, some (.int (bI true)), w0) kb nb 18 [some (.ref (E.2.2 300)), some (.ref (ad 0)), some (.ref (ad 159)), some (.int (nI (6 * j)))] [] (WW E ad x m) := by
  obtain ⟨r, x', m', hR', h1, h2⟩ := pr_settle E (400 * j) x m  hR (by omega)
  obtain ⟨w0, hw⟩ := ih x' m' hR'
  refine ⟨w0, ?_⟩
  refine Tr.iload_n (i := 3) dL_law_18 rfl rfl (Eq.refl 19) ?_
  refine Tr.aload_n (i := 0) dL_law_19 rfl rfl (Eq.refl 20) ?_
  refine Tr.slen dL_law_20 (Eq.refl 21) ?_
  refine Tr.bipush (v := nI 6) dL_law_21 (by decide +kernel) (Eq.refl 23) ?_
  refine Tr.isub dL_law_23 (Eq.refl 24) ?_
  refine Tr.icmp_gt (tgt := 1165) dL_law_24 (by decide) (Eq.refl 27) (fun h24 => ?_) (fun h24 => ?_)
  · exact absurd ((law_in hLL (by omega)).mp h24) (by omega)
  · refine Tr.aload_n (i := 0) dL_law_27 rfl rfl (Eq.refl 28) ?_
    refine Tr.iload_n (i := 3) dL_law_28 rfl rfl (Eq.refl 29) ?_
    refine Tr.sald dL_law_29 (show _ < E.2.2 301 by omega) hLL (Eq.refl 30) ?_
    refine Tr.bipush (v := nI 63) dL_law_30 (by decide +kernel) (Eq.refl 32) ?_
    refine Tr.iand dL_law_32 (Eq.refl 33) ?_
    skip
    refine Tr.tsIn (off := 705) (tgt := 738) dL_law_33 (by rw [hk]; decide) (by rw [hk]; decide) (by rw [hk]; rfl) (by decide) ?_
    refine Tr.aload_n (i := 1) dL_law_738 rfl rfl (Eq.refl 739) ?_
    refine Tr.lawX (As := []) h1 dL_law_739 (kL_97 (Nat.le_of_ble_eq_true rfl)) iX9_settle rfl rfl rfl rfl rfl rfl (Eq.refl 742) ?_
    refine Tr.aload_n (i := 2) dL_law_742 rfl rfl (Eq.refl 743) ?_
    refine Tr.lawM (As := []) h2 dL_law_743 (kL_100 (Nat.le_of_ble_eq_true rfl)) iX10_settle rfl rfl rfl rfl rfl rfl (Eq.refl 746) ?_
    refine Tr.icmp_eq (tgt := 1159) dL_law_746 (by decide) (Eq.refl 749) (fun h746 => ?_) (fun h746 => ?_)
    · skip
      refine Tr.iinc dL_law_1159 rfl rfl rfl rfl (Eq.refl 1162) ?_
      refine Tr.goto (pc' := 18) dL_law_1162 (by decide) ?_
      rw [law_6]
      exact hw
    · exact absurd rfl h746
set_option maxHeartbeats 4000000 in
set_option maxRecDepth 100000 in
theorem law_longer (E : EnvT) (ad : Nat → Nat) (kb nb j : Nat) (x : Xst) (m : Mst) (hR : RR (400 * j) x m) (hj : j < 512) (hL : 6 * j + 5 < E.2.2 301) (hLL : E.2.2 301 ≤ 3072) (ih : ∀ x m, RR (400 * (j + 1)) x m → ∃ w0, Tr (E, mL_law, ad, some (.int (bI true)), w0) kb nb 18 [some (.ref (E.2.2 300)), some (.ref (ad 0)), some (.ref (ad 159)), some (.int (nI (6 * (j + 1))))] [] (WW E ad x m)) (hk : sx E (6 * j) &&& nI 63 = nI 21) : ∃ w0, Tr (E, mL_law, ad, some (.int (bI true)), w0) kb nb 18 [some (.ref (E.2.2 300)), some (.ref (ad 0)), some (.ref (ad 159)), some (.int (nI (6 * j)))] [] (WW E ad x m) := by
  obtain ⟨r, x', m', hR', h1, h2⟩ := pr_longer E (400 * j) x m (sx E (6 * j + 1)) (sx E (6 * j + 2)) (sx E (6 * j + 3)) hR (by omega)
  obtain ⟨w0, hw⟩ := ih x' m' hR'
  refine ⟨w0, ?_⟩
  refine Tr.iload_n (i := 3) dL_law_18 rfl rfl (Eq.refl 19) ?_
  refine Tr.aload_n (i := 0) dL_law_19 rfl rfl (Eq.refl 20) ?_
  refine Tr.slen dL_law_20 (Eq.refl 21) ?_
  refine Tr.bipush (v := nI 6) dL_law_21 (by decide +kernel) (Eq.refl 23) ?_
  refine Tr.isub dL_law_23 (Eq.refl 24) ?_
  refine Tr.icmp_gt (tgt := 1165) dL_law_24 (by decide) (Eq.refl 27) (fun h24 => ?_) (fun h24 => ?_)
  · exact absurd ((law_in hLL (by omega)).mp h24) (by omega)
  · refine Tr.aload_n (i := 0) dL_law_27 rfl rfl (Eq.refl 28) ?_
    refine Tr.iload_n (i := 3) dL_law_28 rfl rfl (Eq.refl 29) ?_
    refine Tr.sald dL_law_29 (show _ < E.2.2 301 by omega) hLL (Eq.refl 30) ?_
    refine Tr.bipush (v := nI 63) dL_law_30 (by decide +kernel) (Eq.refl 32) ?_
    refine Tr.iand dL_law_32 (Eq.refl 33) ?_
    skip
    refine Tr.tsIn (off := 718) (tgt := 751) dL_law_33 (by rw [hk]; decide) (by rw [hk]; decide) (by rw [hk]; rfl) (by decide) ?_
    refine Tr.aload_n (i := 1) dL_law_751 rfl rfl (Eq.refl 752) ?_
    refine Tr.aload_n (i := 0) dL_law_752 rfl rfl (Eq.refl 753) ?_
    refine Tr.iload_n (i := 3) dL_law_753 rfl rfl (Eq.refl 754) ?_
    refine Tr.iconst (v := nI 1) dL_law_754 (icN 1) (Eq.refl 755) ?_
    refine Tr.iaddN dL_law_755 (Eq.refl 756) ?_
    refine Tr.sald dL_law_756 (show _ < E.2.2 301 by omega) hLL (Eq.refl 757) ?_
    refine Tr.aload_n (i := 0) dL_law_757 rfl rfl (Eq.refl 758) ?_
    refine Tr.iload_n (i := 3) dL_law_758 rfl rfl (Eq.refl 759) ?_
    refine Tr.iconst (v := nI 2) dL_law_759 (icN 2) (Eq.refl 760) ?_
    refine Tr.iaddN dL_law_760 (Eq.refl 761) ?_
    refine Tr.sald dL_law_761 (show _ < E.2.2 301 by omega) hLL (Eq.refl 762) ?_
    refine Tr.aload_n (i := 0) dL_law_762 rfl rfl (Eq.refl 763) ?_
    refine Tr.iload_n (i := 3) dL_law_763 rfl rfl (Eq.refl 764) ?_
    refine Tr.iconst (v := nI 3) dL_law_764 (icN 3) (Eq.refl 765) ?_
    refine Tr.iaddN dL_law_765 (Eq.refl 766) ?_
    refine Tr.sald dL_law_766 (show _ < E.2.2 301 by omega) hLL (Eq.refl 767) ?_
    refine Tr.lawX (As := [.int (sx E (6 * j + 1)), .int (sx E (6 * j + 2)), .int (sx E (6 * j + 3))]) h1 dL_law_767 (kL_101 (Nat.le_of_ble_eq_true rfl)) iX9_longer rfl rfl rfl rfl rfl rfl (Eq.refl 770) ?_
    refine Tr.aload_n (i := 2) dL_law_770 rfl rfl (Eq.refl 771) ?_
    refine Tr.aload_n (i := 0) dL_law_771 rfl rfl (Eq.refl 772) ?_
    refine Tr.iload_n (i := 3) dL_law_772 rfl rfl (Eq.refl 773) ?_
    refine Tr.iconst (v := nI 1) dL_law_773 (icN 1) (Eq.refl 774) ?_
    refine Tr.iaddN dL_law_774 (Eq.refl 775) ?_
    refine Tr.sald dL_law_775 (show _ < E.2.2 301 by omega) hLL (Eq.refl 776) ?_
    refine Tr.aload_n (i := 0) dL_law_776 rfl rfl (Eq.refl 777) ?_
    refine Tr.iload_n (i := 3) dL_law_777 rfl rfl (Eq.refl 778) ?_
    refine Tr.iconst (v := nI 2) dL_law_778 (icN 2) (Eq.refl 779) ?_
    refine Tr.iaddN dL_law_779 (Eq.refl 780) ?_
    refine Tr.sald dL_law_780 (show _ < E.2.2 301 by omega) hLL (Eq.refl 781) ?_
    refine Tr.aload_n (i := 0) dL_law_781 rfl rfl (Eq.refl 782) ?_
    refine Tr.iload_n (i := 3) dL_law_782 rfl rfl (Eq.refl 783) ?_
    refine Tr.iconst (v := nI 3) dL_law_783 (icN 3) (Eq.refl 784) ?_
    refine Tr.iaddN dL_law_784 (Eq.refl 785) ?_
    refine Tr.sald dL_law_785 (show _ < E.2.2 301 by omega) hLL (Eq.refl 786) ?_
    refine Tr.lawM (As := [.int (sx E (6 * j + 1)), .int (sx E (6 * j + 2)), .int (sx E (6 * j + 3))]) h2 dL_law_786 (kL_105 (Nat.le_of_ble_eq_true rfl)) iX10_longer rfl rfl rfl rfl rfl rfl (Eq.refl 789) ?_
    refine Tr.icmp_eq (tgt := 1159) dL_law_789 (by decide) (Eq.refl 792) (fun h789 => ?_) (fun h789 => ?_)
    · skip
      refine Tr.iinc dL_law_1159 rfl rfl rfl rfl (Eq.refl 1162) ?_
      refine Tr.goto (pc' := 18) dL_law_1162 (by decide) ?_
      rw [law_6]
      exact hw
    · exact absurd rfl h789
set_option maxHeartbeats 4000000 in
set_option maxRecDepth 100000 in
theorem law_guard (E : EnvT) (ad : Nat → Nat) (kb nb j : Nat) (x : Xst) (m : Mst) (hR : RR (400 * j) x m) (hj : j < 512) (hL : 6 * j + 5 < E.2.2 301) (hLL : E.2.2 301 ≤ 3072) (ih : ∀ x m, RR (400 * (j + 1)) x m → ∃ w0, Tr (E, mL_law, ad, some (.int (bI true)), w0) kb nb 18 [some (.ref (E.2.2 300)), some (.ref (ad 0)), some (.ref (ad 159)), some (.int (nI (6 * (j + 1))))] [] (WW E ad x m)) (hk : sx E (6 * j) &&& nI 63 = nI 22) : ∃ w0, Tr (E, mL_law, ad, some (.int (bI true)), w0) kb nb 18 [some (.ref (E.2.2 300)), some (.ref (ad 0)), some (.ref (ad 159)), some (.int (nI (6 * j)))] [] (WW E ad x m) := by
  obtain ⟨r, x', m', hR', h1, h2⟩ := pr_guard E (400 * j) x m (sx E (6 * j + 1)) (sx E (6 * j + 2)) hR (by omega)
  obtain ⟨w0, hw⟩ := ih x' m' hR'
  refine ⟨w0, ?_⟩
  refine Tr.iload_n (i := 3) dL_law_18 rfl rfl (Eq.refl 19) ?_
  refine Tr.aload_n (i := 0) dL_law_19 rfl rfl (Eq.refl 20) ?_
  refine Tr.slen dL_law_20 (Eq.refl 21) ?_
  refine Tr.bipush (v := nI 6) dL_law_21 (by decide +kernel) (Eq.refl 23) ?_
  refine Tr.isub dL_law_23 (Eq.refl 24) ?_
  refine Tr.icmp_gt (tgt := 1165) dL_law_24 (by decide) (Eq.refl 27) (fun h24 => ?_) (fun h24 => ?_)
  · exact absurd ((law_in hLL (by omega)).mp h24) (by omega)
  · refine Tr.aload_n (i := 0) dL_law_27 rfl rfl (Eq.refl 28) ?_
    refine Tr.iload_n (i := 3) dL_law_28 rfl rfl (Eq.refl 29) ?_
    refine Tr.sald dL_law_29 (show _ < E.2.2 301 by omega) hLL (Eq.refl 30) ?_
    refine Tr.bipush (v := nI 63) dL_law_30 (by decide +kernel) (Eq.refl 32) ?_
    refine Tr.iand dL_law_32 (Eq.refl 33) ?_
    skip
    refine Tr.tsIn (off := 761) (tgt := 794) dL_law_33 (by rw [hk]; decide) (by rw [hk]; decide) (by rw [hk]; rfl) (by decide) ?_
    refine Tr.aload_n (i := 1) dL_law_794 rfl rfl (Eq.refl 795) ?_
    refine Tr.aload_n (i := 0) dL_law_795 rfl rfl (Eq.refl 796) ?_
    refine Tr.iload_n (i := 3) dL_law_796 rfl rfl (Eq.refl 797) ?_
    refine Tr.iconst (v := nI 1) dL_law_797 (icN 1) (Eq.refl 798) ?_
    refine Tr.iaddN dL_law_798 (Eq.refl 799) ?_
    refine Tr.sald dL_law_799 (show _ < E.2.2 301 by omega) hLL (Eq.refl 800) ?_
    refine Tr.aload_n (i := 0) dL_law_800 rfl rfl (Eq.refl 801) ?_
    refine Tr.iload_n (i := 3) dL_law_801 rfl rfl (Eq.refl 802) ?_
    refine Tr.iconst (v := nI 2) dL_law_802 (icN 2) (Eq.refl 803) ?_
    refine Tr.iaddN dL_law_803 (Eq.refl 804) ?_
    refine Tr.sald dL_law_804 (show _ < E.2.2 301 by omega) hLL (Eq.refl 805) ?_
    refine Tr.lawX (As := [.int (sx E (6 * j + 1)), .int (sx E (6 * j + 2))]) h1 dL_law_805 (kL_106 (Nat.le_of_ble_eq_true rfl)) iX9_guard rfl rfl rfl rfl rfl rfl (Eq.refl 808) ?_
    refine Tr.aload_n (i := 2) dL_law_808 rfl rfl (Eq.refl 809) ?_
    refine Tr.aload_n (i := 0) dL_law_809 rfl rfl (Eq.refl 810) ?_
    refine Tr.iload_n (i := 3) dL_law_810 rfl rfl (Eq.refl 811) ?_
    refine Tr.iconst (v := nI 1) dL_law_811 (icN 1) (Eq.refl 812) ?_
    refine Tr.iaddN dL_law_812 (Eq.refl 813) ?_
    refine Tr.sald dL_law_813 (show _ < E.2.2 301 by omega) hLL (Eq.refl 814) ?_
    refine Tr.aload_n (i := 0) dL_law_814 rfl rfl (Eq.refl 815) ?_
    refine Tr.iload_n (i := 3) dL_law_815 rfl rfl (Eq.refl 816) ?_
    refine Tr.iconst (v := nI 2) dL_law_816 (icN 2) (Eq.refl 817) ?_
    refine Tr.iaddN dL_law_817 (Eq.refl 818) ?_
    refine Tr.sald dL_law_818 (show _ < E.2.2 301 by omega) hLL (Eq.refl 819) ?_
    refine Tr.lawM (As := [.int (sx E (6 * j + 1)), .int (sx E (6 * j + 2))]) h2 dL_law_819 (kL_109 (Nat.le_of_ble_eq_true rfl)) iX10_guard rfl rfl rfl rfl rfl rfl (Eq.refl 822) ?_
    refine Tr.icmp_eq (tgt := 1159) dL_law_822 (by decide) (Eq.refl 825) (fun h822 => ?_) (fun h822 => ?_)
    · skip
      refine Tr.iinc dL_law_1159 rfl rfl rfl rfl (Eq.refl 1162) ?_
      refine Tr.goto (pc' := 18) dL_law_1162 (by decide) ?_
      rw [law_6]
      exact hw
    · exact absurd rfl h822
set_option maxHeartbeats 4000000 in
set_option maxRecDepth 100000 in
theorem law_rings (E : EnvT) (ad : Nat → Nat) (kb nb j : Nat) (x : Xst) (m : Mst) (hR : RR (400 * j) x m) (hj : j < 512) (hL : 6 * j + 5 < E.2.2 301) (hLL : E.2.2 301 ≤ 3072) (ih : ∀ x m, RR (400 * (j + 1)) x m → ∃ w0, Tr (E, mL_law, ad, some (.int (bI true)), w0) kb nb 18 [some (.ref (E.2.2 300)), some (.ref (ad 0)), some (.ref (ad 159)), some (.int (nI (6 * (j + 1))))] [] (WW E ad x m)) (hk : sx E (6 * j) &&& nI 63 = nI 23) : ∃ w0, Tr (E, mL_law, ad, some (.int (bI true)), w0) kb nb 18 [some (.ref (E.2.2 300)), some (.ref (ad 0)), some (.ref (ad 159)), some (.int (nI (6 * j)))] [] (WW E ad x m) := by
  obtain ⟨r, x', m', hR', h1, h2⟩ := pr_rings E (400 * j) x m (sx E (6 * j + 1)) hR (by omega)
  obtain ⟨w0, hw⟩ := ih x' m' hR'
  refine ⟨w0, ?_⟩
  refine Tr.iload_n (i := 3) dL_law_18 rfl rfl (Eq.refl 19) ?_
  refine Tr.aload_n (i := 0) dL_law_19 rfl rfl (Eq.refl 20) ?_
  refine Tr.slen dL_law_20 (Eq.refl 21) ?_
  refine Tr.bipush (v := nI 6) dL_law_21 (by decide +kernel) (Eq.refl 23) ?_
  refine Tr.isub dL_law_23 (Eq.refl 24) ?_
  refine Tr.icmp_gt (tgt := 1165) dL_law_24 (by decide) (Eq.refl 27) (fun h24 => ?_) (fun h24 => ?_)
  · exact absurd ((law_in hLL (by omega)).mp h24) (by omega)
  · refine Tr.aload_n (i := 0) dL_law_27 rfl rfl (Eq.refl 28) ?_
    refine Tr.iload_n (i := 3) dL_law_28 rfl rfl (Eq.refl 29) ?_
    refine Tr.sald dL_law_29 (show _ < E.2.2 301 by omega) hLL (Eq.refl 30) ?_
    refine Tr.bipush (v := nI 63) dL_law_30 (by decide +kernel) (Eq.refl 32) ?_
    refine Tr.iand dL_law_32 (Eq.refl 33) ?_
    skip
    refine Tr.tsIn (off := 794) (tgt := 827) dL_law_33 (by rw [hk]; decide) (by rw [hk]; decide) (by rw [hk]; rfl) (by decide) ?_
    refine Tr.aload_n (i := 1) dL_law_827 rfl rfl (Eq.refl 828) ?_
    refine Tr.aload_n (i := 0) dL_law_828 rfl rfl (Eq.refl 829) ?_
    refine Tr.iload_n (i := 3) dL_law_829 rfl rfl (Eq.refl 830) ?_
    refine Tr.iconst (v := nI 1) dL_law_830 (icN 1) (Eq.refl 831) ?_
    refine Tr.iaddN dL_law_831 (Eq.refl 832) ?_
    refine Tr.sald dL_law_832 (show _ < E.2.2 301 by omega) hLL (Eq.refl 833) ?_
    refine Tr.lawX (As := [.int (sx E (6 * j + 1))]) h1 dL_law_833 (kL_110 (Nat.le_of_ble_eq_true rfl)) iX9_rings rfl rfl rfl rfl rfl rfl (Eq.refl 836) ?_
    refine Tr.aload_n (i := 2) dL_law_836 rfl rfl (Eq.refl 837) ?_
    refine Tr.aload_n (i := 0) dL_law_837 rfl rfl (Eq.refl 838) ?_
    refine Tr.iload_n (i := 3) dL_law_838 rfl rfl (Eq.refl 839) ?_
    refine Tr.iconst (v := nI 1) dL_law_839 (icN 1) (Eq.refl 840) ?_
    refine Tr.iaddN dL_law_840 (Eq.refl 841) ?_
    refine Tr.sald dL_law_841 (show _ < E.2.2 301 by omega) hLL (Eq.refl 842) ?_
    refine Tr.lawM (As := [.int (sx E (6 * j + 1))]) h2 dL_law_842 (kL_113 (Nat.le_of_ble_eq_true rfl)) iX10_rings rfl rfl rfl rfl rfl rfl (Eq.refl 845) ?_
    refine Tr.icmp_eq (tgt := 1159) dL_law_845 (by decide) (Eq.refl 848) (fun h845 => ?_) (fun h845 => ?_)
    · skip
      refine Tr.iinc dL_law_1159 rfl rfl rfl rfl (Eq.refl 1162) ?_
      refine Tr.goto (pc' := 18) dL_law_1162 (by decide) ?_
      rw [law_6]
      exact hw
    · exact absurd rfl h845
set_option maxHeartbeats 4000000 in
set_option maxRecDepth 100000 in
theorem law_when (E : EnvT) (ad : Nat → Nat) (kb nb j : Nat) (x : Xst) (m : Mst) (hR : RR (400 * j) x m) (hj : j < 512) (hL : 6 * j + 5 < E.2.2 301) (hLL : E.2.2 301 ≤ 3072) (ih : ∀ x m, RR (400 * (j + 1)) x m → ∃ w0, Tr (E, mL_law, ad, some (.int (bI true)), w0) kb nb 18 [some (.ref (E.2.2 300)), some (.ref (ad 0)), some (.ref (ad 159)), some (.int (nI (6 * (j + 1))))] [] (WW E ad x m)) (hk : sx E (6 * j) &&& nI 63 = nI 24) : ∃ w0, Tr (E, mL_law, ad, some (.int (bI true)), w0) kb nb 18 [some (.ref (E.2.2 300)), some (.ref (ad 0)), some (.ref (ad 159)), some (.int (nI (6 * j)))] [] (WW E ad x m) := by
  obtain ⟨r, x', m', hR', h1, h2⟩ := pr_when E (400 * j) x m (sx E (6 * j + 1)) hR (by omega)
  obtain ⟨w0, hw⟩ := ih x' m' hR'
  refine ⟨w0, ?_⟩
  refine Tr.iload_n (i := 3) dL_law_18 rfl rfl (Eq.refl 19) ?_
  refine Tr.aload_n (i := 0) dL_law_19 rfl rfl (Eq.refl 20) ?_
  refine Tr.slen dL_law_20 (Eq.refl 21) ?_
  refine Tr.bipush (v := nI 6) dL_law_21 (by decide +kernel) (Eq.refl 23) ?_
  refine Tr.isub dL_law_23 (Eq.refl 24) ?_
  refine Tr.icmp_gt (tgt := 1165) dL_law_24 (by decide) (Eq.refl 27) (fun h24 => ?_) (fun h24 => ?_)
  · exact absurd ((law_in hLL (by omega)).mp h24) (by omega)
  · refine Tr.aload_n (i := 0) dL_law_27 rfl rfl (Eq.refl 28) ?_
    refine Tr.iload_n (i := 3) dL_law_28 rfl rfl (Eq.refl 29) ?_
    refine Tr.sald dL_law_29 (show _ < E.2.2 301 by omega) hLL (Eq.refl 30) ?_
    refine Tr.bipush (v := nI 63) dL_law_30 (by decide +kernel) (Eq.refl 32) ?_
    refine Tr.iand dL_law_32 (Eq.refl 33) ?_
    skip
    refine Tr.tsIn (off := 817) (tgt := 850) dL_law_33 (by rw [hk]; decide) (by rw [hk]; decide) (by rw [hk]; rfl) (by decide) ?_
    refine Tr.aload_n (i := 1) dL_law_850 rfl rfl (Eq.refl 851) ?_
    refine Tr.aload_n (i := 0) dL_law_851 rfl rfl (Eq.refl 852) ?_
    refine Tr.iload_n (i := 3) dL_law_852 rfl rfl (Eq.refl 853) ?_
    refine Tr.iconst (v := nI 1) dL_law_853 (icN 1) (Eq.refl 854) ?_
    refine Tr.iaddN dL_law_854 (Eq.refl 855) ?_
    refine Tr.sald dL_law_855 (show _ < E.2.2 301 by omega) hLL (Eq.refl 856) ?_
    refine Tr.lawX (As := [.int (sx E (6 * j + 1))]) h1 dL_law_856 (kL_114 (Nat.le_of_ble_eq_true rfl)) iX9_when rfl rfl rfl rfl rfl rfl (Eq.refl 859) ?_
    refine Tr.aload_n (i := 2) dL_law_859 rfl rfl (Eq.refl 860) ?_
    refine Tr.aload_n (i := 0) dL_law_860 rfl rfl (Eq.refl 861) ?_
    refine Tr.iload_n (i := 3) dL_law_861 rfl rfl (Eq.refl 862) ?_
    refine Tr.iconst (v := nI 1) dL_law_862 (icN 1) (Eq.refl 863) ?_
    refine Tr.iaddN dL_law_863 (Eq.refl 864) ?_
    refine Tr.sald dL_law_864 (show _ < E.2.2 301 by omega) hLL (Eq.refl 865) ?_
    refine Tr.lawM (As := [.int (sx E (6 * j + 1))]) h2 dL_law_865 (kL_117 (Nat.le_of_ble_eq_true rfl)) iX10_when rfl rfl rfl rfl rfl rfl (Eq.refl 868) ?_
    refine Tr.icmp_eq (tgt := 1159) dL_law_868 (by decide) (Eq.refl 871) (fun h868 => ?_) (fun h868 => ?_)
    · skip
      refine Tr.iinc dL_law_1159 rfl rfl rfl rfl (Eq.refl 1162) ?_
      refine Tr.goto (pc' := 18) dL_law_1162 (by decide) ?_
      rw [law_6]
      exact hw
    · exact absurd rfl h868
set_option maxHeartbeats 4000000 in
set_option maxRecDepth 100000 in
theorem law_bound (E : EnvT) (ad : Nat → Nat) (kb nb j : Nat) (x : Xst) (m : Mst) (hR : RR (400 * j) x m) (hj : j < 512) (hL : 6 * j + 5 < E.2.2 301) (hLL : E.2.2 301 ≤ 3072) (ih : ∀ x m, RR (400 * (j + 1)) x m → ∃ w0, Tr (E, mL_law, ad, some (.int (bI true)), w0) kb nb 18 [some (.ref (E.2.2 300)), some (.ref (ad 0)), some (.ref (ad 159)), some (.int (nI (6 * (j + 1))))] [] (WW E ad x m)) (hk : sx E (6 * j) &&& nI 63 = nI 25) : ∃ w0, Tr (E, mL_law, ad, some (.int (bI true)), w0) kb nb 18 [some (.ref (E.2.2 300)), some (.ref (ad 0)), some (.ref (ad 159)), some (.int (nI (6 * j)))] [] (WW E ad x m) := by
  obtain ⟨r, x', m', hR', h1, h2⟩ := pr_bound E (400 * j) x m (sx E (6 * j + 1)) (sx E (6 * j + 2)) hR (by omega)
  obtain ⟨w0, hw⟩ := ih x' m' hR'
  refine ⟨w0, ?_⟩
  refine Tr.iload_n (i := 3) dL_law_18 rfl rfl (Eq.refl 19) ?_
  refine Tr.aload_n (i := 0) dL_law_19 rfl rfl (Eq.refl 20) ?_
  refine Tr.slen dL_law_20 (Eq.refl 21) ?_
  refine Tr.bipush (v := nI 6) dL_law_21 (by decide +kernel) (Eq.refl 23) ?_
  refine Tr.isub dL_law_23 (Eq.refl 24) ?_
  refine Tr.icmp_gt (tgt := 1165) dL_law_24 (by decide) (Eq.refl 27) (fun h24 => ?_) (fun h24 => ?_)
  · exact absurd ((law_in hLL (by omega)).mp h24) (by omega)
  · refine Tr.aload_n (i := 0) dL_law_27 rfl rfl (Eq.refl 28) ?_
    refine Tr.iload_n (i := 3) dL_law_28 rfl rfl (Eq.refl 29) ?_
    refine Tr.sald dL_law_29 (show _ < E.2.2 301 by omega) hLL (Eq.refl 30) ?_
    refine Tr.bipush (v := nI 63) dL_law_30 (by decide +kernel) (Eq.refl 32) ?_
    refine Tr.iand dL_law_32 (Eq.refl 33) ?_
    skip
    refine Tr.tsIn (off := 840) (tgt := 873) dL_law_33 (by rw [hk]; decide) (by rw [hk]; decide) (by rw [hk]; rfl) (by decide) ?_
    refine Tr.aload_n (i := 1) dL_law_873 rfl rfl (Eq.refl 874) ?_
    refine Tr.aload_n (i := 0) dL_law_874 rfl rfl (Eq.refl 875) ?_
    refine Tr.iload_n (i := 3) dL_law_875 rfl rfl (Eq.refl 876) ?_
    refine Tr.iconst (v := nI 1) dL_law_876 (icN 1) (Eq.refl 877) ?_
    refine Tr.iaddN dL_law_877 (Eq.refl 878) ?_
    refine Tr.sald dL_law_878 (show _ < E.2.2 301 by omega) hLL (Eq.refl 879) ?_
    refine Tr.aload_n (i := 0) dL_law_879 rfl rfl (Eq.refl 880) ?_
    refine Tr.iload_n (i := 3) dL_law_880 rfl rfl (Eq.refl 881) ?_
    refine Tr.iconst (v := nI 2) dL_law_881 (icN 2) (Eq.refl 882) ?_
    refine Tr.iaddN dL_law_882 (Eq.refl 883) ?_
    refine Tr.sald dL_law_883 (show _ < E.2.2 301 by omega) hLL (Eq.refl 884) ?_
    refine Tr.lawX (As := [.int (sx E (6 * j + 1)), .int (sx E (6 * j + 2))]) h1 dL_law_884 (kL_118 (Nat.le_of_ble_eq_true rfl)) iX9_bound rfl rfl rfl rfl rfl rfl (Eq.refl 887) ?_
    refine Tr.aload_n (i := 2) dL_law_887 rfl rfl (Eq.refl 888) ?_
    refine Tr.aload_n (i := 0) dL_law_888 rfl rfl (Eq.refl 889) ?_
    refine Tr.iload_n (i := 3) dL_law_889 rfl rfl (Eq.refl 890) ?_
    refine Tr.iconst (v := nI 1) dL_law_890 (icN 1) (Eq.refl 891) ?_
    refine Tr.iaddN dL_law_891 (Eq.refl 892) ?_
    refine Tr.sald dL_law_892 (show _ < E.2.2 301 by omega) hLL (Eq.refl 893) ?_
    refine Tr.aload_n (i := 0) dL_law_893 rfl rfl (Eq.refl 894) ?_
    refine Tr.iload_n (i := 3) dL_law_894 rfl rfl (Eq.refl 895) ?_
    refine Tr.iconst (v := nI 2) dL_law_895 (icN 2) (Eq.refl 896) ?_
    refine Tr.iaddN dL_law_896 (Eq.refl 897) ?_
    refine Tr.sald dL_law_897 (show _ < E.2.2 301 by omega) hLL (Eq.refl 898) ?_
    refine Tr.lawM (As := [.int (sx E (6 * j + 1)), .int (sx E (6 * j + 2))]) h2 dL_law_898 (kL_121 (Nat.le_of_ble_eq_true rfl)) iX10_bound rfl rfl rfl rfl rfl rfl (Eq.refl 901) ?_
    refine Tr.icmp_eq (tgt := 1159) dL_law_901 (by decide) (Eq.refl 904) (fun h901 => ?_) (fun h901 => ?_)
    · skip
      refine Tr.iinc dL_law_1159 rfl rfl rfl rfl (Eq.refl 1162) ?_
      refine Tr.goto (pc' := 18) dL_law_1162 (by decide) ?_
      rw [law_6]
      exact hw
    · exact absurd rfl h901
set_option maxHeartbeats 4000000 in
set_option maxRecDepth 100000 in
theorem law_law (E : EnvT) (ad : Nat → Nat) (kb nb j : Nat) (x : Xst) (m : Mst) (hR : RR (400 * j) x m) (hj : j < 512) (hL : 6 * j + 5 < E.2.2 301) (hLL : E.2.2 301 ≤ 3072) (ih : ∀ x m, RR (400 * (j + 1)) x m → ∃ w0, Tr (E, mL_law, ad, some (.int (bI true)), w0) kb nb 18 [some (.ref (E.2.2 300)), some (.ref (ad 0)), some (.ref (ad 159)), some (.int (nI (6 * (j + 1))))] [] (WW E ad x m)) (hk : sx E (6 * j) &&& nI 63 = nI 26) : ∃ w0, Tr (E, mL_law, ad, some (.int (bI true)), w0) kb nb 18 [some (.ref (E.2.2 300)), some (.ref (ad 0)), some (.ref (ad 159)), some (.int (nI (6 * j)))] [] (WW E ad x m) := by
  by_cases hb : sx E (6 * j + 1) = 0
  · obtain ⟨r, x', m', hR', h1, h2⟩ := pr_law E (400 * j) x m false (sx E (6 * j + 2)) (sx E (6 * j + 3)) (sx E (6 * j + 4)) hR (by omega)
    obtain ⟨w0, hw⟩ := ih x' m' hR'
    refine ⟨w0, ?_⟩
    refine Tr.iload_n (i := 3) dL_law_18 rfl rfl (Eq.refl 19) ?_
    refine Tr.aload_n (i := 0) dL_law_19 rfl rfl (Eq.refl 20) ?_
    refine Tr.slen dL_law_20 (Eq.refl 21) ?_
    refine Tr.bipush (v := nI 6) dL_law_21 (by decide +kernel) (Eq.refl 23) ?_
    refine Tr.isub dL_law_23 (Eq.refl 24) ?_
    refine Tr.icmp_gt (tgt := 1165) dL_law_24 (by decide) (Eq.refl 27) (fun h24 => ?_) (fun h24 => ?_)
    · exact absurd ((law_in hLL (by omega)).mp h24) (by omega)
    · refine Tr.aload_n (i := 0) dL_law_27 rfl rfl (Eq.refl 28) ?_
      refine Tr.iload_n (i := 3) dL_law_28 rfl rfl (Eq.refl 29) ?_
      refine Tr.sald dL_law_29 (show _ < E.2.2 301 by omega) hLL (Eq.refl 30) ?_
      refine Tr.bipush (v := nI 63) dL_law_30 (by decide +kernel) (Eq.refl 32) ?_
      refine Tr.iand dL_law_32 (Eq.refl 33) ?_
      skip
      refine Tr.tsIn (off := 873) (tgt := 906) dL_law_33 (by rw [hk]; decide) (by rw [hk]; decide) (by rw [hk]; rfl) (by decide) ?_
      refine Tr.aload_n (i := 1) dL_law_906 rfl rfl (Eq.refl 907) ?_
      refine Tr.aload_n (i := 0) dL_law_907 rfl rfl (Eq.refl 908) ?_
      refine Tr.iload_n (i := 3) dL_law_908 rfl rfl (Eq.refl 909) ?_
      refine Tr.iconst (v := nI 1) dL_law_909 (icN 1) (Eq.refl 910) ?_
      refine Tr.iaddN dL_law_910 (Eq.refl 911) ?_
      refine Tr.sald dL_law_911 (show _ < E.2.2 301 by omega) hLL (Eq.refl 912) ?_
      refine Tr.if_eq (tgt := 919) dL_law_912 (by decide) (Eq.refl 915) (fun h912 => ?_) (fun h912 => ?_)
      · refine Tr.iconst (v := nI 0) dL_law_919 (icN 0) (Eq.refl 920) ?_
        refine Tr.aload_n (i := 0) dL_law_920 rfl rfl (Eq.refl 921) ?_
        refine Tr.iload_n (i := 3) dL_law_921 rfl rfl (Eq.refl 922) ?_
        refine Tr.iconst (v := nI 2) dL_law_922 (icN 2) (Eq.refl 923) ?_
        refine Tr.iaddN dL_law_923 (Eq.refl 924) ?_
        refine Tr.sald dL_law_924 (show _ < E.2.2 301 by omega) hLL (Eq.refl 925) ?_
        refine Tr.aload_n (i := 0) dL_law_925 rfl rfl (Eq.refl 926) ?_
        refine Tr.iload_n (i := 3) dL_law_926 rfl rfl (Eq.refl 927) ?_
        refine Tr.iconst (v := nI 3) dL_law_927 (icN 3) (Eq.refl 928) ?_
        refine Tr.iaddN dL_law_928 (Eq.refl 929) ?_
        refine Tr.sald dL_law_929 (show _ < E.2.2 301 by omega) hLL (Eq.refl 930) ?_
        refine Tr.aload_n (i := 0) dL_law_930 rfl rfl (Eq.refl 931) ?_
        refine Tr.iload_n (i := 3) dL_law_931 rfl rfl (Eq.refl 932) ?_
        refine Tr.iconst (v := nI 4) dL_law_932 (icN 4) (Eq.refl 933) ?_
        refine Tr.iaddN dL_law_933 (Eq.refl 934) ?_
        refine Tr.sald dL_law_934 (show _ < E.2.2 301 by omega) hLL (Eq.refl 935) ?_
        refine Tr.lawX (As := [.int (bI false), .int (sx E (6 * j + 2)), .int (sx E (6 * j + 3)), .int (sx E (6 * j + 4))]) h1 dL_law_935 (kL_122 (Nat.le_of_ble_eq_true rfl)) iX9_law rfl rfl rfl rfl rfl rfl (Eq.refl 938) ?_
        refine Tr.aload_n (i := 2) dL_law_938 rfl rfl (Eq.refl 939) ?_
        refine Tr.aload_n (i := 0) dL_law_939 rfl rfl (Eq.refl 940) ?_
        refine Tr.iload_n (i := 3) dL_law_940 rfl rfl (Eq.refl 941) ?_
        refine Tr.iconst (v := nI 1) dL_law_941 (icN 1) (Eq.refl 942) ?_
        refine Tr.iaddN dL_law_942 (Eq.refl 943) ?_
        refine Tr.sald dL_law_943 (show _ < E.2.2 301 by omega) hLL (Eq.refl 944) ?_
        refine Tr.if_eq (tgt := 951) dL_law_944 (by decide) (Eq.refl 947) (fun h944 => ?_) (fun h944 => ?_)
        · refine Tr.iconst (v := nI 0) dL_law_951 (icN 0) (Eq.refl 952) ?_
          refine Tr.aload_n (i := 0) dL_law_952 rfl rfl (Eq.refl 953) ?_
          refine Tr.iload_n (i := 3) dL_law_953 rfl rfl (Eq.refl 954) ?_
          refine Tr.iconst (v := nI 2) dL_law_954 (icN 2) (Eq.refl 955) ?_
          refine Tr.iaddN dL_law_955 (Eq.refl 956) ?_
          refine Tr.sald dL_law_956 (show _ < E.2.2 301 by omega) hLL (Eq.refl 957) ?_
          refine Tr.aload_n (i := 0) dL_law_957 rfl rfl (Eq.refl 958) ?_
          refine Tr.iload_n (i := 3) dL_law_958 rfl rfl (Eq.refl 959) ?_
          refine Tr.iconst (v := nI 3) dL_law_959 (icN 3) (Eq.refl 960) ?_
          refine Tr.iaddN dL_law_960 (Eq.refl 961) ?_
          refine Tr.sald dL_law_961 (show _ < E.2.2 301 by omega) hLL (Eq.refl 962) ?_
          refine Tr.aload_n (i := 0) dL_law_962 rfl rfl (Eq.refl 963) ?_
          refine Tr.iload_n (i := 3) dL_law_963 rfl rfl (Eq.refl 964) ?_
          refine Tr.iconst (v := nI 4) dL_law_964 (icN 4) (Eq.refl 965) ?_
          refine Tr.iaddN dL_law_965 (Eq.refl 966) ?_
          refine Tr.sald dL_law_966 (show _ < E.2.2 301 by omega) hLL (Eq.refl 967) ?_
          refine Tr.lawM (As := [.int (bI false), .int (sx E (6 * j + 2)), .int (sx E (6 * j + 3)), .int (sx E (6 * j + 4))]) h2 dL_law_967 (kL_126 (Nat.le_of_ble_eq_true rfl)) iX10_law rfl rfl rfl rfl rfl rfl (Eq.refl 970) ?_
          refine Tr.icmp_eq (tgt := 1159) dL_law_970 (by decide) (Eq.refl 973) (fun h970 => ?_) (fun h970 => ?_)
          · skip
            refine Tr.iinc dL_law_1159 rfl rfl rfl rfl (Eq.refl 1162) ?_
            refine Tr.goto (pc' := 18) dL_law_1162 (by decide) ?_
            rw [law_6]
            exact hw
          · exact absurd rfl h970
        · exact absurd hb h944
      · exact absurd hb h912
  · obtain ⟨r, x', m', hR', h1, h2⟩ := pr_law E (400 * j) x m true (sx E (6 * j + 2)) (sx E (6 * j + 3)) (sx E (6 * j + 4)) hR (by omega)
    obtain ⟨w0, hw⟩ := ih x' m' hR'
    refine ⟨w0, ?_⟩
    refine Tr.iload_n (i := 3) dL_law_18 rfl rfl (Eq.refl 19) ?_
    refine Tr.aload_n (i := 0) dL_law_19 rfl rfl (Eq.refl 20) ?_
    refine Tr.slen dL_law_20 (Eq.refl 21) ?_
    refine Tr.bipush (v := nI 6) dL_law_21 (by decide +kernel) (Eq.refl 23) ?_
    refine Tr.isub dL_law_23 (Eq.refl 24) ?_
    refine Tr.icmp_gt (tgt := 1165) dL_law_24 (by decide) (Eq.refl 27) (fun h24 => ?_) (fun h24 => ?_)
    · exact absurd ((law_in hLL (by omega)).mp h24) (by omega)
    · refine Tr.aload_n (i := 0) dL_law_27 rfl rfl (Eq.refl 28) ?_
      refine Tr.iload_n (i := 3) dL_law_28 rfl rfl (Eq.refl 29) ?_
      refine Tr.sald dL_law_29 (show _ < E.2.2 301 by omega) hLL (Eq.refl 30) ?_
      refine Tr.bipush (v := nI 63) dL_law_30 (by decide +kernel) (Eq.refl 32) ?_
      refine Tr.iand dL_law_32 (Eq.refl 33) ?_
      skip
      refine Tr.tsIn (off := 873) (tgt := 906) dL_law_33 (by rw [hk]; decide) (by rw [hk]; decide) (by rw [hk]; rfl) (by decide) ?_
      refine Tr.aload_n (i := 1) dL_law_906 rfl rfl (Eq.refl 907) ?_
      refine Tr.aload_n (i := 0) dL_law_907 rfl rfl (Eq.refl 908) ?_
      refine Tr.iload_n (i := 3) dL_law_908 rfl rfl (Eq.refl 909) ?_
      refine Tr.iconst (v := nI 1) dL_law_909 (icN 1) (Eq.refl 910) ?_
      refine Tr.iaddN dL_law_910 (Eq.refl 911) ?_
      refine Tr.sald dL_law_911 (show _ < E.2.2 301 by omega) hLL (Eq.refl 912) ?_
      refine Tr.if_eq (tgt := 919) dL_law_912 (by decide) (Eq.refl 915) (fun h912 => ?_) (fun h912 => ?_)
      · exact absurd h912 hb
      · refine Tr.iconst (v := nI 1) dL_law_915 (icN 1) (Eq.refl 916) ?_
        refine Tr.goto (pc' := 920) dL_law_916 (by decide) ?_
        refine Tr.aload_n (i := 0) dL_law_920 rfl rfl (Eq.refl 921) ?_
        refine Tr.iload_n (i := 3) dL_law_921 rfl rfl (Eq.refl 922) ?_
        refine Tr.iconst (v := nI 2) dL_law_922 (icN 2) (Eq.refl 923) ?_
        refine Tr.iaddN dL_law_923 (Eq.refl 924) ?_
        refine Tr.sald dL_law_924 (show _ < E.2.2 301 by omega) hLL (Eq.refl 925) ?_
        refine Tr.aload_n (i := 0) dL_law_925 rfl rfl (Eq.refl 926) ?_
        refine Tr.iload_n (i := 3) dL_law_926 rfl rfl (Eq.refl 927) ?_
        refine Tr.iconst (v := nI 3) dL_law_927 (icN 3) (Eq.refl 928) ?_
        refine Tr.iaddN dL_law_928 (Eq.refl 929) ?_
        refine Tr.sald dL_law_929 (show _ < E.2.2 301 by omega) hLL (Eq.refl 930) ?_
        refine Tr.aload_n (i := 0) dL_law_930 rfl rfl (Eq.refl 931) ?_
        refine Tr.iload_n (i := 3) dL_law_931 rfl rfl (Eq.refl 932) ?_
        refine Tr.iconst (v := nI 4) dL_law_932 (icN 4) (Eq.refl 933) ?_
        refine Tr.iaddN dL_law_933 (Eq.refl 934) ?_
        refine Tr.sald dL_law_934 (show _ < E.2.2 301 by omega) hLL (Eq.refl 935) ?_
        refine Tr.lawX (As := [.int (bI true), .int (sx E (6 * j + 2)), .int (sx E (6 * j + 3)), .int (sx E (6 * j + 4))]) h1 dL_law_935 (kL_122 (Nat.le_of_ble_eq_true rfl)) iX9_law rfl rfl rfl rfl rfl rfl (Eq.refl 938) ?_
        refine Tr.aload_n (i := 2) dL_law_938 rfl rfl (Eq.refl 939) ?_
        refine Tr.aload_n (i := 0) dL_law_939 rfl rfl (Eq.refl 940) ?_
        refine Tr.iload_n (i := 3) dL_law_940 rfl rfl (Eq.refl 941) ?_
        refine Tr.iconst (v := nI 1) dL_law_941 (icN 1) (Eq.refl 942) ?_
        refine Tr.iaddN dL_law_942 (Eq.refl 943) ?_
        refine Tr.sald dL_law_943 (show _ < E.2.2 301 by omega) hLL (Eq.refl 944) ?_
        refine Tr.if_eq (tgt := 951) dL_law_944 (by decide) (Eq.refl 947) (fun h944 => ?_) (fun h944 => ?_)
        · exact absurd h944 hb
        · refine Tr.iconst (v := nI 1) dL_law_947 (icN 1) (Eq.refl 948) ?_
          refine Tr.goto (pc' := 952) dL_law_948 (by decide) ?_
          refine Tr.aload_n (i := 0) dL_law_952 rfl rfl (Eq.refl 953) ?_
          refine Tr.iload_n (i := 3) dL_law_953 rfl rfl (Eq.refl 954) ?_
          refine Tr.iconst (v := nI 2) dL_law_954 (icN 2) (Eq.refl 955) ?_
          refine Tr.iaddN dL_law_955 (Eq.refl 956) ?_
          refine Tr.sald dL_law_956 (show _ < E.2.2 301 by omega) hLL (Eq.refl 957) ?_
          refine Tr.aload_n (i := 0) dL_law_957 rfl rfl (Eq.refl 958) ?_
          refine Tr.iload_n (i := 3) dL_law_958 rfl rfl (Eq.refl 959) ?_
          refine Tr.iconst (v := nI 3) dL_law_959 (icN 3) (Eq.refl 960) ?_
          refine Tr.iaddN dL_law_960 (Eq.refl 961) ?_
          refine Tr.sald dL_law_961 (show _ < E.2.2 301 by omega) hLL (Eq.refl 962) ?_
          refine Tr.aload_n (i := 0) dL_law_962 rfl rfl (Eq.refl 963) ?_
          refine Tr.iload_n (i := 3) dL_law_963 rfl rfl (Eq.refl 964) ?_
          refine Tr.iconst (v := nI 4) dL_law_964 (icN 4) (Eq.refl 965) ?_
          refine Tr.iaddN dL_law_965 (Eq.refl 966) ?_
          refine Tr.sald dL_law_966 (show _ < E.2.2 301 by omega) hLL (Eq.refl 967) ?_
          refine Tr.lawM (As := [.int (bI true), .int (sx E (6 * j + 2)), .int (sx E (6 * j + 3)), .int (sx E (6 * j + 4))]) h2 dL_law_967 (kL_126 (Nat.le_of_ble_eq_true rfl)) iX10_law rfl rfl rfl rfl rfl rfl (Eq.refl 970) ?_
          refine Tr.icmp_eq (tgt := 1159) dL_law_970 (by decide) (Eq.refl 973) (fun h970 => ?_) (fun h970 => ?_)
          · skip
            refine Tr.iinc dL_law_1159 rfl rfl rfl rfl (Eq.refl 1162) ?_
            refine Tr.goto (pc' := 18) dL_law_1162 (by decide) ?_
            rw [law_6]
            exact hw
          · exact absurd rfl h970
set_option maxHeartbeats 4000000 in
set_option maxRecDepth 100000 in
theorem law_bestLaw (E : EnvT) (ad : Nat → Nat) (kb nb j : Nat) (x : Xst) (m : Mst) (hR : RR (400 * j) x m) (hj : j < 512) (hL : 6 * j + 5 < E.2.2 301) (hLL : E.2.2 301 ≤ 3072) (ih : ∀ x m, RR (400 * (j + 1)) x m → ∃ w0, Tr (E, mL_law, ad, some (.int (bI true)), w0) kb nb 18 [some (.ref (E.2.2 300)), some (.ref (ad 0)), some (.ref (ad 159)), some (.int (nI (6 * (j + 1))))] [] (WW E ad x m)) (hk : sx E (6 * j) &&& nI 63 = nI 27) : ∃ w0, Tr (E, mL_law, ad, some (.int (bI true)), w0) kb nb 18 [some (.ref (E.2.2 300)), some (.ref (ad 0)), some (.ref (ad 159)), some (.int (nI (6 * j)))] [] (WW E ad x m) := by
  obtain ⟨r, x', m', hR', h1, h2⟩ := pr_bestLaw E (400 * j) x m (sx E (6 * j + 1)) hR (by omega)
  obtain ⟨w0, hw⟩ := ih x' m' hR'
  refine ⟨w0, ?_⟩
  refine Tr.iload_n (i := 3) dL_law_18 rfl rfl (Eq.refl 19) ?_
  refine Tr.aload_n (i := 0) dL_law_19 rfl rfl (Eq.refl 20) ?_
  refine Tr.slen dL_law_20 (Eq.refl 21) ?_
  refine Tr.bipush (v := nI 6) dL_law_21 (by decide +kernel) (Eq.refl 23) ?_
  refine Tr.isub dL_law_23 (Eq.refl 24) ?_
  refine Tr.icmp_gt (tgt := 1165) dL_law_24 (by decide) (Eq.refl 27) (fun h24 => ?_) (fun h24 => ?_)
  · exact absurd ((law_in hLL (by omega)).mp h24) (by omega)
  · refine Tr.aload_n (i := 0) dL_law_27 rfl rfl (Eq.refl 28) ?_
    refine Tr.iload_n (i := 3) dL_law_28 rfl rfl (Eq.refl 29) ?_
    refine Tr.sald dL_law_29 (show _ < E.2.2 301 by omega) hLL (Eq.refl 30) ?_
    refine Tr.bipush (v := nI 63) dL_law_30 (by decide +kernel) (Eq.refl 32) ?_
    refine Tr.iand dL_law_32 (Eq.refl 33) ?_
    skip
    refine Tr.tsIn (off := 942) (tgt := 975) dL_law_33 (by rw [hk]; decide) (by rw [hk]; decide) (by rw [hk]; rfl) (by decide) ?_
    refine Tr.aload_n (i := 1) dL_law_975 rfl rfl (Eq.refl 976) ?_
    refine Tr.aload_n (i := 0) dL_law_976 rfl rfl (Eq.refl 977) ?_
    refine Tr.iload_n (i := 3) dL_law_977 rfl rfl (Eq.refl 978) ?_
    refine Tr.iconst (v := nI 1) dL_law_978 (icN 1) (Eq.refl 979) ?_
    refine Tr.iaddN dL_law_979 (Eq.refl 980) ?_
    refine Tr.sald dL_law_980 (show _ < E.2.2 301 by omega) hLL (Eq.refl 981) ?_
    refine Tr.lawX (As := [.int (sx E (6 * j + 1))]) h1 dL_law_981 (kL_127 (Nat.le_of_ble_eq_true rfl)) iX9_bestLaw rfl rfl rfl rfl rfl rfl (Eq.refl 984) ?_
    refine Tr.aload_n (i := 2) dL_law_984 rfl rfl (Eq.refl 985) ?_
    refine Tr.aload_n (i := 0) dL_law_985 rfl rfl (Eq.refl 986) ?_
    refine Tr.iload_n (i := 3) dL_law_986 rfl rfl (Eq.refl 987) ?_
    refine Tr.iconst (v := nI 1) dL_law_987 (icN 1) (Eq.refl 988) ?_
    refine Tr.iaddN dL_law_988 (Eq.refl 989) ?_
    refine Tr.sald dL_law_989 (show _ < E.2.2 301 by omega) hLL (Eq.refl 990) ?_
    refine Tr.lawM (As := [.int (sx E (6 * j + 1))]) h2 dL_law_990 (kL_130 (Nat.le_of_ble_eq_true rfl)) iX10_bestLaw rfl rfl rfl rfl rfl rfl (Eq.refl 993) ?_
    refine Tr.icmp_eq (tgt := 1159) dL_law_993 (by decide) (Eq.refl 996) (fun h993 => ?_) (fun h993 => ?_)
    · skip
      refine Tr.iinc dL_law_1159 rfl rfl rfl rfl (Eq.refl 1162) ?_
      refine Tr.goto (pc' := 18) dL_law_1162 (by decide) ?_
      rw [law_6]
      exact hw
    · exact absurd rfl h993
set_option maxHeartbeats 4000000 in
set_option maxRecDepth 100000 in
theorem law_feast (E : EnvT) (ad : Nat → Nat) (kb nb j : Nat) (x : Xst) (m : Mst) (hR : RR (400 * j) x m) (hj : j < 512) (hL : 6 * j + 5 < E.2.2 301) (hLL : E.2.2 301 ≤ 3072) (ih : ∀ x m, RR (400 * (j + 1)) x m → ∃ w0, Tr (E, mL_law, ad, some (.int (bI true)), w0) kb nb 18 [some (.ref (E.2.2 300)), some (.ref (ad 0)), some (.ref (ad 159)), some (.int (nI (6 * (j + 1))))] [] (WW E ad x m)) (hk : sx E (6 * j) &&& nI 63 = nI 28) : ∃ w0, Tr (E, mL_law, ad, some (.int (bI true)), w0) kb nb 18 [some (.ref (E.2.2 300)), some (.ref (ad 0)), some (.ref (ad 159)), some (.int (nI (6 * j)))] [] (WW E ad x m) := by
  obtain ⟨r, x', m', hR', h1, h2⟩ := pr_feast E (400 * j) x m  hR (by omega)
  obtain ⟨w0, hw⟩ := ih x' m' hR'
  refine ⟨w0, ?_⟩
  refine Tr.iload_n (i := 3) dL_law_18 rfl rfl (Eq.refl 19) ?_
  refine Tr.aload_n (i := 0) dL_law_19 rfl rfl (Eq.refl 20) ?_
  refine Tr.slen dL_law_20 (Eq.refl 21) ?_
  refine Tr.bipush (v := nI 6) dL_law_21 (by decide +kernel) (Eq.refl 23) ?_
  refine Tr.isub dL_law_23 (Eq.refl 24) ?_
  refine Tr.icmp_gt (tgt := 1165) dL_law_24 (by decide) (Eq.refl 27) (fun h24 => ?_) (fun h24 => ?_)
  · exact absurd ((law_in hLL (by omega)).mp h24) (by omega)
  · refine Tr.aload_n (i := 0) dL_law_27 rfl rfl (Eq.refl 28) ?_
    refine Tr.iload_n (i := 3) dL_law_28 rfl rfl (Eq.refl 29) ?_
    refine Tr.sald dL_law_29 (show _ < E.2.2 301 by omega) hLL (Eq.refl 30) ?_
    refine Tr.bipush (v := nI 63) dL_law_30 (by decide +kernel) (Eq.refl 32) ?_
    refine Tr.iand dL_law_32 (Eq.refl 33) ?_
    skip
    refine Tr.tsIn (off := 965) (tgt := 998) dL_law_33 (by rw [hk]; decide) (by rw [hk]; decide) (by rw [hk]; rfl) (by decide) ?_
    refine Tr.aload_n (i := 1) dL_law_998 rfl rfl (Eq.refl 999) ?_
    refine Tr.lawX (As := []) h1 dL_law_999 (kL_131 (Nat.le_of_ble_eq_true rfl)) iX9_feast rfl rfl rfl rfl rfl rfl (Eq.refl 1002) ?_
    refine Tr.aload_n (i := 2) dL_law_1002 rfl rfl (Eq.refl 1003) ?_
    refine Tr.lawM (As := []) h2 dL_law_1003 (kL_134 (Nat.le_of_ble_eq_true rfl)) iX10_feast rfl rfl rfl rfl rfl rfl (Eq.refl 1006) ?_
    refine Tr.icmp_eq (tgt := 1159) dL_law_1006 (by decide) (Eq.refl 1009) (fun h1006 => ?_) (fun h1006 => ?_)
    · skip
      refine Tr.iinc dL_law_1159 rfl rfl rfl rfl (Eq.refl 1162) ?_
      refine Tr.goto (pc' := 18) dL_law_1162 (by decide) ?_
      rw [law_6]
      exact hw
    · exact absurd rfl h1006
set_option maxHeartbeats 4000000 in
set_option maxRecDepth 100000 in
theorem law_turned (E : EnvT) (ad : Nat → Nat) (kb nb j : Nat) (x : Xst) (m : Mst) (hR : RR (400 * j) x m) (hj : j < 512) (hL : 6 * j + 5 < E.2.2 301) (hLL : E.2.2 301 ≤ 3072) (ih : ∀ x m, RR (400 * (j + 1)) x m → ∃ w0, Tr (E, mL_law, ad, some (.int (bI true)), w0) kb nb 18 [some (.ref (E.2.2 300)), some (.ref (ad 0)), some (.ref (ad 159)), some (.int (nI (6 * (j + 1))))] [] (WW E ad x m)) (hk : sx E (6 * j) &&& nI 63 = nI 29) : ∃ w0, Tr (E, mL_law, ad, some (.int (bI true)), w0) kb nb 18 [some (.ref (E.2.2 300)), some (.ref (ad 0)), some (.ref (ad 159)), some (.int (nI (6 * j)))] [] (WW E ad x m) := by
  obtain ⟨r, x', m', hR', h1, h2⟩ := pr_turned E (400 * j) x m (sx E (6 * j + 1)) (sx E (6 * j + 2)) hR (by omega)
  obtain ⟨w0, hw⟩ := ih x' m' hR'
  refine ⟨w0, ?_⟩
  refine Tr.iload_n (i := 3) dL_law_18 rfl rfl (Eq.refl 19) ?_
  refine Tr.aload_n (i := 0) dL_law_19 rfl rfl (Eq.refl 20) ?_
  refine Tr.slen dL_law_20 (Eq.refl 21) ?_
  refine Tr.bipush (v := nI 6) dL_law_21 (by decide +kernel) (Eq.refl 23) ?_
  refine Tr.isub dL_law_23 (Eq.refl 24) ?_
  refine Tr.icmp_gt (tgt := 1165) dL_law_24 (by decide) (Eq.refl 27) (fun h24 => ?_) (fun h24 => ?_)
  · exact absurd ((law_in hLL (by omega)).mp h24) (by omega)
  · refine Tr.aload_n (i := 0) dL_law_27 rfl rfl (Eq.refl 28) ?_
    refine Tr.iload_n (i := 3) dL_law_28 rfl rfl (Eq.refl 29) ?_
    refine Tr.sald dL_law_29 (show _ < E.2.2 301 by omega) hLL (Eq.refl 30) ?_
    refine Tr.bipush (v := nI 63) dL_law_30 (by decide +kernel) (Eq.refl 32) ?_
    refine Tr.iand dL_law_32 (Eq.refl 33) ?_
    skip
    refine Tr.tsIn (off := 978) (tgt := 1011) dL_law_33 (by rw [hk]; decide) (by rw [hk]; decide) (by rw [hk]; rfl) (by decide) ?_
    refine Tr.aload_n (i := 1) dL_law_1011 rfl rfl (Eq.refl 1012) ?_
    refine Tr.aload_n (i := 0) dL_law_1012 rfl rfl (Eq.refl 1013) ?_
    refine Tr.iload_n (i := 3) dL_law_1013 rfl rfl (Eq.refl 1014) ?_
    refine Tr.iconst (v := nI 1) dL_law_1014 (icN 1) (Eq.refl 1015) ?_
    refine Tr.iaddN dL_law_1015 (Eq.refl 1016) ?_
    refine Tr.sald dL_law_1016 (show _ < E.2.2 301 by omega) hLL (Eq.refl 1017) ?_
    refine Tr.aload_n (i := 0) dL_law_1017 rfl rfl (Eq.refl 1018) ?_
    refine Tr.iload_n (i := 3) dL_law_1018 rfl rfl (Eq.refl 1019) ?_
    refine Tr.iconst (v := nI 2) dL_law_1019 (icN 2) (Eq.refl 1020) ?_
    refine Tr.iaddN dL_law_1020 (Eq.refl 1021) ?_
    refine Tr.sald dL_law_1021 (show _ < E.2.2 301 by omega) hLL (Eq.refl 1022) ?_
    refine Tr.lawX (As := [.int (sx E (6 * j + 1)), .int (sx E (6 * j + 2))]) h1 dL_law_1022 (kL_135 (Nat.le_of_ble_eq_true rfl)) iX9_turned rfl rfl rfl rfl rfl rfl (Eq.refl 1025) ?_
    refine Tr.aload_n (i := 2) dL_law_1025 rfl rfl (Eq.refl 1026) ?_
    refine Tr.aload_n (i := 0) dL_law_1026 rfl rfl (Eq.refl 1027) ?_
    refine Tr.iload_n (i := 3) dL_law_1027 rfl rfl (Eq.refl 1028) ?_
    refine Tr.iconst (v := nI 1) dL_law_1028 (icN 1) (Eq.refl 1029) ?_
    refine Tr.iaddN dL_law_1029 (Eq.refl 1030) ?_
    refine Tr.sald dL_law_1030 (show _ < E.2.2 301 by omega) hLL (Eq.refl 1031) ?_
    refine Tr.aload_n (i := 0) dL_law_1031 rfl rfl (Eq.refl 1032) ?_
    refine Tr.iload_n (i := 3) dL_law_1032 rfl rfl (Eq.refl 1033) ?_
    refine Tr.iconst (v := nI 2) dL_law_1033 (icN 2) (Eq.refl 1034) ?_
    refine Tr.iaddN dL_law_1034 (Eq.refl 1035) ?_
    refine Tr.sald dL_law_1035 (show _ < E.2.2 301 by omega) hLL (Eq.refl 1036) ?_
    refine Tr.lawM (As := [.int (sx E (6 * j + 1)), .int (sx E (6 * j + 2))]) h2 dL_law_1036 (kL_138 (Nat.le_of_ble_eq_true rfl)) iX10_turned rfl rfl rfl rfl rfl rfl (Eq.refl 1039) ?_
    refine Tr.icmp_eq (tgt := 1159) dL_law_1039 (by decide) (Eq.refl 1042) (fun h1039 => ?_) (fun h1039 => ?_)
    · skip
      refine Tr.iinc dL_law_1159 rfl rfl rfl rfl (Eq.refl 1162) ?_
      refine Tr.goto (pc' := 18) dL_law_1162 (by decide) ?_
      rw [law_6]
      exact hw
    · exact absurd rfl h1039
set_option maxHeartbeats 4000000 in
set_option maxRecDepth 100000 in
theorem law_whom (E : EnvT) (ad : Nat → Nat) (kb nb j : Nat) (x : Xst) (m : Mst) (hR : RR (400 * j) x m) (hj : j < 512) (hL : 6 * j + 5 < E.2.2 301) (hLL : E.2.2 301 ≤ 3072) (ih : ∀ x m, RR (400 * (j + 1)) x m → ∃ w0, Tr (E, mL_law, ad, some (.int (bI true)), w0) kb nb 18 [some (.ref (E.2.2 300)), some (.ref (ad 0)), some (.ref (ad 159)), some (.int (nI (6 * (j + 1))))] [] (WW E ad x m)) (hk : sx E (6 * j) &&& nI 63 = nI 30) : ∃ w0, Tr (E, mL_law, ad, some (.int (bI true)), w0) kb nb 18 [some (.ref (E.2.2 300)), some (.ref (ad 0)), some (.ref (ad 159)), some (.int (nI (6 * j)))] [] (WW E ad x m) := by
  obtain ⟨r, x', m', hR', h1, h2⟩ := pr_whom E (400 * j) x m (sx E (6 * j + 1)) hR (by omega)
  obtain ⟨w0, hw⟩ := ih x' m' hR'
  refine ⟨w0, ?_⟩
  refine Tr.iload_n (i := 3) dL_law_18 rfl rfl (Eq.refl 19) ?_
  refine Tr.aload_n (i := 0) dL_law_19 rfl rfl (Eq.refl 20) ?_
  refine Tr.slen dL_law_20 (Eq.refl 21) ?_
  refine Tr.bipush (v := nI 6) dL_law_21 (by decide +kernel) (Eq.refl 23) ?_
  refine Tr.isub dL_law_23 (Eq.refl 24) ?_
  refine Tr.icmp_gt (tgt := 1165) dL_law_24 (by decide) (Eq.refl 27) (fun h24 => ?_) (fun h24 => ?_)
  · exact absurd ((law_in hLL (by omega)).mp h24) (by omega)
  · refine Tr.aload_n (i := 0) dL_law_27 rfl rfl (Eq.refl 28) ?_
    refine Tr.iload_n (i := 3) dL_law_28 rfl rfl (Eq.refl 29) ?_
    refine Tr.sald dL_law_29 (show _ < E.2.2 301 by omega) hLL (Eq.refl 30) ?_
    refine Tr.bipush (v := nI 63) dL_law_30 (by decide +kernel) (Eq.refl 32) ?_
    refine Tr.iand dL_law_32 (Eq.refl 33) ?_
    skip
    refine Tr.tsIn (off := 1011) (tgt := 1044) dL_law_33 (by rw [hk]; decide) (by rw [hk]; decide) (by rw [hk]; rfl) (by decide) ?_
    refine Tr.aload_n (i := 1) dL_law_1044 rfl rfl (Eq.refl 1045) ?_
    refine Tr.aload_n (i := 0) dL_law_1045 rfl rfl (Eq.refl 1046) ?_
    refine Tr.iload_n (i := 3) dL_law_1046 rfl rfl (Eq.refl 1047) ?_
    refine Tr.iconst (v := nI 1) dL_law_1047 (icN 1) (Eq.refl 1048) ?_
    refine Tr.iaddN dL_law_1048 (Eq.refl 1049) ?_
    refine Tr.sald dL_law_1049 (show _ < E.2.2 301 by omega) hLL (Eq.refl 1050) ?_
    refine Tr.lawX (As := [.int (sx E (6 * j + 1))]) h1 dL_law_1050 (kL_139 (Nat.le_of_ble_eq_true rfl)) iX9_whom rfl rfl rfl rfl rfl rfl (Eq.refl 1053) ?_
    refine Tr.aload_n (i := 2) dL_law_1053 rfl rfl (Eq.refl 1054) ?_
    refine Tr.aload_n (i := 0) dL_law_1054 rfl rfl (Eq.refl 1055) ?_
    refine Tr.iload_n (i := 3) dL_law_1055 rfl rfl (Eq.refl 1056) ?_
    refine Tr.iconst (v := nI 1) dL_law_1056 (icN 1) (Eq.refl 1057) ?_
    refine Tr.iaddN dL_law_1057 (Eq.refl 1058) ?_
    refine Tr.sald dL_law_1058 (show _ < E.2.2 301 by omega) hLL (Eq.refl 1059) ?_
    refine Tr.lawM (As := [.int (sx E (6 * j + 1))]) h2 dL_law_1059 (kL_142 (Nat.le_of_ble_eq_true rfl)) iX10_whom rfl rfl rfl rfl rfl rfl (Eq.refl 1062) ?_
    refine Tr.icmp_eq (tgt := 1159) dL_law_1062 (by decide) (Eq.refl 1065) (fun h1062 => ?_) (fun h1062 => ?_)
    · skip
      refine Tr.iinc dL_law_1159 rfl rfl rfl rfl (Eq.refl 1162) ?_
      refine Tr.goto (pc' := 18) dL_law_1162 (by decide) ?_
      rw [law_6]
      exact hw
    · exact absurd rfl h1062
set_option maxHeartbeats 4000000 in
set_option maxRecDepth 100000 in
theorem law_edge (E : EnvT) (ad : Nat → Nat) (kb nb j : Nat) (x : Xst) (m : Mst) (hR : RR (400 * j) x m) (hj : j < 512) (hL : 6 * j + 5 < E.2.2 301) (hLL : E.2.2 301 ≤ 3072) (ih : ∀ x m, RR (400 * (j + 1)) x m → ∃ w0, Tr (E, mL_law, ad, some (.int (bI true)), w0) kb nb 18 [some (.ref (E.2.2 300)), some (.ref (ad 0)), some (.ref (ad 159)), some (.int (nI (6 * (j + 1))))] [] (WW E ad x m)) (hk : sx E (6 * j) &&& nI 63 = nI 31) : ∃ w0, Tr (E, mL_law, ad, some (.int (bI true)), w0) kb nb 18 [some (.ref (E.2.2 300)), some (.ref (ad 0)), some (.ref (ad 159)), some (.int (nI (6 * j)))] [] (WW E ad x m) := by
  obtain ⟨r, x', m', hR', h1, h2⟩ := pr_edge E (400 * j) x m (sx E (6 * j + 1)) (sx E (6 * j + 2)) hR (by omega)
  obtain ⟨w0, hw⟩ := ih x' m' hR'
  refine ⟨w0, ?_⟩
  refine Tr.iload_n (i := 3) dL_law_18 rfl rfl (Eq.refl 19) ?_
  refine Tr.aload_n (i := 0) dL_law_19 rfl rfl (Eq.refl 20) ?_
  refine Tr.slen dL_law_20 (Eq.refl 21) ?_
  refine Tr.bipush (v := nI 6) dL_law_21 (by decide +kernel) (Eq.refl 23) ?_
  refine Tr.isub dL_law_23 (Eq.refl 24) ?_
  refine Tr.icmp_gt (tgt := 1165) dL_law_24 (by decide) (Eq.refl 27) (fun h24 => ?_) (fun h24 => ?_)
  · exact absurd ((law_in hLL (by omega)).mp h24) (by omega)
  · refine Tr.aload_n (i := 0) dL_law_27 rfl rfl (Eq.refl 28) ?_
    refine Tr.iload_n (i := 3) dL_law_28 rfl rfl (Eq.refl 29) ?_
    refine Tr.sald dL_law_29 (show _ < E.2.2 301 by omega) hLL (Eq.refl 30) ?_
    refine Tr.bipush (v := nI 63) dL_law_30 (by decide +kernel) (Eq.refl 32) ?_
    refine Tr.iand dL_law_32 (Eq.refl 33) ?_
    skip
    refine Tr.tsIn (off := 1034) (tgt := 1067) dL_law_33 (by rw [hk]; decide) (by rw [hk]; decide) (by rw [hk]; rfl) (by decide) ?_
    refine Tr.aload_n (i := 1) dL_law_1067 rfl rfl (Eq.refl 1068) ?_
    refine Tr.aload_n (i := 0) dL_law_1068 rfl rfl (Eq.refl 1069) ?_
    refine Tr.iload_n (i := 3) dL_law_1069 rfl rfl (Eq.refl 1070) ?_
    refine Tr.iconst (v := nI 1) dL_law_1070 (icN 1) (Eq.refl 1071) ?_
    refine Tr.iaddN dL_law_1071 (Eq.refl 1072) ?_
    refine Tr.sald dL_law_1072 (show _ < E.2.2 301 by omega) hLL (Eq.refl 1073) ?_
    refine Tr.aload_n (i := 0) dL_law_1073 rfl rfl (Eq.refl 1074) ?_
    refine Tr.iload_n (i := 3) dL_law_1074 rfl rfl (Eq.refl 1075) ?_
    refine Tr.iconst (v := nI 2) dL_law_1075 (icN 2) (Eq.refl 1076) ?_
    refine Tr.iaddN dL_law_1076 (Eq.refl 1077) ?_
    refine Tr.sald dL_law_1077 (show _ < E.2.2 301 by omega) hLL (Eq.refl 1078) ?_
    refine Tr.lawX (As := [.int (sx E (6 * j + 1)), .int (sx E (6 * j + 2))]) h1 dL_law_1078 (kL_143 (Nat.le_of_ble_eq_true rfl)) iX9_edge rfl rfl rfl rfl rfl rfl (Eq.refl 1081) ?_
    refine Tr.aload_n (i := 2) dL_law_1081 rfl rfl (Eq.refl 1082) ?_
    refine Tr.aload_n (i := 0) dL_law_1082 rfl rfl (Eq.refl 1083) ?_
    refine Tr.iload_n (i := 3) dL_law_1083 rfl rfl (Eq.refl 1084) ?_
    refine Tr.iconst (v := nI 1) dL_law_1084 (icN 1) (Eq.refl 1085) ?_
    refine Tr.iaddN dL_law_1085 (Eq.refl 1086) ?_
    refine Tr.sald dL_law_1086 (show _ < E.2.2 301 by omega) hLL (Eq.refl 1087) ?_
    refine Tr.aload_n (i := 0) dL_law_1087 rfl rfl (Eq.refl 1088) ?_
    refine Tr.iload_n (i := 3) dL_law_1088 rfl rfl (Eq.refl 1089) ?_
    refine Tr.iconst (v := nI 2) dL_law_1089 (icN 2) (Eq.refl 1090) ?_
    refine Tr.iaddN dL_law_1090 (Eq.refl 1091) ?_
    refine Tr.sald dL_law_1091 (show _ < E.2.2 301 by omega) hLL (Eq.refl 1092) ?_
    refine Tr.lawM (As := [.int (sx E (6 * j + 1)), .int (sx E (6 * j + 2))]) h2 dL_law_1092 (kL_146 (Nat.le_of_ble_eq_true rfl)) iX10_edge rfl rfl rfl rfl rfl rfl (Eq.refl 1095) ?_
    refine Tr.icmp_eq (tgt := 1159) dL_law_1095 (by decide) (Eq.refl 1098) (fun h1095 => ?_) (fun h1095 => ?_)
    · skip
      refine Tr.iinc dL_law_1159 rfl rfl rfl rfl (Eq.refl 1162) ?_
      refine Tr.goto (pc' := 18) dL_law_1162 (by decide) ?_
      rw [law_6]
      exact hw
    · exact absurd rfl h1095
set_option maxHeartbeats 4000000 in
set_option maxRecDepth 100000 in
theorem law_show (E : EnvT) (ad : Nat → Nat) (kb nb j : Nat) (x : Xst) (m : Mst) (hR : RR (400 * j) x m) (hj : j < 512) (hL : 6 * j + 5 < E.2.2 301) (hLL : E.2.2 301 ≤ 3072) (ih : ∀ x m, RR (400 * (j + 1)) x m → ∃ w0, Tr (E, mL_law, ad, some (.int (bI true)), w0) kb nb 18 [some (.ref (E.2.2 300)), some (.ref (ad 0)), some (.ref (ad 159)), some (.int (nI (6 * (j + 1))))] [] (WW E ad x m)) (hk : sx E (6 * j) &&& nI 63 = nI 32) : ∃ w0, Tr (E, mL_law, ad, some (.int (bI true)), w0) kb nb 18 [some (.ref (E.2.2 300)), some (.ref (ad 0)), some (.ref (ad 159)), some (.int (nI (6 * j)))] [] (WW E ad x m) := by
  obtain ⟨r, x', m', hR', h1, h2⟩ := pr_show E (400 * j) x m (sx E (6 * j + 1)) hR (by omega)
  obtain ⟨w0, hw⟩ := ih x' m' hR'
  refine ⟨w0, ?_⟩
  refine Tr.iload_n (i := 3) dL_law_18 rfl rfl (Eq.refl 19) ?_
  refine Tr.aload_n (i := 0) dL_law_19 rfl rfl (Eq.refl 20) ?_
  refine Tr.slen dL_law_20 (Eq.refl 21) ?_
  refine Tr.bipush (v := nI 6) dL_law_21 (by decide +kernel) (Eq.refl 23) ?_
  refine Tr.isub dL_law_23 (Eq.refl 24) ?_
  refine Tr.icmp_gt (tgt := 1165) dL_law_24 (by decide) (Eq.refl 27) (fun h24 => ?_) (fun h24 => ?_)
  · exact absurd ((law_in hLL (by omega)).mp h24) (by omega)
  · refine Tr.aload_n (i := 0) dL_law_27 rfl rfl (Eq.refl 28) ?_
    refine Tr.iload_n (i := 3) dL_law_28 rfl rfl (Eq.refl 29) ?_
    refine Tr.sald dL_law_29 (show _ < E.2.2 301 by omega) hLL (Eq.refl 30) ?_
    refine Tr.bipush (v := nI 63) dL_law_30 (by decide +kernel) (Eq.refl 32) ?_
    refine Tr.iand dL_law_32 (Eq.refl 33) ?_
    skip
    refine Tr.tsIn (off := 1067) (tgt := 1100) dL_law_33 (by rw [hk]; decide) (by rw [hk]; decide) (by rw [hk]; rfl) (by decide) ?_
    refine Tr.aload_n (i := 1) dL_law_1100 rfl rfl (Eq.refl 1101) ?_
    refine Tr.aload_n (i := 0) dL_law_1101 rfl rfl (Eq.refl 1102) ?_
    refine Tr.iload_n (i := 3) dL_law_1102 rfl rfl (Eq.refl 1103) ?_
    refine Tr.iconst (v := nI 1) dL_law_1103 (icN 1) (Eq.refl 1104) ?_
    refine Tr.iaddN dL_law_1104 (Eq.refl 1105) ?_
    refine Tr.sald dL_law_1105 (show _ < E.2.2 301 by omega) hLL (Eq.refl 1106) ?_
    refine Tr.lawX (As := [.int (sx E (6 * j + 1))]) h1 dL_law_1106 (kL_147 (Nat.le_of_ble_eq_true rfl)) iX9_show rfl rfl rfl rfl rfl rfl (Eq.refl 1109) ?_
    refine Tr.aload_n (i := 2) dL_law_1109 rfl rfl (Eq.refl 1110) ?_
    refine Tr.aload_n (i := 0) dL_law_1110 rfl rfl (Eq.refl 1111) ?_
    refine Tr.iload_n (i := 3) dL_law_1111 rfl rfl (Eq.refl 1112) ?_
    refine Tr.iconst (v := nI 1) dL_law_1112 (icN 1) (Eq.refl 1113) ?_
    refine Tr.iaddN dL_law_1113 (Eq.refl 1114) ?_
    refine Tr.sald dL_law_1114 (show _ < E.2.2 301 by omega) hLL (Eq.refl 1115) ?_
    refine Tr.lawM (As := [.int (sx E (6 * j + 1))]) h2 dL_law_1115 (kL_150 (Nat.le_of_ble_eq_true rfl)) iX10_show rfl rfl rfl rfl rfl rfl (Eq.refl 1118) ?_
    refine Tr.icmp_eq (tgt := 1159) dL_law_1118 (by decide) (Eq.refl 1121) (fun h1118 => ?_) (fun h1118 => ?_)
    · skip
      refine Tr.iinc dL_law_1159 rfl rfl rfl rfl (Eq.refl 1162) ?_
      refine Tr.goto (pc' := 18) dL_law_1162 (by decide) ?_
      rw [law_6]
      exact hw
    · exact absurd rfl h1118
set_option maxHeartbeats 4000000 in
set_option maxRecDepth 100000 in
theorem law_book (E : EnvT) (ad : Nat → Nat) (kb nb j : Nat) (x : Xst) (m : Mst) (hR : RR (400 * j) x m) (hj : j < 512) (hL : 6 * j + 5 < E.2.2 301) (hLL : E.2.2 301 ≤ 3072) (ih : ∀ x m, RR (400 * (j + 1)) x m → ∃ w0, Tr (E, mL_law, ad, some (.int (bI true)), w0) kb nb 18 [some (.ref (E.2.2 300)), some (.ref (ad 0)), some (.ref (ad 159)), some (.int (nI (6 * (j + 1))))] [] (WW E ad x m)) (hk : sx E (6 * j) &&& nI 63 = nI 33) : ∃ w0, Tr (E, mL_law, ad, some (.int (bI true)), w0) kb nb 18 [some (.ref (E.2.2 300)), some (.ref (ad 0)), some (.ref (ad 159)), some (.int (nI (6 * j)))] [] (WW E ad x m) := by
  obtain ⟨r, x', m', hR', h1, h2⟩ := pr_book E (400 * j) x m  hR (by omega)
  obtain ⟨w0, hw⟩ := ih x' m' hR'
  refine ⟨w0, ?_⟩
  refine Tr.iload_n (i := 3) dL_law_18 rfl rfl (Eq.refl 19) ?_
  refine Tr.aload_n (i := 0) dL_law_19 rfl rfl (Eq.refl 20) ?_
  refine Tr.slen dL_law_20 (Eq.refl 21) ?_
  refine Tr.bipush (v := nI 6) dL_law_21 (by decide +kernel) (Eq.refl 23) ?_
  refine Tr.isub dL_law_23 (Eq.refl 24) ?_
  refine Tr.icmp_gt (tgt := 1165) dL_law_24 (by decide) (Eq.refl 27) (fun h24 => ?_) (fun h24 => ?_)
  · exact absurd ((law_in hLL (by omega)).mp h24) (by omega)
  · refine Tr.aload_n (i := 0) dL_law_27 rfl rfl (Eq.refl 28) ?_
    refine Tr.iload_n (i := 3) dL_law_28 rfl rfl (Eq.refl 29) ?_
    refine Tr.sald dL_law_29 (show _ < E.2.2 301 by omega) hLL (Eq.refl 30) ?_
    refine Tr.bipush (v := nI 63) dL_law_30 (by decide +kernel) (Eq.refl 32) ?_
    refine Tr.iand dL_law_32 (Eq.refl 33) ?_
    skip
    refine Tr.tsIn (off := 1090) (tgt := 1123) dL_law_33 (by rw [hk]; decide) (by rw [hk]; decide) (by rw [hk]; rfl) (by decide) ?_
    refine Tr.aload_n (i := 1) dL_law_1123 rfl rfl (Eq.refl 1124) ?_
    refine Tr.lawX (As := []) h1 dL_law_1124 (kL_151 (Nat.le_of_ble_eq_true rfl)) iX9_book rfl rfl rfl rfl rfl rfl (Eq.refl 1127) ?_
    refine Tr.aload_n (i := 2) dL_law_1127 rfl rfl (Eq.refl 1128) ?_
    refine Tr.lawM (As := []) h2 dL_law_1128 (kL_154 (Nat.le_of_ble_eq_true rfl)) iX10_book rfl rfl rfl rfl rfl rfl (Eq.refl 1131) ?_
    refine Tr.icmp_eq (tgt := 1159) dL_law_1131 (by decide) (Eq.refl 1134) (fun h1131 => ?_) (fun h1131 => ?_)
    · skip
      refine Tr.iinc dL_law_1159 rfl rfl rfl rfl (Eq.refl 1162) ?_
      refine Tr.goto (pc' := 18) dL_law_1162 (by decide) ?_
      rw [law_6]
      exact hw
    · exact absurd rfl h1131
set_option maxHeartbeats 4000000 in
set_option maxRecDepth 100000 in
theorem law_count (E : EnvT) (ad : Nat → Nat) (kb nb j : Nat) (x : Xst) (m : Mst) (hR : RR (400 * j) x m) (hj : j < 512) (hL : 6 * j + 5 < E.2.2 301) (hLL : E.2.2 301 ≤ 3072) (ih : ∀ x m, RR (400 * (j + 1)) x m → ∃ w0, Tr (E, mL_law, ad, some (.int (bI true)), w0) kb nb 18 [some (.ref (E.2.2 300)), some (.ref (ad 0)), some (.ref (ad 159)), some (.int (nI (6 * (j + 1))))] [] (WW E ad x m)) (hk : sx E (6 * j) &&& nI 63 = nI 34) : ∃ w0, Tr (E, mL_law, ad, some (.int (bI true)), w0) kb nb 18 [some (.ref (E.2.2 300)), some (.ref (ad 0)), some (.ref (ad 159)), some (.int (nI (6 * j)))] [] (WW E ad x m) := by
  obtain ⟨r, x', m', hR', h1, h2⟩ := pr_count E (400 * j) x m (sx E (6 * j + 1)) hR (by omega)
  obtain ⟨w0, hw⟩ := ih x' m' hR'
  refine ⟨w0, ?_⟩
  refine Tr.iload_n (i := 3) dL_law_18 rfl rfl (Eq.refl 19) ?_
  refine Tr.aload_n (i := 0) dL_law_19 rfl rfl (Eq.refl 20) ?_
  refine Tr.slen dL_law_20 (Eq.refl 21) ?_
  refine Tr.bipush (v := nI 6) dL_law_21 (by decide +kernel) (Eq.refl 23) ?_
  refine Tr.isub dL_law_23 (Eq.refl 24) ?_
  refine Tr.icmp_gt (tgt := 1165) dL_law_24 (by decide) (Eq.refl 27) (fun h24 => ?_) (fun h24 => ?_)
  · exact absurd ((law_in hLL (by omega)).mp h24) (by omega)
  · refine Tr.aload_n (i := 0) dL_law_27 rfl rfl (Eq.refl 28) ?_
    refine Tr.iload_n (i := 3) dL_law_28 rfl rfl (Eq.refl 29) ?_
    refine Tr.sald dL_law_29 (show _ < E.2.2 301 by omega) hLL (Eq.refl 30) ?_
    refine Tr.bipush (v := nI 63) dL_law_30 (by decide +kernel) (Eq.refl 32) ?_
    refine Tr.iand dL_law_32 (Eq.refl 33) ?_
    skip
    refine Tr.tsIn (off := 1103) (tgt := 1136) dL_law_33 (by rw [hk]; decide) (by rw [hk]; decide) (by rw [hk]; rfl) (by decide) ?_
    refine Tr.aload_n (i := 1) dL_law_1136 rfl rfl (Eq.refl 1137) ?_
    refine Tr.aload_n (i := 0) dL_law_1137 rfl rfl (Eq.refl 1138) ?_
    refine Tr.iload_n (i := 3) dL_law_1138 rfl rfl (Eq.refl 1139) ?_
    refine Tr.iconst (v := nI 1) dL_law_1139 (icN 1) (Eq.refl 1140) ?_
    refine Tr.iaddN dL_law_1140 (Eq.refl 1141) ?_
    refine Tr.sald dL_law_1141 (show _ < E.2.2 301 by omega) hLL (Eq.refl 1142) ?_
    refine Tr.lawX (As := [.int (sx E (6 * j + 1))]) h1 dL_law_1142 (kL_155 (Nat.le_of_ble_eq_true rfl)) iX9_count rfl rfl rfl rfl rfl rfl (Eq.refl 1145) ?_
    refine Tr.aload_n (i := 2) dL_law_1145 rfl rfl (Eq.refl 1146) ?_
    refine Tr.aload_n (i := 0) dL_law_1146 rfl rfl (Eq.refl 1147) ?_
    refine Tr.iload_n (i := 3) dL_law_1147 rfl rfl (Eq.refl 1148) ?_
    refine Tr.iconst (v := nI 1) dL_law_1148 (icN 1) (Eq.refl 1149) ?_
    refine Tr.iaddN dL_law_1149 (Eq.refl 1150) ?_
    refine Tr.sald dL_law_1150 (show _ < E.2.2 301 by omega) hLL (Eq.refl 1151) ?_
    refine Tr.lawM (As := [.int (sx E (6 * j + 1))]) h2 dL_law_1151 (kL_158 (Nat.le_of_ble_eq_true rfl)) iX10_count rfl rfl rfl rfl rfl rfl (Eq.refl 1154) ?_
    refine Tr.icmp_eq (tgt := 1159) dL_law_1154 (by decide) (Eq.refl 1157) (fun h1154 => ?_) (fun h1154 => ?_)
    · skip
      refine Tr.iinc dL_law_1159 rfl rfl rfl rfl (Eq.refl 1162) ?_
      refine Tr.goto (pc' := 18) dL_law_1162 (by decide) ?_
      rw [law_6]
      exact hw
    · exact absurd rfl h1154
theorem RR_mono {B B2 : Nat} {x : Xst} {m : Mst} (h : RR B x m) (hB : B ≤ B2) : RR B2 x m := R0.mono h hB
set_option maxHeartbeats 4000000 in
set_option maxRecDepth 100000 in
theorem law_none (E : EnvT) (ad : Nat → Nat) (kb nb j : Nat) (x : Xst) (m : Mst) (hR : RR (400 * j) x m) (hj : j < 512) (hL : 6 * j + 5 < E.2.2 301) (hLL : E.2.2 301 ≤ 3072) (ih : ∀ x m, RR (400 * (j + 1)) x m → ∃ w0, Tr (E, mL_law, ad, some (.int (bI true)), w0) kb nb 18 [some (.ref (E.2.2 300)), some (.ref (ad 0)), some (.ref (ad 159)), some (.int (nI (6 * (j + 1))))] [] (WW E ad x m)) (hk : ∀ k, k ≤ 34 → ¬ sx E (6 * j) &&& nI 63 = nI k) : ∃ w0, Tr (E, mL_law, ad, some (.int (bI true)), w0) kb nb 18 [some (.ref (E.2.2 300)), some (.ref (ad 0)), some (.ref (ad 159)), some (.int (nI (6 * j)))] [] (WW E ad x m) := by
  obtain ⟨w0, hw⟩ := ih x m (RR_mono hR (by omega))
  refine ⟨w0, ?_⟩
  refine Tr.iload_n (i := 3) dL_law_18 rfl rfl (Eq.refl 19) ?_
  refine Tr.aload_n (i := 0) dL_law_19 rfl rfl (Eq.refl 20) ?_
  refine Tr.slen dL_law_20 (Eq.refl 21) ?_
  refine Tr.bipush (v := nI 6) dL_law_21 (by decide +kernel) (Eq.refl 23) ?_
  refine Tr.isub dL_law_23 (Eq.refl 24) ?_
  refine Tr.icmp_gt (tgt := 1165) dL_law_24 (by decide) (Eq.refl 27) (fun h24 => ?_) (fun h24 => ?_)
  · exact absurd ((law_in hLL (by omega)).mp h24) (by omega)
  · refine Tr.aload_n (i := 0) dL_law_27 rfl rfl (Eq.refl 28) ?_
    refine Tr.iload_n (i := 3) dL_law_28 rfl rfl (Eq.refl 29) ?_
    refine Tr.sald dL_law_29 (show _ < E.2.2 301 by omega) hLL (Eq.refl 30) ?_
    refine Tr.bipush (v := nI 63) dL_law_30 (by decide +kernel) (Eq.refl 32) ?_
    refine Tr.iand dL_law_32 (Eq.refl 33) ?_
    skip
    refine Tr.tsOut (tgt := 1159) dL_law_33 (by
      by_cases hA : (sx E (6 * j) &&& nI 63).toInt < 0 ∨ 34 < (sx E (6 * j) &&& nI 63).toInt
      · exact hA
      · exact absurd (show sx E (6 * j) &&& nI 63 = nI (sx E (6 * j) &&& nI 63).toInt.toNat by rw [eqI, nI_toInt (by omega)]; omega) (hk _ (by omega))) (by decide) ?_
    refine Tr.iinc dL_law_1159 rfl rfl rfl rfl (Eq.refl 1162) ?_
    refine Tr.goto (pc' := 18) dL_law_1162 (by decide) ?_
    rw [law_6]
    exact hw
set_option maxHeartbeats 4000000 in
set_option maxRecDepth 100000 in
theorem law_round (E : EnvT) (ad : Nat → Nat) (kb nb j : Nat) (x : Xst) (m : Mst) (hR : RR (400 * j) x m) (hj : j < 512) (hL : 6 * j + 5 < E.2.2 301) (hLL : E.2.2 301 ≤ 3072) (ih : ∀ x m, RR (400 * (j + 1)) x m → ∃ w0, Tr (E, mL_law, ad, some (.int (bI true)), w0) kb nb 18 [some (.ref (E.2.2 300)), some (.ref (ad 0)), some (.ref (ad 159)), some (.int (nI (6 * (j + 1))))] [] (WW E ad x m)) : ∃ w0, Tr (E, mL_law, ad, some (.int (bI true)), w0) kb nb 18 [some (.ref (E.2.2 300)), some (.ref (ad 0)), some (.ref (ad 159)), some (.int (nI (6 * j)))] [] (WW E ad x m) := by
  by_cases hn : ∃ k, k ≤ 34 ∧ sx E (6 * j) &&& nI 63 = nI k
  · obtain ⟨k, hk, e⟩ := hn
    rcases (show k = 0 ∨ k = 1 ∨ k = 2 ∨ k = 3 ∨ k = 4 ∨ k = 5 ∨ k = 6 ∨ k = 7 ∨ k = 8 ∨ k = 9 ∨ k = 10 ∨ k = 11 ∨ k = 12 ∨ k = 13 ∨ k = 14 ∨ k = 15 ∨ k = 16 ∨ k = 17 ∨ k = 18 ∨ k = 19 ∨ k = 20 ∨ k = 21 ∨ k = 22 ∨ k = 23 ∨ k = 24 ∨ k = 25 ∨ k = 26 ∨ k = 27 ∨ k = 28 ∨ k = 29 ∨ k = 30 ∨ k = 31 ∨ k = 32 ∨ k = 33 ∨ k = 34 by omega) with rfl | rfl | rfl | rfl | rfl | rfl | rfl | rfl | rfl | rfl | rfl | rfl | rfl | rfl | rfl | rfl | rfl | rfl | rfl | rfl | rfl | rfl | rfl | rfl | rfl | rfl | rfl | rfl | rfl | rfl | rfl | rfl | rfl | rfl | rfl
    · exact law_feed E ad kb nb j x m hR hj hL hLL ih e
    · exact law_end E ad kb nb j x m hR hj hL hLL ih e
    · exact law_village E ad kb nb j x m hR hj hL hLL ih e
    · exact law_fault E ad kb nb j x m hR hj hL hLL ih e
    · exact law_told E ad kb nb j x m hR hj hL hLL ih e
    · exact law_tie E ad kb nb j x m hR hj hL hLL ih e
    · exact law_plan E ad kb nb j x m hR hj hL hLL ih e
    · exact law_planned E ad kb nb j x m hR hj hL hLL ih e
    · exact law_lets E ad kb nb j x m hR hj hL hLL ih e
    · exact law_chance E ad kb nb j x m hR hj hL hLL ih e
    · exact law_pass E ad kb nb j x m hR hj hL hLL ih e
    · exact law_who E ad kb nb j x m hR hj hL hLL ih e
    · exact law_house E ad kb nb j x m hR hj hL hLL ih e
    · exact law_word E ad kb nb j x m hR hj hL hLL ih e
    · exact law_keep E ad kb nb j x m hR hj hL hLL ih e
    · exact law_take E ad kb nb j x m hR hj hL hLL ih e
    · exact law_sum E ad kb nb j x m hR hj hL hLL ih e
    · exact law_best E ad kb nb j x m hR hj hL hLL ih e
    · exact law_rests E ad kb nb j x m hR hj hL hLL ih e
    · exact law_rest E ad kb nb j x m hR hj hL hLL ih e
    · exact law_settle E ad kb nb j x m hR hj hL hLL ih e
    · exact law_longer E ad kb nb j x m hR hj hL hLL ih e
    · exact law_guard E ad kb nb j x m hR hj hL hLL ih e
    · exact law_rings E ad kb nb j x m hR hj hL hLL ih e
    · exact law_when E ad kb nb j x m hR hj hL hLL ih e
    · exact law_bound E ad kb nb j x m hR hj hL hLL ih e
    · exact law_law E ad kb nb j x m hR hj hL hLL ih e
    · exact law_bestLaw E ad kb nb j x m hR hj hL hLL ih e
    · exact law_feast E ad kb nb j x m hR hj hL hLL ih e
    · exact law_turned E ad kb nb j x m hR hj hL hLL ih e
    · exact law_whom E ad kb nb j x m hR hj hL hLL ih e
    · exact law_edge E ad kb nb j x m hR hj hL hLL ih e
    · exact law_show E ad kb nb j x m hR hj hL hLL ih e
    · exact law_book E ad kb nb j x m hR hj hL hLL ih e
    · exact law_count E ad kb nb j x m hR hj hL hLL ih e
  · exact law_none E ad kb nb j x m hR hj hL hLL ih (fun k hk e => hn ⟨k, hk, e⟩)
set_option maxHeartbeats 4000000 in
set_option maxRecDepth 100000 in
theorem law_loop (E : EnvT) (ad : Nat → Nat) (kb nb : Nat) (hLL : E.2.2 301 ≤ 3072) : ∀ (n j : Nat) (x : Xst) (m : Mst), j + n = 513 → RR (400 * j) x m → ∃ w0, Tr (E, mL_law, ad, some (.int (bI true)), w0) kb nb 18 [some (.ref (E.2.2 300)), some (.ref (ad 0)), some (.ref (ad 159)), some (.int (nI (6 * j)))] [] (WW E ad x m) := by
  intro n
  induction n with
  | zero =>
    intro j x m hj hR
    refine ⟨WW E ad x m, ?_⟩
    refine Tr.iload_n (i := 3) dL_law_18 rfl rfl (Eq.refl 19) ?_
    refine Tr.aload_n (i := 0) dL_law_19 rfl rfl (Eq.refl 20) ?_
    refine Tr.slen dL_law_20 (Eq.refl 21) ?_
    refine Tr.bipush (v := nI 6) dL_law_21 (by decide +kernel) (Eq.refl 23) ?_
    refine Tr.isub dL_law_23 (Eq.refl 24) ?_
    refine Tr.icmp_gt (tgt := 1165) dL_law_24 (by decide) (Eq.refl 27) (fun h24 => ?_) (fun h24 => ?_)
    · refine Tr.iconst (v := nI 1) dL_law_1165 (icN 1) (Eq.refl 1166) ?_
      refine Tr.iret dL_law_1166 rfl (by first | rfl | exact bI_nar _) ?_ ?_
      · rfl
      · rfl
    · exact absurd ((law_in hLL (by omega)).mpr (by omega)) h24
  | succ n ih =>
    intro j x m hj hR
    by_cases hL : 6 * j + 5 < E.2.2 301
    · exact law_round E ad kb nb j x m hR (by omega) hL hLL (fun x m h => ih (j + 1) x m (by omega) h)
    · refine ⟨WW E ad x m, ?_⟩
      refine Tr.iload_n (i := 3) dL_law_18 rfl rfl (Eq.refl 19) ?_
      refine Tr.aload_n (i := 0) dL_law_19 rfl rfl (Eq.refl 20) ?_
      refine Tr.slen dL_law_20 (Eq.refl 21) ?_
      refine Tr.bipush (v := nI 6) dL_law_21 (by decide +kernel) (Eq.refl 23) ?_
      refine Tr.isub dL_law_23 (Eq.refl 24) ?_
      refine Tr.icmp_gt (tgt := 1165) dL_law_24 (by decide) (Eq.refl 27) (fun h24 => ?_) (fun h24 => ?_)
      · refine Tr.iconst (v := nI 1) dL_law_1165 (icN 1) (Eq.refl 1166) ?_
        refine Tr.iret dL_law_1166 rfl (by first | rfl | exact bI_nar _) ?_ ?_
        · rfl
        · rfl
      · exact absurd ((law_in hLL (by omega)).mpr (by omega)) h24
