/-! the law's sixteen arms -/
set_option maxHeartbeats 4000000 in
set_option maxRecDepth 100000 in
theorem arm_0 (C : GX) (cI cO : ClassId) (h : OKx C cL_law 4 wsL_law RL room_1 cI cO) (hw : ¬ gRo C) (b L : Nat) (xs : Nat → Int32) (hX : SX C b L xs) (hL : L ≤ 2560) (a hm : Nat → Nat) (i B ns nk t : Nat) (Z : Sg) (d : Dy) (u : UX) (v : MX) (hi : i + 5 ≤ L) (hI : Iv ns nk t B Z d) (hc : Cq d) (hRC : RC d u) (hRM : RM d v) (hB : B < 800000000) (tail : ∀ (Z2 : Sg) (d2 : Dy) (u2 : UX) (v2 : MX), Iw (B + 200000) Z2 d2 → Cq d2 → RC d2 u2 → RM d2 v2 → GG C 4 (cw cI cO a u2 Z2 d2 ++ mwd cI hm v2 Z2 d2) (71 + cp d2) (70000 + 2 * cp d2) 670 [(0, .ref b), (1, .ref (a 0)), (2, .ref (hm 0)), (3, .int (nI i))] []) : GG C 4 (cw cI cO a u Z d ++ mwd cI hm v Z d) (71 + cp d) (70000 + 2 * cp d) 112 [(0, .ref b), (1, .ref (a 0)), (2, .ref (hm 0)), (3, .int (nI i))] [] := by
  have hz := hI.1.v
  have hph := hI.2.2.2.1
  have hsz := Ph_sz d
  have hs2 : sz d = d.2.1.length + d.2.2.1.length := rfl
  have hcp := hc.cp
  have hk : Kp B d (kindP nk Z d (xs (i + 1)) (xs (i + 2)) (xs (i + 3))) := kp_kind hI hc (xs (i + 1)) (xs (i + 2)) (xs (i + 3))
  obtain ⟨k1, k2, k3⟩ := hk
  have k4 := k3.cp
  refine g_aload_n h (pc := 112) dL_law_112 1 rfl ?_
  refine g_arg h hX hL (pc := 113) (j := 1) dL_law_113 dL_law_114 dL_law_115 dL_law_116 dL_law_117 (by decide) (by omega) ?_
  refine g_arg h hX hL (pc := 118) (j := 2) dL_law_118 dL_law_119 dL_law_120 dL_law_121 dL_law_122 (by decide) (by omega) ?_
  refine g_arg h hX hL (pc := 123) (j := 3) dL_law_123 dL_law_124 dL_law_125 dL_law_126 dL_law_127 (by decide) (by omega) ?_
  refine g_lawC h hw (pc := 128) (As := [.int (xs (i + 1)), .int (xs (i + 2)), .int (xs (i + 3))]) (st := []) dL_law_128 (c_kind (gL C) (gD C) cI cO a u Z d hRC ns nk hz  (xs (i + 1)) (xs (i + 2)) (xs (i + 3))) gL_law_X3_kind rfl (show nPar yX3_kind RX3 3 = true by decide +kernel) ⟨Nat.le_of_ble_eq_true rfl, Nat.le_of_ble_eq_true rfl⟩ rfl (Nat.le_of_ble_eq_true rfl) ⟨by show 71 + _ + _ ≤ 600000; omega, by show 70000 + _ + _ ≤ 7302250; omega⟩ (fun u2 hu2 => ?_)
  refine g_aload_n h (pc := 131) dL_law_131 2 rfl ?_
  refine g_arg h hX hL (pc := 132) (j := 1) dL_law_132 dL_law_133 dL_law_134 dL_law_135 dL_law_136 (by decide) (by omega) ?_
  refine g_arg h hX hL (pc := 137) (j := 2) dL_law_137 dL_law_138 dL_law_139 dL_law_140 dL_law_141 (by decide) (by omega) ?_
  refine g_arg h hX hL (pc := 142) (j := 3) dL_law_142 dL_law_143 dL_law_144 dL_law_145 dL_law_146 (by decide) (by omega) ?_
  refine g_lawM h hw (pc := 147) (As := [.int (xs (i + 1)), .int (xs (i + 2)), .int (xs (i + 3))]) (st := [.int ((kindP nk Z d (xs (i + 1)) (xs (i + 2)) (xs (i + 3)))).1]) dL_law_147 (m_kind (gL C) (gD C) cI cO hm v Z d hRM ns nk hz  (xs (i + 1)) (xs (i + 2)) (xs (i + 3))) gL_law_X4_kind rfl (show nPar yX4_kind RX4 3 = true by decide +kernel) ⟨Nat.le_of_ble_eq_true rfl, Nat.le_of_ble_eq_true rfl⟩ rfl (Nat.le_of_ble_eq_true rfl) ⟨by show 71 + _ + _ + 0 ≤ 600000; omega, by show 70000 + _ + _ + 0 ≤ 7302250; omega⟩ (fun v2 hv2 => ?_)
  refine g_icmp_eq_t h (pc := 150) (tgt := 670) dL_law_150 (by decide) rfl ?_
  exact g_wid (by omega) (by omega) (tail _ _ u2 v2 k1 k3 hu2 hv2)

set_option maxHeartbeats 4000000 in
set_option maxRecDepth 100000 in
theorem arm_1 (C : GX) (cI cO : ClassId) (h : OKx C cL_law 4 wsL_law RL room_1 cI cO) (hw : ¬ gRo C) (b L : Nat) (xs : Nat → Int32) (hX : SX C b L xs) (hL : L ≤ 2560) (a hm : Nat → Nat) (i B ns nk t : Nat) (Z : Sg) (d : Dy) (u : UX) (v : MX) (hi : i + 5 ≤ L) (hI : Iv ns nk t B Z d) (hc : Cq d) (hRC : RC d u) (hRM : RM d v) (hB : B < 800000000) (tail : ∀ (Z2 : Sg) (d2 : Dy) (u2 : UX) (v2 : MX), Iw (B + 200000) Z2 d2 → Cq d2 → RC d2 u2 → RM d2 v2 → GG C 4 (cw cI cO a u2 Z2 d2 ++ mwd cI hm v2 Z2 d2) (71 + cp d2) (70000 + 2 * cp d2) 670 [(0, .ref b), (1, .ref (a 0)), (2, .ref (hm 0)), (3, .int (nI i))] []) : GG C 4 (cw cI cO a u Z d ++ mwd cI hm v Z d) (71 + cp d) (70000 + 2 * cp d) 155 [(0, .ref b), (1, .ref (a 0)), (2, .ref (hm 0)), (3, .int (nI i))] [] := by
  have hz := hI.1.v
  have hph := hI.2.2.2.1
  have hsz := Ph_sz d
  have hs2 : sz d = d.2.1.length + d.2.2.1.length := rfl
  have hcp := hc.cp
  have hk : Kp B d (shelfP ns Z d (xs (i + 1)) (xs (i + 2))) := kp_shelf hI hc (xs (i + 1)) (xs (i + 2))
  obtain ⟨k1, k2, k3⟩ := hk
  have k4 := k3.cp
  refine g_aload_n h (pc := 155) dL_law_155 1 rfl ?_
  refine g_arg h hX hL (pc := 156) (j := 1) dL_law_156 dL_law_157 dL_law_158 dL_law_159 dL_law_160 (by decide) (by omega) ?_
  refine g_arg h hX hL (pc := 161) (j := 2) dL_law_161 dL_law_162 dL_law_163 dL_law_164 dL_law_165 (by decide) (by omega) ?_
  refine g_lawC h hw (pc := 166) (As := [.int (xs (i + 1)), .int (xs (i + 2))]) (st := []) dL_law_166 (c_shelf (gL C) (gD C) cI cO a u Z d hRC ns nk hz  (xs (i + 1)) (xs (i + 2))) gL_law_X3_shelf rfl (show nPar yX3_shelf RX3 2 = true by decide +kernel) ⟨Nat.le_of_ble_eq_true rfl, Nat.le_of_ble_eq_true rfl⟩ rfl (Nat.le_of_ble_eq_true rfl) ⟨by show 71 + _ + _ ≤ 600000; omega, by show 70000 + _ + _ ≤ 7302250; omega⟩ (fun u2 hu2 => ?_)
  refine g_aload_n h (pc := 169) dL_law_169 2 rfl ?_
  refine g_arg h hX hL (pc := 170) (j := 1) dL_law_170 dL_law_171 dL_law_172 dL_law_173 dL_law_174 (by decide) (by omega) ?_
  refine g_arg h hX hL (pc := 175) (j := 2) dL_law_175 dL_law_176 dL_law_177 dL_law_178 dL_law_179 (by decide) (by omega) ?_
  refine g_lawM h hw (pc := 180) (As := [.int (xs (i + 1)), .int (xs (i + 2))]) (st := [.int ((shelfP ns Z d (xs (i + 1)) (xs (i + 2)))).1]) dL_law_180 (m_shelf (gL C) (gD C) cI cO hm v Z d hRM ns nk hz  (xs (i + 1)) (xs (i + 2))) gL_law_X4_shelf rfl (show nPar yX4_shelf RX4 2 = true by decide +kernel) ⟨Nat.le_of_ble_eq_true rfl, Nat.le_of_ble_eq_true rfl⟩ rfl (Nat.le_of_ble_eq_true rfl) ⟨by show 71 + _ + _ + 0 ≤ 600000; omega, by show 70000 + _ + _ + 0 ≤ 7302250; omega⟩ (fun v2 hv2 => ?_)
  refine g_icmp_eq_t h (pc := 183) (tgt := 670) dL_law_183 (by decide) rfl ?_
  exact g_wid (by omega) (by omega) (tail _ _ u2 v2 k1 k3 hu2 hv2)

set_option maxHeartbeats 4000000 in
set_option maxRecDepth 100000 in
theorem arm_2 (C : GX) (cI cO : ClassId) (h : OKx C cL_law 4 wsL_law RL room_1 cI cO) (hw : ¬ gRo C) (b L : Nat) (xs : Nat → Int32) (hX : SX C b L xs) (hL : L ≤ 2560) (a hm : Nat → Nat) (i B ns nk t : Nat) (Z : Sg) (d : Dy) (u : UX) (v : MX) (hi : i + 5 ≤ L) (hI : Iv ns nk t B Z d) (hc : Cq d) (hRC : RC d u) (hRM : RM d v) (hB : B < 800000000) (tail : ∀ (Z2 : Sg) (d2 : Dy) (u2 : UX) (v2 : MX), Iw (B + 200000) Z2 d2 → Cq d2 → RC d2 u2 → RM d2 v2 → GG C 4 (cw cI cO a u2 Z2 d2 ++ mwd cI hm v2 Z2 d2) (71 + cp d2) (70000 + 2 * cp d2) 670 [(0, .ref b), (1, .ref (a 0)), (2, .ref (hm 0)), (3, .int (nI i))] []) : GG C 4 (cw cI cO a u Z d ++ mwd cI hm v Z d) (71 + cp d) (70000 + 2 * cp d) 188 [(0, .ref b), (1, .ref (a 0)), (2, .ref (hm 0)), (3, .int (nI i))] [] := by
  have hz := hI.1.v
  have hph := hI.2.2.2.1
  have hsz := Ph_sz d
  have hs2 : sz d = d.2.1.length + d.2.2.1.length := rfl
  have hcp := hc.cp
  have hk : Kp B d (mendP ns nk Z d (xs (i + 1)) (xs (i + 2)) (xs (i + 3))) := kp_mend hI hc (xs (i + 1)) (xs (i + 2)) (xs (i + 3))
  obtain ⟨k1, k2, k3⟩ := hk
  have k4 := k3.cp
  refine g_aload_n h (pc := 188) dL_law_188 1 rfl ?_
  refine g_arg h hX hL (pc := 189) (j := 1) dL_law_189 dL_law_190 dL_law_191 dL_law_192 dL_law_193 (by decide) (by omega) ?_
  refine g_arg h hX hL (pc := 194) (j := 2) dL_law_194 dL_law_195 dL_law_196 dL_law_197 dL_law_198 (by decide) (by omega) ?_
  refine g_arg h hX hL (pc := 199) (j := 3) dL_law_199 dL_law_200 dL_law_201 dL_law_202 dL_law_203 (by decide) (by omega) ?_
  refine g_lawC h hw (pc := 204) (As := [.int (xs (i + 1)), .int (xs (i + 2)), .int (xs (i + 3))]) (st := []) dL_law_204 (c_mend (gL C) (gD C) cI cO a u Z d hRC ns nk hz  (xs (i + 1)) (xs (i + 2)) (xs (i + 3))) gL_law_X3_mend rfl (show nPar yX3_mend RX3 3 = true by decide +kernel) ⟨Nat.le_of_ble_eq_true rfl, Nat.le_of_ble_eq_true rfl⟩ rfl (Nat.le_of_ble_eq_true rfl) ⟨by show 71 + _ + _ ≤ 600000; omega, by show 70000 + _ + _ ≤ 7302250; omega⟩ (fun u2 hu2 => ?_)
  refine g_aload_n h (pc := 207) dL_law_207 2 rfl ?_
  refine g_arg h hX hL (pc := 208) (j := 1) dL_law_208 dL_law_209 dL_law_210 dL_law_211 dL_law_212 (by decide) (by omega) ?_
  refine g_arg h hX hL (pc := 213) (j := 2) dL_law_213 dL_law_214 dL_law_215 dL_law_216 dL_law_217 (by decide) (by omega) ?_
  refine g_arg h hX hL (pc := 218) (j := 3) dL_law_218 dL_law_219 dL_law_220 dL_law_221 dL_law_222 (by decide) (by omega) ?_
  refine g_lawM h hw (pc := 223) (As := [.int (xs (i + 1)), .int (xs (i + 2)), .int (xs (i + 3))]) (st := [.int ((mendP ns nk Z d (xs (i + 1)) (xs (i + 2)) (xs (i + 3)))).1]) dL_law_223 (m_mend (gL C) (gD C) cI cO hm v Z d hRM ns nk hz (by omega) (xs (i + 1)) (xs (i + 2)) (xs (i + 3))) gL_law_X4_mend rfl (show nPar yX4_mend RX4 3 = true by decide +kernel) ⟨Nat.le_of_ble_eq_true rfl, Nat.le_of_ble_eq_true rfl⟩ rfl (Nat.le_of_ble_eq_true rfl) ⟨by show 71 + _ + _ + 0 ≤ 600000; omega, by show 70000 + _ + _ + 0 ≤ 7302250; omega⟩ (fun v2 hv2 => ?_)
  refine g_icmp_eq_t h (pc := 226) (tgt := 670) dL_law_226 (by decide) rfl ?_
  exact g_wid (by omega) (by omega) (tail _ _ u2 v2 k1 k3 hu2 hv2)

set_option maxHeartbeats 4000000 in
set_option maxRecDepth 100000 in
theorem arm_3 (C : GX) (cI cO : ClassId) (h : OKx C cL_law 4 wsL_law RL room_1 cI cO) (hw : ¬ gRo C) (b L : Nat) (xs : Nat → Int32) (hX : SX C b L xs) (hL : L ≤ 2560) (a hm : Nat → Nat) (i B ns nk t : Nat) (Z : Sg) (d : Dy) (u : UX) (v : MX) (hi : i + 5 ≤ L) (hI : Iv ns nk t B Z d) (hc : Cq d) (hRC : RC d u) (hRM : RM d v) (hB : B < 800000000) (tail : ∀ (Z2 : Sg) (d2 : Dy) (u2 : UX) (v2 : MX), Iw (B + 200000) Z2 d2 → Cq d2 → RC d2 u2 → RM d2 v2 → GG C 4 (cw cI cO a u2 Z2 d2 ++ mwd cI hm v2 Z2 d2) (71 + cp d2) (70000 + 2 * cp d2) 670 [(0, .ref b), (1, .ref (a 0)), (2, .ref (hm 0)), (3, .int (nI i))] []) : GG C 4 (cw cI cO a u Z d ++ mwd cI hm v Z d) (71 + cp d) (70000 + 2 * cp d) 231 [(0, .ref b), (1, .ref (a 0)), (2, .ref (hm 0)), (3, .int (nI i))] [] := by
  have hz := hI.1.v
  have hph := hI.2.2.2.1
  have hsz := Ph_sz d
  have hs2 : sz d = d.2.1.length + d.2.2.1.length := rfl
  have hcp := hc.cp
  have hk : Kp B d (stockP ns nk Z d (xs (i + 1)) (xs (i + 2)) (xs (i + 3))) := kp_stock hI hc (xs (i + 1)) (xs (i + 2)) (xs (i + 3))
  obtain ⟨k1, k2, k3⟩ := hk
  have k4 := k3.cp
  refine g_aload_n h (pc := 231) dL_law_231 1 rfl ?_
  refine g_arg h hX hL (pc := 232) (j := 1) dL_law_232 dL_law_233 dL_law_234 dL_law_235 dL_law_236 (by decide) (by omega) ?_
  refine g_arg h hX hL (pc := 237) (j := 2) dL_law_237 dL_law_238 dL_law_239 dL_law_240 dL_law_241 (by decide) (by omega) ?_
  refine g_arg h hX hL (pc := 242) (j := 3) dL_law_242 dL_law_243 dL_law_244 dL_law_245 dL_law_246 (by decide) (by omega) ?_
  refine g_lawC h hw (pc := 247) (As := [.int (xs (i + 1)), .int (xs (i + 2)), .int (xs (i + 3))]) (st := []) dL_law_247 (c_stock (gL C) (gD C) cI cO a u Z d hRC ns nk hz t hI.1 hI.2.2.1 (by omega) (xs (i + 1)) (xs (i + 2)) (xs (i + 3))) gL_law_X3_stock rfl (show nPar yX3_stock RX3 3 = true by decide +kernel) ⟨Nat.le_of_ble_eq_true rfl, Nat.le_of_ble_eq_true rfl⟩ rfl (Nat.le_of_ble_eq_true rfl) ⟨by show 71 + _ + _ ≤ 600000; omega, by show 70000 + _ + _ ≤ 7302250; omega⟩ (fun u2 hu2 => ?_)
  refine g_aload_n h (pc := 250) dL_law_250 2 rfl ?_
  refine g_arg h hX hL (pc := 251) (j := 1) dL_law_251 dL_law_252 dL_law_253 dL_law_254 dL_law_255 (by decide) (by omega) ?_
  refine g_arg h hX hL (pc := 256) (j := 2) dL_law_256 dL_law_257 dL_law_258 dL_law_259 dL_law_260 (by decide) (by omega) ?_
  refine g_arg h hX hL (pc := 261) (j := 3) dL_law_261 dL_law_262 dL_law_263 dL_law_264 dL_law_265 (by decide) (by omega) ?_
  refine g_lawM h hw (pc := 266) (As := [.int (xs (i + 1)), .int (xs (i + 2)), .int (xs (i + 3))]) (st := [.int ((stockP ns nk Z d (xs (i + 1)) (xs (i + 2)) (xs (i + 3)))).1]) dL_law_266 (m_stock (gL C) (gD C) cI cO hm v Z d hRM ns nk hz t hI.1 hI.2.2.1 (by omega) B (by omega) hI.2.2.2.2 (xs (i + 1)) (xs (i + 2)) (xs (i + 3))) gL_law_X4_stock rfl (show nPar yX4_stock RX4 3 = true by decide +kernel) ⟨Nat.le_of_ble_eq_true rfl, Nat.le_of_ble_eq_true rfl⟩ rfl (Nat.le_of_ble_eq_true rfl) ⟨by show 71 + _ + _ + 0 ≤ 600000; omega, by show 70000 + _ + _ + 0 ≤ 7302250; omega⟩ (fun v2 hv2 => ?_)
  refine g_icmp_eq_t h (pc := 269) (tgt := 670) dL_law_269 (by decide) rfl ?_
  exact g_wid (by omega) (by omega) (tail _ _ u2 v2 k1 k3 hu2 hv2)

set_option maxHeartbeats 4000000 in
set_option maxRecDepth 100000 in
theorem arm_4 (C : GX) (cI cO : ClassId) (h : OKx C cL_law 4 wsL_law RL room_1 cI cO) (hw : ¬ gRo C) (b L : Nat) (xs : Nat → Int32) (hX : SX C b L xs) (hL : L ≤ 2560) (a hm : Nat → Nat) (i B ns nk t : Nat) (Z : Sg) (d : Dy) (u : UX) (v : MX) (hi : i + 5 ≤ L) (hI : Iv ns nk t B Z d) (hc : Cq d) (hRC : RC d u) (hRM : RM d v) (hB : B < 800000000) (tail : ∀ (Z2 : Sg) (d2 : Dy) (u2 : UX) (v2 : MX), Iw (B + 200000) Z2 d2 → Cq d2 → RC d2 u2 → RM d2 v2 → GG C 4 (cw cI cO a u2 Z2 d2 ++ mwd cI hm v2 Z2 d2) (71 + cp d2) (70000 + 2 * cp d2) 670 [(0, .ref b), (1, .ref (a 0)), (2, .ref (hm 0)), (3, .int (nI i))] []) : GG C 4 (cw cI cO a u Z d ++ mwd cI hm v Z d) (71 + cp d) (70000 + 2 * cp d) 274 [(0, .ref b), (1, .ref (a 0)), (2, .ref (hm 0)), (3, .int (nI i))] [] := by
  have hz := hI.1.v
  have hph := hI.2.2.2.1
  have hsz := Ph_sz d
  have hs2 : sz d = d.2.1.length + d.2.2.1.length := rfl
  have hcp := hc.cp
  have hk : Kp B d (rateP ns nk Z d (xs (i + 1)) (xs (i + 2)) (xs (i + 3))) := kp_rate hI hc (xs (i + 1)) (xs (i + 2)) (xs (i + 3))
  obtain ⟨k1, k2, k3⟩ := hk
  have k4 := k3.cp
  refine g_aload_n h (pc := 274) dL_law_274 1 rfl ?_
  refine g_arg h hX hL (pc := 275) (j := 1) dL_law_275 dL_law_276 dL_law_277 dL_law_278 dL_law_279 (by decide) (by omega) ?_
  refine g_arg h hX hL (pc := 280) (j := 2) dL_law_280 dL_law_281 dL_law_282 dL_law_283 dL_law_284 (by decide) (by omega) ?_
  refine g_arg h hX hL (pc := 285) (j := 3) dL_law_285 dL_law_286 dL_law_287 dL_law_288 dL_law_289 (by decide) (by omega) ?_
  refine g_lawC h hw (pc := 290) (As := [.int (xs (i + 1)), .int (xs (i + 2)), .int (xs (i + 3))]) (st := []) dL_law_290 (c_rate (gL C) (gD C) cI cO a u Z d hRC ns nk hz  (xs (i + 1)) (xs (i + 2)) (xs (i + 3))) gL_law_X3_rate rfl (show nPar yX3_rate RX3 3 = true by decide +kernel) ⟨Nat.le_of_ble_eq_true rfl, Nat.le_of_ble_eq_true rfl⟩ rfl (Nat.le_of_ble_eq_true rfl) ⟨by show 71 + _ + _ ≤ 600000; omega, by show 70000 + _ + _ ≤ 7302250; omega⟩ (fun u2 hu2 => ?_)
  refine g_aload_n h (pc := 293) dL_law_293 2 rfl ?_
  refine g_arg h hX hL (pc := 294) (j := 1) dL_law_294 dL_law_295 dL_law_296 dL_law_297 dL_law_298 (by decide) (by omega) ?_
  refine g_arg h hX hL (pc := 299) (j := 2) dL_law_299 dL_law_300 dL_law_301 dL_law_302 dL_law_303 (by decide) (by omega) ?_
  refine g_arg h hX hL (pc := 304) (j := 3) dL_law_304 dL_law_305 dL_law_306 dL_law_307 dL_law_308 (by decide) (by omega) ?_
  refine g_lawM h hw (pc := 309) (As := [.int (xs (i + 1)), .int (xs (i + 2)), .int (xs (i + 3))]) (st := [.int ((rateP ns nk Z d (xs (i + 1)) (xs (i + 2)) (xs (i + 3)))).1]) dL_law_309 (m_rate (gL C) (gD C) cI cO hm v Z d hRM ns nk hz  (xs (i + 1)) (xs (i + 2)) (xs (i + 3))) gL_law_X4_rate rfl (show nPar yX4_rate RX4 3 = true by decide +kernel) ⟨Nat.le_of_ble_eq_true rfl, Nat.le_of_ble_eq_true rfl⟩ rfl (Nat.le_of_ble_eq_true rfl) ⟨by show 71 + _ + _ + 0 ≤ 600000; omega, by show 70000 + _ + _ + 0 ≤ 7302250; omega⟩ (fun v2 hv2 => ?_)
  refine g_icmp_eq_t h (pc := 312) (tgt := 670) dL_law_312 (by decide) rfl ?_
  exact g_wid (by omega) (by omega) (tail _ _ u2 v2 k1 k3 hu2 hv2)

set_option maxHeartbeats 4000000 in
set_option maxRecDepth 100000 in
theorem arm_5 (C : GX) (cI cO : ClassId) (h : OKx C cL_law 4 wsL_law RL room_1 cI cO) (hw : ¬ gRo C) (b L : Nat) (xs : Nat → Int32) (hX : SX C b L xs) (hL : L ≤ 2560) (a hm : Nat → Nat) (i B ns nk t : Nat) (Z : Sg) (d : Dy) (u : UX) (v : MX) (hi : i + 5 ≤ L) (hI : Iv ns nk t B Z d) (hc : Cq d) (hRC : RC d u) (hRM : RM d v) (hB : B < 800000000) (tail : ∀ (Z2 : Sg) (d2 : Dy) (u2 : UX) (v2 : MX), Iw (B + 200000) Z2 d2 → Cq d2 → RC d2 u2 → RM d2 v2 → GG C 4 (cw cI cO a u2 Z2 d2 ++ mwd cI hm v2 Z2 d2) (71 + cp d2) (70000 + 2 * cp d2) 670 [(0, .ref b), (1, .ref (a 0)), (2, .ref (hm 0)), (3, .int (nI i))] []) : GG C 4 (cw cI cO a u Z d ++ mwd cI hm v Z d) (71 + cp d) (70000 + 2 * cp d) 317 [(0, .ref b), (1, .ref (a 0)), (2, .ref (hm 0)), (3, .int (nI i))] [] := by
  have hz := hI.1.v
  have hph := hI.2.2.2.1
  have hsz := Ph_sz d
  have hs2 : sz d = d.2.1.length + d.2.2.1.length := rfl
  have hcp := hc.cp
  have hk : Kp B d (failsP ns nk Z d (xs (i + 1)) (xs (i + 2)) (xs (i + 3))) := kp_fails hI hc (xs (i + 1)) (xs (i + 2)) (xs (i + 3))
  obtain ⟨k1, k2, k3⟩ := hk
  have k4 := k3.cp
  refine g_aload_n h (pc := 317) dL_law_317 1 rfl ?_
  refine g_arg h hX hL (pc := 318) (j := 1) dL_law_318 dL_law_319 dL_law_320 dL_law_321 dL_law_322 (by decide) (by omega) ?_
  refine g_arg h hX hL (pc := 323) (j := 2) dL_law_323 dL_law_324 dL_law_325 dL_law_326 dL_law_327 (by decide) (by omega) ?_
  refine g_arg h hX hL (pc := 328) (j := 3) dL_law_328 dL_law_329 dL_law_330 dL_law_331 dL_law_332 (by decide) (by omega) ?_
  refine g_lawC h hw (pc := 333) (As := [.int (xs (i + 1)), .int (xs (i + 2)), .int (xs (i + 3))]) (st := []) dL_law_333 (c_fails (gL C) (gD C) cI cO a u Z d hRC ns nk hz t hI.1 (by omega) (xs (i + 1)) (xs (i + 2)) (xs (i + 3))) gL_law_X3_fails rfl (show nPar yX3_fails RX3 3 = true by decide +kernel) ⟨Nat.le_of_ble_eq_true rfl, Nat.le_of_ble_eq_true rfl⟩ rfl (Nat.le_of_ble_eq_true rfl) ⟨by show 71 + _ + _ ≤ 600000; omega, by show 70000 + _ + _ ≤ 7302250; omega⟩ (fun u2 hu2 => ?_)
  refine g_aload_n h (pc := 336) dL_law_336 2 rfl ?_
  refine g_arg h hX hL (pc := 337) (j := 1) dL_law_337 dL_law_338 dL_law_339 dL_law_340 dL_law_341 (by decide) (by omega) ?_
  refine g_arg h hX hL (pc := 342) (j := 2) dL_law_342 dL_law_343 dL_law_344 dL_law_345 dL_law_346 (by decide) (by omega) ?_
  refine g_arg h hX hL (pc := 347) (j := 3) dL_law_347 dL_law_348 dL_law_349 dL_law_350 dL_law_351 (by decide) (by omega) ?_
  refine g_lawM h hw (pc := 352) (As := [.int (xs (i + 1)), .int (xs (i + 2)), .int (xs (i + 3))]) (st := [.int ((failsP ns nk Z d (xs (i + 1)) (xs (i + 2)) (xs (i + 3)))).1]) dL_law_352 (m_fails (gL C) (gD C) cI cO hm v Z d hRM ns nk hz t hI.1 (by omega) B (by omega) hI.2.2.2.2 (xs (i + 1)) (xs (i + 2)) (xs (i + 3))) gL_law_X4_fails rfl (show nPar yX4_fails RX4 3 = true by decide +kernel) ⟨Nat.le_of_ble_eq_true rfl, Nat.le_of_ble_eq_true rfl⟩ rfl (Nat.le_of_ble_eq_true rfl) ⟨by show 71 + _ + _ + 0 ≤ 600000; omega, by show 70000 + _ + _ + 0 ≤ 7302250; omega⟩ (fun v2 hv2 => ?_)
  refine g_icmp_eq_t h (pc := 355) (tgt := 670) dL_law_355 (by decide) rfl ?_
  exact g_wid (by omega) (by omega) (tail _ _ u2 v2 k1 k3 hu2 hv2)

set_option maxHeartbeats 4000000 in
set_option maxRecDepth 100000 in
theorem arm_6 (C : GX) (cI cO : ClassId) (h : OKx C cL_law 4 wsL_law RL room_1 cI cO) (hw : ¬ gRo C) (b L : Nat) (xs : Nat → Int32) (hX : SX C b L xs) (hL : L ≤ 2560) (a hm : Nat → Nat) (i B ns nk t : Nat) (Z : Sg) (d : Dy) (u : UX) (v : MX) (hi : i + 5 ≤ L) (hI : Iv ns nk t B Z d) (hc : Cq d) (hRC : RC d u) (hRM : RM d v) (hB : B < 800000000) (tail : ∀ (Z2 : Sg) (d2 : Dy) (u2 : UX) (v2 : MX), Iw (B + 200000) Z2 d2 → Cq d2 → RC d2 u2 → RM d2 v2 → GG C 4 (cw cI cO a u2 Z2 d2 ++ mwd cI hm v2 Z2 d2) (71 + cp d2) (70000 + 2 * cp d2) 670 [(0, .ref b), (1, .ref (a 0)), (2, .ref (hm 0)), (3, .int (nI i))] []) : GG C 4 (cw cI cO a u Z d ++ mwd cI hm v Z d) (71 + cp d) (70000 + 2 * cp d) 360 [(0, .ref b), (1, .ref (a 0)), (2, .ref (hm 0)), (3, .int (nI i))] [] := by
  have hz := hI.1.v
  have hph := hI.2.2.2.1
  have hsz := Ph_sz d
  have hs2 : sz d = d.2.1.length + d.2.2.1.length := rfl
  have hcp := hc.cp
  have hk : Kp B d (daysP Z d (xs (i + 1))) := kp_days hI hc (xs (i + 1))
  obtain ⟨k1, k2, k3⟩ := hk
  have k4 := k3.cp
  refine g_aload_n h (pc := 360) dL_law_360 1 rfl ?_
  refine g_arg h hX hL (pc := 361) (j := 1) dL_law_361 dL_law_362 dL_law_363 dL_law_364 dL_law_365 (by decide) (by omega) ?_
  refine g_lawC h hw (pc := 366) (As := [.int (xs (i + 1))]) (st := []) dL_law_366 (c_days (gL C) (gD C) cI cO a u Z d hRC ns nk hz t hI.1 hI.2.2.1 (by omega) (xs (i + 1))) gL_law_X3_days rfl (show nPar yX3_days RX3 1 = true by decide +kernel) ⟨Nat.le_of_ble_eq_true rfl, Nat.le_of_ble_eq_true rfl⟩ rfl (Nat.le_of_ble_eq_true rfl) ⟨by show 71 + _ + _ ≤ 600000; omega, by show 70000 + _ + _ ≤ 7302250; omega⟩ (fun u2 hu2 => ?_)
  refine g_aload_n h (pc := 369) dL_law_369 2 rfl ?_
  refine g_arg h hX hL (pc := 370) (j := 1) dL_law_370 dL_law_371 dL_law_372 dL_law_373 dL_law_374 (by decide) (by omega) ?_
  refine g_lawM h hw (pc := 375) (As := [.int (xs (i + 1))]) (st := [.int ((daysP Z d (xs (i + 1)))).1]) dL_law_375 (m_days (gL C) (gD C) cI cO hm v Z d hRM ns nk hz t hI.1 hI.2.2.1 (by omega) B (by omega) hI.2.2.2.2 (xs (i + 1))) gL_law_X4_days rfl (show nPar yX4_days RX4 1 = true by decide +kernel) ⟨Nat.le_of_ble_eq_true rfl, Nat.le_of_ble_eq_true rfl⟩ rfl (Nat.le_of_ble_eq_true rfl) ⟨by show 71 + _ + _ + 0 ≤ 600000; omega, by show 70000 + _ + _ + 0 ≤ 7302250; omega⟩ (fun v2 hv2 => ?_)
  refine g_icmp_eq_t h (pc := 378) (tgt := 670) dL_law_378 (by decide) rfl ?_
  exact g_wid (by omega) (by omega) (tail _ _ u2 v2 k1 k3 hu2 hv2)

set_option maxHeartbeats 4000000 in
set_option maxRecDepth 100000 in
theorem arm_7 (C : GX) (cI cO : ClassId) (h : OKx C cL_law 4 wsL_law RL room_1 cI cO) (hw : ¬ gRo C) (b L : Nat) (xs : Nat → Int32) (hX : SX C b L xs) (hL : L ≤ 2560) (a hm : Nat → Nat) (i B ns nk t : Nat) (Z : Sg) (d : Dy) (u : UX) (v : MX) (hi : i + 5 ≤ L) (hI : Iv ns nk t B Z d) (hc : Cq d) (hRC : RC d u) (hRM : RM d v) (hB : B < 800000000) (tail : ∀ (Z2 : Sg) (d2 : Dy) (u2 : UX) (v2 : MX), Iw (B + 200000) Z2 d2 → Cq d2 → RC d2 u2 → RM d2 v2 → GG C 4 (cw cI cO a u2 Z2 d2 ++ mwd cI hm v2 Z2 d2) (71 + cp d2) (70000 + 2 * cp d2) 670 [(0, .ref b), (1, .ref (a 0)), (2, .ref (hm 0)), (3, .int (nI i))] []) : GG C 4 (cw cI cO a u Z d ++ mwd cI hm v Z d) (71 + cp d) (70000 + 2 * cp d) 383 [(0, .ref b), (1, .ref (a 0)), (2, .ref (hm 0)), (3, .int (nI i))] [] := by
  have hz := hI.1.v
  have hph := hI.2.2.2.1
  have hsz := Ph_sz d
  have hs2 : sz d = d.2.1.length + d.2.2.1.length := rfl
  have hcp := hc.cp
  have hk : Kp B d (chooseP ns nk Z d) := kp_choose hI hc 
  obtain ⟨k1, k2, k3⟩ := hk
  have k4 := k3.cp
  refine g_aload_n h (pc := 383) dL_law_383 1 rfl ?_
  refine g_lawC h hw (pc := 384) (As := []) (st := []) dL_law_384 (c_choose (gL C) (gD C) cI cO a u Z d hRC ns nk hz t hI.1 hI.2.2.1 (by omega) ) gL_law_X3_choose rfl (show nPar yX3_choose RX3 0 = true by decide +kernel) ⟨Nat.le_of_ble_eq_true rfl, Nat.le_of_ble_eq_true rfl⟩ rfl (Nat.le_of_ble_eq_true rfl) ⟨by show 71 + _ + _ ≤ 600000; omega, by show 70000 + _ + _ ≤ 7302250; omega⟩ (fun u2 hu2 => ?_)
  refine g_aload_n h (pc := 387) dL_law_387 2 rfl ?_
  refine g_lawM h hw (pc := 388) (As := []) (st := [.int ((chooseP ns nk Z d)).1]) dL_law_388 (m_choose (gL C) (gD C) cI cO hm v Z d hRM ns nk hz t hI.1 hI.2.1 hI.2.2.1 (by omega) B (by omega) hI.2.2.2.2 ) gL_law_X4_choose rfl (show nPar yX4_choose RX4 0 = true by decide +kernel) ⟨Nat.le_of_ble_eq_true rfl, Nat.le_of_ble_eq_true rfl⟩ rfl (Nat.le_of_ble_eq_true rfl) ⟨by show 71 + _ + _ + 0 ≤ 600000; omega, by show 70000 + _ + _ + 0 ≤ 7302250; omega⟩ (fun v2 hv2 => ?_)
  refine g_icmp_eq_t h (pc := 391) (tgt := 670) dL_law_391 (by decide) rfl ?_
  exact g_wid (by omega) (by omega) (tail _ _ u2 v2 k1 k3 hu2 hv2)

set_option maxHeartbeats 4000000 in
set_option maxRecDepth 100000 in
theorem arm_8 (C : GX) (cI cO : ClassId) (h : OKx C cL_law 4 wsL_law RL room_1 cI cO) (hw : ¬ gRo C) (b L : Nat) (xs : Nat → Int32) (hX : SX C b L xs) (hL : L ≤ 2560) (a hm : Nat → Nat) (i B ns nk t : Nat) (Z : Sg) (d : Dy) (u : UX) (v : MX) (hi : i + 5 ≤ L) (hI : Iv ns nk t B Z d) (hc : Cq d) (hRC : RC d u) (hRM : RM d v) (hB : B < 800000000) (tail : ∀ (Z2 : Sg) (d2 : Dy) (u2 : UX) (v2 : MX), Iw (B + 200000) Z2 d2 → Cq d2 → RC d2 u2 → RM d2 v2 → GG C 4 (cw cI cO a u2 Z2 d2 ++ mwd cI hm v2 Z2 d2) (71 + cp d2) (70000 + 2 * cp d2) 670 [(0, .ref b), (1, .ref (a 0)), (2, .ref (hm 0)), (3, .int (nI i))] []) : GG C 4 (cw cI cO a u Z d ++ mwd cI hm v Z d) (71 + cp d) (70000 + 2 * cp d) 396 [(0, .ref b), (1, .ref (a 0)), (2, .ref (hm 0)), (3, .int (nI i))] [] := by
  have hz := hI.1.v
  have hph := hI.2.2.2.1
  have hsz := Ph_sz d
  have hs2 : sz d = d.2.1.length + d.2.2.1.length := rfl
  have hcp := hc.cp
  refine g_aload_n h (pc := 396) dL_law_396 1 rfl ?_
  refine g_arg h hX hL (pc := 397) (j := 1) dL_law_397 dL_law_398 dL_law_399 dL_law_400 dL_law_401 (by decide) (by omega) ?_
  refine g_arg h hX hL (pc := 402) (j := 2) dL_law_402 dL_law_403 dL_law_404 dL_law_405 dL_law_406 (by decide) (by omega) ?_
  refine g_arg h hX hL (pc := 407) (j := 3) dL_law_407 dL_law_408 dL_law_409 dL_law_410 dL_law_411 (by decide) (by omega) ?_
  refine g_lawCR h (pc := 412) (As := [.int (xs (i + 1)), .int (xs (i + 2)), .int (xs (i + 3))]) (st := []) dL_law_412 (c_about (gL C) (gD C) cI cO a u Z d hRC ns nk hz (fun e he => by obtain ⟨_, _, _, _, _, _, _, _, _, _, q⟩ := hI.2.2.1.2 e he; rcases q with q | ⟨q, _⟩; exact Or.inl q; exact Or.inr q) (xs (i + 1)) (xs (i + 2)) (xs (i + 3))) gL_law_X3_about rfl (show nPar yX3_about RX3 3 = true by decide +kernel) ⟨Nat.le_of_ble_eq_true rfl, Nat.le_of_ble_eq_true rfl⟩ rfl (Nat.le_of_ble_eq_true rfl) ⟨by show 71 + _ + _ ≤ 600000; omega, by show 70000 + _ + _ ≤ 7302250; omega⟩ ?_
  refine g_aload_n h (pc := 415) dL_law_415 2 rfl ?_
  refine g_arg h hX hL (pc := 416) (j := 1) dL_law_416 dL_law_417 dL_law_418 dL_law_419 dL_law_420 (by decide) (by omega) ?_
  refine g_arg h hX hL (pc := 421) (j := 2) dL_law_421 dL_law_422 dL_law_423 dL_law_424 dL_law_425 (by decide) (by omega) ?_
  refine g_arg h hX hL (pc := 426) (j := 3) dL_law_426 dL_law_427 dL_law_428 dL_law_429 dL_law_430 (by decide) (by omega) ?_
  refine g_lawMR h (pc := 431) (As := [.int (xs (i + 1)), .int (xs (i + 2)), .int (xs (i + 3))]) (st := [.int (aboutP ns nk d (xs (i + 1)) (xs (i + 2)) (xs (i + 3)))]) dL_law_431 (m_about (gL C) (gD C) cI cO hm v Z d hRM ns nk hz (by omega) (by omega) (xs (i + 1)) (xs (i + 2)) (xs (i + 3))) gL_law_X4_about rfl (show nPar yX4_about RX4 3 = true by decide +kernel) ⟨Nat.le_of_ble_eq_true rfl, Nat.le_of_ble_eq_true rfl⟩ rfl (Nat.le_of_ble_eq_true rfl) ⟨by show 71 + _ + 0 ≤ 600000; omega, by show 70000 + _ + 0 ≤ 7302250; omega⟩ ?_
  refine g_icmp_eq_t h (pc := 434) (tgt := 670) dL_law_434 (by decide) rfl ?_
  exact tail _ _ u v hI.same hc hRC hRM

set_option maxHeartbeats 4000000 in
set_option maxRecDepth 100000 in
theorem arm_9 (C : GX) (cI cO : ClassId) (h : OKx C cL_law 4 wsL_law RL room_1 cI cO) (hw : ¬ gRo C) (b L : Nat) (xs : Nat → Int32) (hX : SX C b L xs) (hL : L ≤ 2560) (a hm : Nat → Nat) (i B ns nk t : Nat) (Z : Sg) (d : Dy) (u : UX) (v : MX) (hi : i + 5 ≤ L) (hI : Iv ns nk t B Z d) (hc : Cq d) (hRC : RC d u) (hRM : RM d v) (hB : B < 800000000) (tail : ∀ (Z2 : Sg) (d2 : Dy) (u2 : UX) (v2 : MX), Iw (B + 200000) Z2 d2 → Cq d2 → RC d2 u2 → RM d2 v2 → GG C 4 (cw cI cO a u2 Z2 d2 ++ mwd cI hm v2 Z2 d2) (71 + cp d2) (70000 + 2 * cp d2) 670 [(0, .ref b), (1, .ref (a 0)), (2, .ref (hm 0)), (3, .int (nI i))] []) : GG C 4 (cw cI cO a u Z d ++ mwd cI hm v Z d) (71 + cp d) (70000 + 2 * cp d) 439 [(0, .ref b), (1, .ref (a 0)), (2, .ref (hm 0)), (3, .int (nI i))] [] := by
  have hz := hI.1.v
  have hph := hI.2.2.2.1
  have hsz := Ph_sz d
  have hs2 : sz d = d.2.1.length + d.2.2.1.length := rfl
  have hcp := hc.cp
  refine g_aload_n h (pc := 439) dL_law_439 1 rfl ?_
  refine g_arg h hX hL (pc := 440) (j := 1) dL_law_440 dL_law_441 dL_law_442 dL_law_443 dL_law_444 (by decide) (by omega) ?_
  refine g_arg h hX hL (pc := 445) (j := 2) dL_law_445 dL_law_446 dL_law_447 dL_law_448 dL_law_449 (by decide) (by omega) ?_
  refine g_arg h hX hL (pc := 450) (j := 3) dL_law_450 dL_law_451 dL_law_452 dL_law_453 dL_law_454 (by decide) (by omega) ?_
  refine g_arg h hX hL (pc := 455) (j := 4) dL_law_455 dL_law_456 dL_law_457 dL_law_458 dL_law_459 (by decide) (by omega) ?_
  refine g_lawCR h (pc := 460) (As := [.int (xs (i + 1)), .int (xs (i + 2)), .int (xs (i + 3)), .int (xs (i + 4))]) (st := []) dL_law_460 (c_ask (gL C) (gD C) cI cO a u Z d hRC ns nk hz (by omega) (xs (i + 1)) (xs (i + 2)) (xs (i + 3)) (xs (i + 4))) gL_law_X3_ask rfl (show nPar yX3_ask RX3 4 = true by decide +kernel) ⟨Nat.le_of_ble_eq_true rfl, Nat.le_of_ble_eq_true rfl⟩ rfl (Nat.le_of_ble_eq_true rfl) ⟨by show 71 + _ + _ ≤ 600000; omega, by show 70000 + _ + _ ≤ 7302250; omega⟩ ?_
  refine g_aload_n h (pc := 463) dL_law_463 2 rfl ?_
  refine g_arg h hX hL (pc := 464) (j := 1) dL_law_464 dL_law_465 dL_law_466 dL_law_467 dL_law_468 (by decide) (by omega) ?_
  refine g_arg h hX hL (pc := 469) (j := 2) dL_law_469 dL_law_470 dL_law_471 dL_law_472 dL_law_473 (by decide) (by omega) ?_
  refine g_arg h hX hL (pc := 474) (j := 3) dL_law_474 dL_law_475 dL_law_476 dL_law_477 dL_law_478 (by decide) (by omega) ?_
  refine g_arg h hX hL (pc := 479) (j := 4) dL_law_479 dL_law_480 dL_law_481 dL_law_482 dL_law_483 (by decide) (by omega) ?_
  refine g_lawMR h (pc := 484) (As := [.int (xs (i + 1)), .int (xs (i + 2)), .int (xs (i + 3)), .int (xs (i + 4))]) (st := [.int (askP ns nk d (xs (i + 1)) (xs (i + 2)) (xs (i + 3)) (xs (i + 4)))]) dL_law_484 (m_ask (gL C) (gD C) cI cO hm v Z d hRM ns nk hz (by omega) (xs (i + 1)) (xs (i + 2)) (xs (i + 3)) (xs (i + 4))) gL_law_X4_ask rfl (show nPar yX4_ask RX4 4 = true by decide +kernel) ⟨Nat.le_of_ble_eq_true rfl, Nat.le_of_ble_eq_true rfl⟩ rfl (Nat.le_of_ble_eq_true rfl) ⟨by show 71 + _ + 0 ≤ 600000; omega, by show 70000 + _ + 0 ≤ 7302250; omega⟩ ?_
  refine g_icmp_eq_t h (pc := 487) (tgt := 670) dL_law_487 (by decide) rfl ?_
  exact tail _ _ u v hI.same hc hRC hRM

set_option maxHeartbeats 4000000 in
set_option maxRecDepth 100000 in
theorem arm_10 (C : GX) (cI cO : ClassId) (h : OKx C cL_law 4 wsL_law RL room_1 cI cO) (hw : ¬ gRo C) (b L : Nat) (xs : Nat → Int32) (hX : SX C b L xs) (hL : L ≤ 2560) (a hm : Nat → Nat) (i B ns nk t : Nat) (Z : Sg) (d : Dy) (u : UX) (v : MX) (hi : i + 5 ≤ L) (hI : Iv ns nk t B Z d) (hc : Cq d) (hRC : RC d u) (hRM : RM d v) (hB : B < 800000000) (tail : ∀ (Z2 : Sg) (d2 : Dy) (u2 : UX) (v2 : MX), Iw (B + 200000) Z2 d2 → Cq d2 → RC d2 u2 → RM d2 v2 → GG C 4 (cw cI cO a u2 Z2 d2 ++ mwd cI hm v2 Z2 d2) (71 + cp d2) (70000 + 2 * cp d2) 670 [(0, .ref b), (1, .ref (a 0)), (2, .ref (hm 0)), (3, .int (nI i))] []) : GG C 4 (cw cI cO a u Z d ++ mwd cI hm v Z d) (71 + cp d) (70000 + 2 * cp d) 492 [(0, .ref b), (1, .ref (a 0)), (2, .ref (hm 0)), (3, .int (nI i))] [] := by
  have hz := hI.1.v
  have hph := hI.2.2.2.1
  have hsz := Ph_sz d
  have hs2 : sz d = d.2.1.length + d.2.2.1.length := rfl
  have hcp := hc.cp
  refine g_aload_n h (pc := 492) dL_law_492 1 rfl ?_
  refine g_arg h hX hL (pc := 493) (j := 1) dL_law_493 dL_law_494 dL_law_495 dL_law_496 dL_law_497 (by decide) (by omega) ?_
  refine g_arg h hX hL (pc := 498) (j := 2) dL_law_498 dL_law_499 dL_law_500 dL_law_501 dL_law_502 (by decide) (by omega) ?_
  refine g_lawCR h (pc := 503) (As := [.int (xs (i + 1)), .int (xs (i + 2))]) (st := []) dL_law_503 (c_all (gL C) (gD C) cI cO a u Z d hRC ns nk hz (fun e he => by obtain ⟨_, _, _, _, _, _, _, _, _, _, q⟩ := hI.2.2.1.2 e he; rcases q with q | ⟨q, _⟩; exact Or.inl q; exact Or.inr q) (xs (i + 1)) (xs (i + 2))) gL_law_X3_all rfl (show nPar yX3_all RX3 2 = true by decide +kernel) ⟨Nat.le_of_ble_eq_true rfl, Nat.le_of_ble_eq_true rfl⟩ rfl (Nat.le_of_ble_eq_true rfl) ⟨by show 71 + _ + _ ≤ 600000; omega, by show 70000 + _ + _ ≤ 7302250; omega⟩ ?_
  refine g_aload_n h (pc := 506) dL_law_506 2 rfl ?_
  refine g_arg h hX hL (pc := 507) (j := 1) dL_law_507 dL_law_508 dL_law_509 dL_law_510 dL_law_511 (by decide) (by omega) ?_
  refine g_arg h hX hL (pc := 512) (j := 2) dL_law_512 dL_law_513 dL_law_514 dL_law_515 dL_law_516 (by decide) (by omega) ?_
  refine g_lawMR h (pc := 517) (As := [.int (xs (i + 1)), .int (xs (i + 2))]) (st := [.int (allP ns nk d (xs (i + 1)) (xs (i + 2)))]) dL_law_517 (m_all (gL C) (gD C) cI cO hm v Z d hRM ns nk hz (by omega) (by omega) hI.2.2.1.1 (xs (i + 1)) (xs (i + 2))) gL_law_X4_all rfl (show nPar yX4_all RX4 2 = true by decide +kernel) ⟨Nat.le_of_ble_eq_true rfl, Nat.le_of_ble_eq_true rfl⟩ rfl (Nat.le_of_ble_eq_true rfl) ⟨by show 71 + _ + 0 ≤ 600000; omega, by show 70000 + _ + 0 ≤ 7302250; omega⟩ ?_
  refine g_icmp_eq_t h (pc := 520) (tgt := 670) dL_law_520 (by decide) rfl ?_
  exact tail _ _ u v hI.same hc hRC hRM

set_option maxHeartbeats 4000000 in
set_option maxRecDepth 100000 in
theorem arm_11 (C : GX) (cI cO : ClassId) (h : OKx C cL_law 4 wsL_law RL room_1 cI cO) (hw : ¬ gRo C) (b L : Nat) (xs : Nat → Int32) (hX : SX C b L xs) (hL : L ≤ 2560) (a hm : Nat → Nat) (i B ns nk t : Nat) (Z : Sg) (d : Dy) (u : UX) (v : MX) (hi : i + 5 ≤ L) (hI : Iv ns nk t B Z d) (hc : Cq d) (hRC : RC d u) (hRM : RM d v) (hB : B < 800000000) (tail : ∀ (Z2 : Sg) (d2 : Dy) (u2 : UX) (v2 : MX), Iw (B + 200000) Z2 d2 → Cq d2 → RC d2 u2 → RM d2 v2 → GG C 4 (cw cI cO a u2 Z2 d2 ++ mwd cI hm v2 Z2 d2) (71 + cp d2) (70000 + 2 * cp d2) 670 [(0, .ref b), (1, .ref (a 0)), (2, .ref (hm 0)), (3, .int (nI i))] []) : GG C 4 (cw cI cO a u Z d ++ mwd cI hm v Z d) (71 + cp d) (70000 + 2 * cp d) 525 [(0, .ref b), (1, .ref (a 0)), (2, .ref (hm 0)), (3, .int (nI i))] [] := by
  have hz := hI.1.v
  have hph := hI.2.2.2.1
  have hsz := Ph_sz d
  have hs2 : sz d = d.2.1.length + d.2.2.1.length := rfl
  have hcp := hc.cp
  refine g_aload_n h (pc := 525) dL_law_525 1 rfl ?_
  refine g_arg h hX hL (pc := 526) (j := 1) dL_law_526 dL_law_527 dL_law_528 dL_law_529 dL_law_530 (by decide) (by omega) ?_
  refine g_arg h hX hL (pc := 531) (j := 2) dL_law_531 dL_law_532 dL_law_533 dL_law_534 dL_law_535 (by decide) (by omega) ?_
  refine g_lawCR h (pc := 536) (As := [.int (xs (i + 1)), .int (xs (i + 2))]) (st := []) dL_law_536 (c_field (gL C) (gD C) cI cO a u Z d hRC ns nk hz (by omega) (xs (i + 1)) (xs (i + 2))) gL_law_X3_field rfl (show nPar yX3_field RX3 2 = true by decide +kernel) ⟨Nat.le_of_ble_eq_true rfl, Nat.le_of_ble_eq_true rfl⟩ rfl (Nat.le_of_ble_eq_true rfl) ⟨by show 71 + _ + _ ≤ 600000; omega, by show 70000 + _ + _ ≤ 7302250; omega⟩ ?_
  refine g_aload_n h (pc := 539) dL_law_539 2 rfl ?_
  refine g_arg h hX hL (pc := 540) (j := 1) dL_law_540 dL_law_541 dL_law_542 dL_law_543 dL_law_544 (by decide) (by omega) ?_
  refine g_arg h hX hL (pc := 545) (j := 2) dL_law_545 dL_law_546 dL_law_547 dL_law_548 dL_law_549 (by decide) (by omega) ?_
  refine g_lawMR h (pc := 550) (As := [.int (xs (i + 1)), .int (xs (i + 2))]) (st := [.int (fieldP ns Z d (xs (i + 1)) (xs (i + 2)))]) dL_law_550 (m_field (gL C) (gD C) cI cO hm v Z d hRM ns nk hz (by omega) (xs (i + 1)) (xs (i + 2))) gL_law_X4_field rfl (show nPar yX4_field RX4 2 = true by decide +kernel) ⟨Nat.le_of_ble_eq_true rfl, Nat.le_of_ble_eq_true rfl⟩ rfl (Nat.le_of_ble_eq_true rfl) ⟨by show 71 + _ + 0 ≤ 600000; omega, by show 70000 + _ + 0 ≤ 7302250; omega⟩ ?_
  refine g_icmp_eq_t h (pc := 553) (tgt := 670) dL_law_553 (by decide) rfl ?_
  exact tail _ _ u v hI.same hc hRC hRM

set_option maxHeartbeats 4000000 in
set_option maxRecDepth 100000 in
theorem arm_12 (C : GX) (cI cO : ClassId) (h : OKx C cL_law 4 wsL_law RL room_1 cI cO) (hw : ¬ gRo C) (b L : Nat) (xs : Nat → Int32) (hX : SX C b L xs) (hL : L ≤ 2560) (a hm : Nat → Nat) (i B ns nk t : Nat) (Z : Sg) (d : Dy) (u : UX) (v : MX) (hi : i + 5 ≤ L) (hI : Iv ns nk t B Z d) (hc : Cq d) (hRC : RC d u) (hRM : RM d v) (hB : B < 800000000) (tail : ∀ (Z2 : Sg) (d2 : Dy) (u2 : UX) (v2 : MX), Iw (B + 200000) Z2 d2 → Cq d2 → RC d2 u2 → RM d2 v2 → GG C 4 (cw cI cO a u2 Z2 d2 ++ mwd cI hm v2 Z2 d2) (71 + cp d2) (70000 + 2 * cp d2) 670 [(0, .ref b), (1, .ref (a 0)), (2, .ref (hm 0)), (3, .int (nI i))] []) : GG C 4 (cw cI cO a u Z d ++ mwd cI hm v Z d) (71 + cp d) (70000 + 2 * cp d) 558 [(0, .ref b), (1, .ref (a 0)), (2, .ref (hm 0)), (3, .int (nI i))] [] := by
  have hz := hI.1.v
  have hph := hI.2.2.2.1
  have hsz := Ph_sz d
  have hs2 : sz d = d.2.1.length + d.2.2.1.length := rfl
  have hcp := hc.cp
  refine g_aload_n h (pc := 558) dL_law_558 1 rfl ?_
  refine g_arg h hX hL (pc := 559) (j := 1) dL_law_559 dL_law_560 dL_law_561 dL_law_562 dL_law_563 (by decide) (by omega) ?_
  refine g_arg h hX hL (pc := 564) (j := 2) dL_law_564 dL_law_565 dL_law_566 dL_law_567 dL_law_568 (by decide) (by omega) ?_
  refine g_lawCR h (pc := 569) (As := [.int (xs (i + 1)), .int (xs (i + 2))]) (st := []) dL_law_569 (c_mender (gL C) (gD C) cI cO a u Z d hRC ns nk hz  (xs (i + 1)) (xs (i + 2))) gL_law_X3_mender rfl (show nPar yX3_mender RX3 2 = true by decide +kernel) ⟨Nat.le_of_ble_eq_true rfl, Nat.le_of_ble_eq_true rfl⟩ rfl (Nat.le_of_ble_eq_true rfl) ⟨by show 71 + _ + _ ≤ 600000; omega, by show 70000 + _ + _ ≤ 7302250; omega⟩ ?_
  refine g_aload_n h (pc := 572) dL_law_572 2 rfl ?_
  refine g_arg h hX hL (pc := 573) (j := 1) dL_law_573 dL_law_574 dL_law_575 dL_law_576 dL_law_577 (by decide) (by omega) ?_
  refine g_arg h hX hL (pc := 578) (j := 2) dL_law_578 dL_law_579 dL_law_580 dL_law_581 dL_law_582 (by decide) (by omega) ?_
  refine g_lawMR h (pc := 583) (As := [.int (xs (i + 1)), .int (xs (i + 2))]) (st := [.int (menderP ns nk Z (xs (i + 1)) (xs (i + 2)))]) dL_law_583 (m_menderP (gL C) (gD C) cI cO hm v Z d hRM ns nk hz  (xs (i + 1)) (xs (i + 2))) gL_law_X4_mender rfl (show nPar yX4_mender RX4 2 = true by decide +kernel) ⟨Nat.le_of_ble_eq_true rfl, Nat.le_of_ble_eq_true rfl⟩ rfl (Nat.le_of_ble_eq_true rfl) ⟨by show 71 + _ + 0 ≤ 600000; omega, by show 70000 + _ + 0 ≤ 7302250; omega⟩ ?_
  refine g_icmp_eq_t h (pc := 586) (tgt := 670) dL_law_586 (by decide) rfl ?_
  exact tail _ _ u v hI.same hc hRC hRM

set_option maxHeartbeats 4000000 in
set_option maxRecDepth 100000 in
theorem arm_13 (C : GX) (cI cO : ClassId) (h : OKx C cL_law 4 wsL_law RL room_1 cI cO) (hw : ¬ gRo C) (b L : Nat) (xs : Nat → Int32) (hX : SX C b L xs) (hL : L ≤ 2560) (a hm : Nat → Nat) (i B ns nk t : Nat) (Z : Sg) (d : Dy) (u : UX) (v : MX) (hi : i + 5 ≤ L) (hI : Iv ns nk t B Z d) (hc : Cq d) (hRC : RC d u) (hRM : RM d v) (hB : B < 800000000) (tail : ∀ (Z2 : Sg) (d2 : Dy) (u2 : UX) (v2 : MX), Iw (B + 200000) Z2 d2 → Cq d2 → RC d2 u2 → RM d2 v2 → GG C 4 (cw cI cO a u2 Z2 d2 ++ mwd cI hm v2 Z2 d2) (71 + cp d2) (70000 + 2 * cp d2) 670 [(0, .ref b), (1, .ref (a 0)), (2, .ref (hm 0)), (3, .int (nI i))] []) : GG C 4 (cw cI cO a u Z d ++ mwd cI hm v Z d) (71 + cp d) (70000 + 2 * cp d) 591 [(0, .ref b), (1, .ref (a 0)), (2, .ref (hm 0)), (3, .int (nI i))] [] := by
  have hz := hI.1.v
  have hph := hI.2.2.2.1
  have hsz := Ph_sz d
  have hs2 : sz d = d.2.1.length + d.2.2.1.length := rfl
  have hcp := hc.cp
  refine g_aload_n h (pc := 591) dL_law_591 1 rfl ?_
  refine g_arg h hX hL (pc := 592) (j := 1) dL_law_592 dL_law_593 dL_law_594 dL_law_595 dL_law_596 (by decide) (by omega) ?_
  refine g_arg h hX hL (pc := 597) (j := 2) dL_law_597 dL_law_598 dL_law_599 dL_law_600 dL_law_601 (by decide) (by omega) ?_
  refine g_arg h hX hL (pc := 602) (j := 3) dL_law_602 dL_law_603 dL_law_604 dL_law_605 dL_law_606 (by decide) (by omega) ?_
  refine g_lawC h hw (pc := 607) (As := [.int (xs (i + 1)), .int (xs (i + 2)), .int (xs (i + 3))]) (st := []) dL_law_607 (c_pipe (gL C) (gD C) cI cO a u Z d hRC ns nk hz  (xs (i + 1)) (xs (i + 2)) (xs (i + 3))) gL_law_X3_pipe rfl (show nPar yX3_pipe RX3 3 = true by decide +kernel) ⟨Nat.le_of_ble_eq_true rfl, Nat.le_of_ble_eq_true rfl⟩ rfl (Nat.le_of_ble_eq_true rfl) ⟨by show 71 + _ + _ ≤ 600000; omega, by show 70000 + _ + _ ≤ 7302250; omega⟩ (fun u2 hu2 => ?_)
  refine g_aload_n h (pc := 610) dL_law_610 2 rfl ?_
  refine g_arg h hX hL (pc := 611) (j := 1) dL_law_611 dL_law_612 dL_law_613 dL_law_614 dL_law_615 (by decide) (by omega) ?_
  refine g_arg h hX hL (pc := 616) (j := 2) dL_law_616 dL_law_617 dL_law_618 dL_law_619 dL_law_620 (by decide) (by omega) ?_
  refine g_arg h hX hL (pc := 621) (j := 3) dL_law_621 dL_law_622 dL_law_623 dL_law_624 dL_law_625 (by decide) (by omega) ?_
  refine g_lawMR h (pc := 626) (As := [.int (xs (i + 1)), .int (xs (i + 2)), .int (xs (i + 3))]) (st := [.int (pipeP ns nk Z d (xs (i + 1)) (xs (i + 2)) (xs (i + 3)))]) dL_law_626 (m_pipe (gL C) (gD C) cI cO hm v Z d hRM ns nk hz  (xs (i + 1)) (xs (i + 2)) (xs (i + 3))) gL_law_X4_pipe rfl (show nPar yX4_pipe RX4 3 = true by decide +kernel) ⟨Nat.le_of_ble_eq_true rfl, Nat.le_of_ble_eq_true rfl⟩ rfl (Nat.le_of_ble_eq_true rfl) ⟨by show 71 + _ + _ + 0 ≤ 600000; omega, by show 70000 + _ + _ + 0 ≤ 7302250; omega⟩ ?_
  refine g_icmp_eq_t h (pc := 629) (tgt := 670) dL_law_629 (by decide) rfl ?_
  exact g_wid (by omega) (by omega) (tail _ _ u2 v hI.same hc hu2 hRM)

set_option maxHeartbeats 4000000 in
set_option maxRecDepth 100000 in
theorem arm_14 (C : GX) (cI cO : ClassId) (h : OKx C cL_law 4 wsL_law RL room_1 cI cO) (hw : ¬ gRo C) (b L : Nat) (xs : Nat → Int32) (hX : SX C b L xs) (hL : L ≤ 2560) (a hm : Nat → Nat) (i B ns nk t : Nat) (Z : Sg) (d : Dy) (u : UX) (v : MX) (hi : i + 5 ≤ L) (hI : Iv ns nk t B Z d) (hc : Cq d) (hRC : RC d u) (hRM : RM d v) (hB : B < 800000000) (tail : ∀ (Z2 : Sg) (d2 : Dy) (u2 : UX) (v2 : MX), Iw (B + 200000) Z2 d2 → Cq d2 → RC d2 u2 → RM d2 v2 → GG C 4 (cw cI cO a u2 Z2 d2 ++ mwd cI hm v2 Z2 d2) (71 + cp d2) (70000 + 2 * cp d2) 670 [(0, .ref b), (1, .ref (a 0)), (2, .ref (hm 0)), (3, .int (nI i))] []) : GG C 4 (cw cI cO a u Z d ++ mwd cI hm v Z d) (71 + cp d) (70000 + 2 * cp d) 634 [(0, .ref b), (1, .ref (a 0)), (2, .ref (hm 0)), (3, .int (nI i))] [] := by
  have hz := hI.1.v
  have hph := hI.2.2.2.1
  have hsz := Ph_sz d
  have hs2 : sz d = d.2.1.length + d.2.2.1.length := rfl
  have hcp := hc.cp
  refine g_aload_n h (pc := 634) dL_law_634 1 rfl ?_
  refine g_lawCR h (pc := 635) (As := []) (st := []) dL_law_635 (c_worth (gL C) (gD C) cI cO a u Z d hRC ns nk hz  ) gL_law_X3_worth rfl (show nPar yX3_worth RX3 0 = true by decide +kernel) ⟨Nat.le_of_ble_eq_true rfl, Nat.le_of_ble_eq_true rfl⟩ rfl (Nat.le_of_ble_eq_true rfl) ⟨by show 71 + _ + _ ≤ 600000; omega, by show 70000 + _ + _ ≤ 7302250; omega⟩ ?_
  refine g_aload_n h (pc := 638) dL_law_638 2 rfl ?_
  refine g_lawMR h (pc := 639) (As := []) (st := [.int (worthP nk Z d)]) dL_law_639 (m_worth (gL C) (gD C) cI cO hm v Z d hRM ns nk hz  ) gL_law_X4_worth rfl (show nPar yX4_worth RX4 0 = true by decide +kernel) ⟨Nat.le_of_ble_eq_true rfl, Nat.le_of_ble_eq_true rfl⟩ rfl (Nat.le_of_ble_eq_true rfl) ⟨by show 71 + _ + 0 ≤ 600000; omega, by show 70000 + _ + 0 ≤ 7302250; omega⟩ ?_
  refine g_icmp_eq_t h (pc := 642) (tgt := 670) dL_law_642 (by decide) rfl ?_
  exact tail _ _ u v hI.same hc hRC hRM

set_option maxHeartbeats 4000000 in
set_option maxRecDepth 100000 in
theorem arm_15 (C : GX) (cI cO : ClassId) (h : OKx C cL_law 4 wsL_law RL room_1 cI cO) (hw : ¬ gRo C) (b L : Nat) (xs : Nat → Int32) (hX : SX C b L xs) (hL : L ≤ 2560) (a hm : Nat → Nat) (i B ns nk t : Nat) (Z : Sg) (d : Dy) (u : UX) (v : MX) (hi : i + 5 ≤ L) (hI : Iv ns nk t B Z d) (hc : Cq d) (hRC : RC d u) (hRM : RM d v) (hB : B < 800000000) (tail : ∀ (Z2 : Sg) (d2 : Dy) (u2 : UX) (v2 : MX), Iw (B + 200000) Z2 d2 → Cq d2 → RC d2 u2 → RM d2 v2 → GG C 4 (cw cI cO a u2 Z2 d2 ++ mwd cI hm v2 Z2 d2) (71 + cp d2) (70000 + 2 * cp d2) 670 [(0, .ref b), (1, .ref (a 0)), (2, .ref (hm 0)), (3, .int (nI i))] []) : GG C 4 (cw cI cO a u Z d ++ mwd cI hm v Z d) (71 + cp d) (70000 + 2 * cp d) 647 [(0, .ref b), (1, .ref (a 0)), (2, .ref (hm 0)), (3, .int (nI i))] [] := by
  have hz := hI.1.v
  have hph := hI.2.2.2.1
  have hsz := Ph_sz d
  have hs2 : sz d = d.2.1.length + d.2.2.1.length := rfl
  have hcp := hc.cp
  refine g_aload_n h (pc := 647) dL_law_647 1 rfl ?_
  refine g_arg h hX hL (pc := 648) (j := 1) dL_law_648 dL_law_649 dL_law_650 dL_law_651 dL_law_652 (by decide) (by omega) ?_
  refine g_lawCR h (pc := 653) (As := [.int (xs (i + 1))]) (st := []) dL_law_653 (c_count (gL C) (gD C) cI cO a u Z d hRC ns nk hz  (xs (i + 1))) gL_law_X3_count rfl (show nPar yX3_count RX3 1 = true by decide +kernel) ⟨Nat.le_of_ble_eq_true rfl, Nat.le_of_ble_eq_true rfl⟩ rfl (Nat.le_of_ble_eq_true rfl) ⟨by show 71 + _ + _ ≤ 600000; omega, by show 70000 + _ + _ ≤ 7302250; omega⟩ ?_
  refine g_aload_n h (pc := 656) dL_law_656 2 rfl ?_
  refine g_arg h hX hL (pc := 657) (j := 1) dL_law_657 dL_law_658 dL_law_659 dL_law_660 dL_law_661 (by decide) (by omega) ?_
  refine g_lawMR h (pc := 662) (As := [.int (xs (i + 1))]) (st := [.int (countP9 ns nk Z d (xs (i + 1)))]) dL_law_662 (m_count (gL C) (gD C) cI cO hm v Z d hRM ns nk hz (by omega) (xs (i + 1))) gL_law_X4_count rfl (show nPar yX4_count RX4 1 = true by decide +kernel) ⟨Nat.le_of_ble_eq_true rfl, Nat.le_of_ble_eq_true rfl⟩ rfl (Nat.le_of_ble_eq_true rfl) ⟨by show 71 + _ + 0 ≤ 600000; omega, by show 70000 + _ + 0 ≤ 7302250; omega⟩ ?_
  refine g_icmp_eq_t h (pc := 665) (tgt := 670) dL_law_665 (by decide) rfl ?_
  exact tail _ _ u v hI.same hc hRC hRM
