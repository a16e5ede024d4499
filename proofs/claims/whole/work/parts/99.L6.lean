theorem body_0 {B : Bx} {M : Mx} {Q : State → Prop} (X : CX B M code 8 "SpongeDigestsLaw") (hR : m_R M = room_1) {b L : Nat} {xs : Nat → Int32} (hs : SCR M b L xs) (hL : L ≤ 3072) {da a oa : Nat} {q r : Nat → Nat} {C C2 : CS} {R R2 : RS} {ot ot2 : Nat → Int64} {k cd9 mc ms n1 n2 : Nat} {bv : Int32} {x1 x2 x3 x4 x5 : Int32} (hx1 : xs (6 * k + 1) = x1) (hx2 : xs (6 * k + 2) = x2) (hx3 : xs (6 * k + 3) = x3) (hx4 : xs (6 * k + 4) = x4) (hx5 : xs (6 * k + 5) = x5) (hk : 6 * k + 6 ≤ L) (hc : cd9 ≤ 2) (hn1 : n1 + mc ≤ (m_R M).cells) (hn2 : n2 + ms ≤ (m_R M).slots)
    (hA : CallS B M Q 124 [.ref oa, .int x5, .int x4, .int x3, .int x2, .int x1, .ref da] (LW B da a oa q r C R ot) (LW B da a oa q r C2 R ot2) (.int (nI cd9)) mc ms) (hB : CallS B M Q 160 [.int x5, .int x4, .int x3, .int x2, .int x1, .ref a] (LW B da a oa q r C2 R ot2) (LW B da a oa q r C2 R2 ot2) (.int bv) 0 0) (hcd : R2.cd = nI cd9) (hq : cd9 = 0 → ot2 0 = bv.toInt64)
    (kk : G B M 8 (n1 + mc) (n2 + ms) Q (LW B da a oa q r C2 R2 ot2) [(0, .ref b), (1, .ref da), (2, .ref a), (3, .ref oa), (4, .int (nI (6 * k)))] 746 []) : G B M 8 n1 n2 Q (LW B da a oa q r C R ot) [(0, .ref b), (1, .ref da), (2, .ref a), (3, .ref oa), (4, .int (nI (6 * k)))] 92 [] := by
  refine g_aload_n (pc := 92) X (i := 1) d_law_92 rfl rfl ?_
  refine g_aload_n (pc := 93) X (i := 0) d_law_93 rfl rfl ?_
  refine g_iload (pc := 94) X d_law_94 rfl ?_
  refine g_iconst (pc := 96) X (v := nI 1) d_law_96 (by decide) ?_
  refine g_iaddN (pc := 97) X (6 * k + 1) (by omega) d_law_97 ?_
  refine g_sld (pc := 98) X hs (6 * k + 1) rfl (by omega) (by omega) d_law_98 ?_
  refine g_seti x1 hx1 ?_
  refine g_aload_n (pc := 99) X (i := 0) d_law_99 rfl rfl ?_
  refine g_iload (pc := 100) X d_law_100 rfl ?_
  refine g_iconst (pc := 102) X (v := nI 2) d_law_102 (by decide) ?_
  refine g_iaddN (pc := 103) X (6 * k + 2) (by omega) d_law_103 ?_
  refine g_sld (pc := 104) X hs (6 * k + 2) rfl (by omega) (by omega) d_law_104 ?_
  refine g_seti x2 hx2 ?_
  refine g_aload_n (pc := 105) X (i := 0) d_law_105 rfl rfl ?_
  refine g_iload (pc := 106) X d_law_106 rfl ?_
  refine g_iconst (pc := 108) X (v := nI 3) d_law_108 (by decide) ?_
  refine g_iaddN (pc := 109) X (6 * k + 3) (by omega) d_law_109 ?_
  refine g_sld (pc := 110) X hs (6 * k + 3) rfl (by omega) (by omega) d_law_110 ?_
  refine g_seti x3 hx3 ?_
  refine g_aload_n (pc := 111) X (i := 0) d_law_111 rfl rfl ?_
  refine g_iload (pc := 112) X d_law_112 rfl ?_
  refine g_iconst (pc := 114) X (v := nI 4) d_law_114 (by decide) ?_
  refine g_iaddN (pc := 115) X (6 * k + 4) (by omega) d_law_115 ?_
  refine g_sld (pc := 116) X hs (6 * k + 4) rfl (by omega) (by omega) d_law_116 ?_
  refine g_seti x4 hx4 ?_
  refine g_aload_n (pc := 117) X (i := 0) d_law_117 rfl rfl ?_
  refine g_iload (pc := 118) X d_law_118 rfl ?_
  refine g_iconst (pc := 120) X (v := nI 5) d_law_120 (by decide) ?_
  refine g_iaddN (pc := 121) X (6 * k + 5) (by omega) d_law_121 ?_
  refine g_sld (pc := 122) X hs (6 * k + 5) rfl (by omega) (by omega) d_law_122 ?_
  refine g_seti x5 hx5 ?_
  refine g_aload_n (pc := 123) X (i := 3) d_law_123 rfl rfl ?_
  refine hA _ _ _ hn1 hn2 ?_
  refine g_istore (pc := 127) X d_law_127 (by decide) ?_
  refine g_lv [(0, .ref b), (1, .ref da), (2, .ref a), (3, .ref oa), (4, .int (nI (6 * k))), (5, .int (nI cd9))] rfl ?_
  refine g_aload_n (pc := 129) X (i := 2) d_law_129 rfl rfl ?_
  refine g_aload_n (pc := 130) X (i := 0) d_law_130 rfl rfl ?_
  refine g_iload (pc := 131) X d_law_131 rfl ?_
  refine g_iconst (pc := 133) X (v := nI 1) d_law_133 (by decide) ?_
  refine g_iaddN (pc := 134) X (6 * k + 1) (by omega) d_law_134 ?_
  refine g_sld (pc := 135) X hs (6 * k + 1) rfl (by omega) (by omega) d_law_135 ?_
  refine g_seti x1 hx1 ?_
  refine g_aload_n (pc := 136) X (i := 0) d_law_136 rfl rfl ?_
  refine g_iload (pc := 137) X d_law_137 rfl ?_
  refine g_iconst (pc := 139) X (v := nI 2) d_law_139 (by decide) ?_
  refine g_iaddN (pc := 140) X (6 * k + 2) (by omega) d_law_140 ?_
  refine g_sld (pc := 141) X hs (6 * k + 2) rfl (by omega) (by omega) d_law_141 ?_
  refine g_seti x2 hx2 ?_
  refine g_aload_n (pc := 142) X (i := 0) d_law_142 rfl rfl ?_
  refine g_iload (pc := 143) X d_law_143 rfl ?_
  refine g_iconst (pc := 145) X (v := nI 3) d_law_145 (by decide) ?_
  refine g_iaddN (pc := 146) X (6 * k + 3) (by omega) d_law_146 ?_
  refine g_sld (pc := 147) X hs (6 * k + 3) rfl (by omega) (by omega) d_law_147 ?_
  refine g_seti x3 hx3 ?_
  refine g_aload_n (pc := 148) X (i := 0) d_law_148 rfl rfl ?_
  refine g_iload (pc := 149) X d_law_149 rfl ?_
  refine g_iconst (pc := 151) X (v := nI 4) d_law_151 (by decide) ?_
  refine g_iaddN (pc := 152) X (6 * k + 4) (by omega) d_law_152 ?_
  refine g_sld (pc := 153) X hs (6 * k + 4) rfl (by omega) (by omega) d_law_153 ?_
  refine g_seti x4 hx4 ?_
  refine g_aload_n (pc := 154) X (i := 0) d_law_154 rfl rfl ?_
  refine g_iload (pc := 155) X d_law_155 rfl ?_
  refine g_iconst (pc := 157) X (v := nI 5) d_law_157 (by decide) ?_
  refine g_iaddN (pc := 158) X (6 * k + 5) (by omega) d_law_158 ?_
  refine g_sld (pc := 159) X hs (6 * k + 5) rfl (by omega) (by omega) d_law_159 ?_
  refine g_seti x5 hx5 ?_
  refine hB _ _ _ hn1 hn2 ?_
  refine g_istore (pc := 163) X d_law_163 (by decide) ?_
  refine g_lv [(0, .ref b), (1, .ref da), (2, .ref a), (3, .ref oa), (4, .int (nI (6 * k))), (5, .int (nI cd9)), (6, .int bv)] rfl ?_
  refine g_aload_n (pc := 165) X (i := 2) d_law_165 rfl rfl ?_
  refine g_callVi (pc := 166) (q0 := 38) X (c_O_thrown (m_l M) B a r R2.tp R2.kd R2.rt R2.fl R2.tt R2.cd) wd_893 wd_894 wd_895 wd_5 wd_896 hd_O_thrown [38] rfl rfl [a] (fun _ => rfl) rfl rfl rfl (by rw [hR]; decide) ⟨hn1, hn2⟩ rfl (Nat.le_of_ble_eq_true rfl) d_law_166 (fun r9 _ hr9 => ?_)
  subst hr9
  refine g_wsq (LW B da a oa q r C2 R2 ot2) rfl ?_
  refine g_seti (nI cd9) hcd ?_
  refine g_iload (pc := 169) X d_law_169 rfl ?_
  refine g_icmp_eqN (pc := 171) X (tgt := 176) d_law_171 (by decide) (by omega) (by omega) (fun h_171 => ?_) (fun h_171 => absurd h_171 (by omega))
  refine g_iload (pc := 176) X d_law_176 rfl ?_
  refine g_if_neN (pc := 178) X (tgt := 193) d_law_178 (by decide) (by omega) (fun h_c => ?_) (fun h_c => ?_)
  · refine g_goto (pc := 193) X (tgt := 746) d_law_193 (by decide) ?_
    refine g_lv [(0, .ref b), (1, .ref da), (2, .ref a), (3, .ref oa), (4, .int (nI (6 * k)))] rfl ?_
    exact kk
  · refine g_aload_n (pc := 181) X (i := 3) d_law_181 rfl rfl ?_
    refine g_iconst (pc := 182) X (v := nI 0) d_law_182 (by decide) ?_
    refine g_lald (pc := 183) X 65 rfl 0 rfl (by decide) (by decide) d_law_183 ?_
    refine g_iload (pc := 184) X d_law_184 rfl ?_
    refine g_i2l (pc := 186) X d_law_186 rfl ?_
    refine g_lcmp (pc := 187) X d_law_187 ?_
    refine g_if_eq (pc := 188) X (tgt := 193) d_law_188 (by decide) (fun h_188 => ?_) (fun h_188 => absurd ((lg_cmp_eq _ _).mpr (hq h_c)) h_188)
    refine g_goto (pc := 193) X (tgt := 746) d_law_193 (by decide) ?_
    refine g_lv [(0, .ref b), (1, .ref da), (2, .ref a), (3, .ref oa), (4, .int (nI (6 * k)))] rfl ?_
    exact kk

theorem body_1 {B : Bx} {M : Mx} {Q : State → Prop} (X : CX B M code 8 "SpongeDigestsLaw") (hR : m_R M = room_1) {b L : Nat} {xs : Nat → Int32} (hs : SCR M b L xs) (hL : L ≤ 3072) {da a oa : Nat} {q r : Nat → Nat} {C C2 : CS} {R R2 : RS} {ot ot2 : Nat → Int64} {k cd9 mc ms n1 n2 : Nat} {bv : Int32} {x1 x2 : Int32} (hx1 : xs (6 * k + 1) = x1) (hx2 : xs (6 * k + 2) = x2) (hk : 6 * k + 6 ≤ L) (hc : cd9 ≤ 2) (hn1 : n1 + mc ≤ (m_R M).cells) (hn2 : n2 + ms ≤ (m_R M).slots)
    (hA : CallS B M Q 210 [.ref oa, .int x2, .int x1, .ref da] (LW B da a oa q r C R ot) (LW B da a oa q r C2 R ot2) (.int (nI cd9)) mc ms) (hB : CallS B M Q 228 [.int x2, .int x1, .ref a] (LW B da a oa q r C2 R ot2) (LW B da a oa q r C2 R2 ot2) (.int bv) 0 0) (hcd : R2.cd = nI cd9) (hq : cd9 = 0 → ot2 0 = bv.toInt64)
    (kk : G B M 8 (n1 + mc) (n2 + ms) Q (LW B da a oa q r C2 R2 ot2) [(0, .ref b), (1, .ref da), (2, .ref a), (3, .ref oa), (4, .int (nI (6 * k)))] 746 []) : G B M 8 n1 n2 Q (LW B da a oa q r C R ot) [(0, .ref b), (1, .ref da), (2, .ref a), (3, .ref oa), (4, .int (nI (6 * k)))] 196 [] := by
  refine g_aload_n (pc := 196) X (i := 1) d_law_196 rfl rfl ?_
  refine g_aload_n (pc := 197) X (i := 0) d_law_197 rfl rfl ?_
  refine g_iload (pc := 198) X d_law_198 rfl ?_
  refine g_iconst (pc := 200) X (v := nI 1) d_law_200 (by decide) ?_
  refine g_iaddN (pc := 201) X (6 * k + 1) (by omega) d_law_201 ?_
  refine g_sld (pc := 202) X hs (6 * k + 1) rfl (by omega) (by omega) d_law_202 ?_
  refine g_seti x1 hx1 ?_
  refine g_aload_n (pc := 203) X (i := 0) d_law_203 rfl rfl ?_
  refine g_iload (pc := 204) X d_law_204 rfl ?_
  refine g_iconst (pc := 206) X (v := nI 2) d_law_206 (by decide) ?_
  refine g_iaddN (pc := 207) X (6 * k + 2) (by omega) d_law_207 ?_
  refine g_sld (pc := 208) X hs (6 * k + 2) rfl (by omega) (by omega) d_law_208 ?_
  refine g_seti x2 hx2 ?_
  refine g_aload_n (pc := 209) X (i := 3) d_law_209 rfl rfl ?_
  refine hA _ _ _ hn1 hn2 ?_
  refine g_istore (pc := 213) X d_law_213 (by decide) ?_
  refine g_lv [(0, .ref b), (1, .ref da), (2, .ref a), (3, .ref oa), (4, .int (nI (6 * k))), (5, .int (nI cd9))] rfl ?_
  refine g_aload_n (pc := 215) X (i := 2) d_law_215 rfl rfl ?_
  refine g_aload_n (pc := 216) X (i := 0) d_law_216 rfl rfl ?_
  refine g_iload (pc := 217) X d_law_217 rfl ?_
  refine g_iconst (pc := 219) X (v := nI 1) d_law_219 (by decide) ?_
  refine g_iaddN (pc := 220) X (6 * k + 1) (by omega) d_law_220 ?_
  refine g_sld (pc := 221) X hs (6 * k + 1) rfl (by omega) (by omega) d_law_221 ?_
  refine g_seti x1 hx1 ?_
  refine g_aload_n (pc := 222) X (i := 0) d_law_222 rfl rfl ?_
  refine g_iload (pc := 223) X d_law_223 rfl ?_
  refine g_iconst (pc := 225) X (v := nI 2) d_law_225 (by decide) ?_
  refine g_iaddN (pc := 226) X (6 * k + 2) (by omega) d_law_226 ?_
  refine g_sld (pc := 227) X hs (6 * k + 2) rfl (by omega) (by omega) d_law_227 ?_
  refine g_seti x2 hx2 ?_
  refine hB _ _ _ hn1 hn2 ?_
  refine g_istore (pc := 231) X d_law_231 (by decide) ?_
  refine g_lv [(0, .ref b), (1, .ref da), (2, .ref a), (3, .ref oa), (4, .int (nI (6 * k))), (5, .int (nI cd9)), (6, .int bv)] rfl ?_
  refine g_aload_n (pc := 233) X (i := 2) d_law_233 rfl rfl ?_
  refine g_callVi (pc := 234) (q0 := 38) X (c_O_thrown (m_l M) B a r R2.tp R2.kd R2.rt R2.fl R2.tt R2.cd) wd_893 wd_894 wd_895 wd_5 wd_896 hd_O_thrown [38] rfl rfl [a] (fun _ => rfl) rfl rfl rfl (by rw [hR]; decide) ⟨hn1, hn2⟩ rfl (Nat.le_of_ble_eq_true rfl) d_law_234 (fun r9 _ hr9 => ?_)
  subst hr9
  refine g_wsq (LW B da a oa q r C2 R2 ot2) rfl ?_
  refine g_seti (nI cd9) hcd ?_
  refine g_iload (pc := 237) X d_law_237 rfl ?_
  refine g_icmp_eqN (pc := 239) X (tgt := 244) d_law_239 (by decide) (by omega) (by omega) (fun h_239 => ?_) (fun h_239 => absurd h_239 (by omega))
  refine g_iload (pc := 244) X d_law_244 rfl ?_
  refine g_if_neN (pc := 246) X (tgt := 261) d_law_246 (by decide) (by omega) (fun h_c => ?_) (fun h_c => ?_)
  · refine g_goto (pc := 261) X (tgt := 746) d_law_261 (by decide) ?_
    refine g_lv [(0, .ref b), (1, .ref da), (2, .ref a), (3, .ref oa), (4, .int (nI (6 * k)))] rfl ?_
    exact kk
  · refine g_aload_n (pc := 249) X (i := 3) d_law_249 rfl rfl ?_
    refine g_iconst (pc := 250) X (v := nI 0) d_law_250 (by decide) ?_
    refine g_lald (pc := 251) X 65 rfl 0 rfl (by decide) (by decide) d_law_251 ?_
    refine g_iload (pc := 252) X d_law_252 rfl ?_
    refine g_i2l (pc := 254) X d_law_254 rfl ?_
    refine g_lcmp (pc := 255) X d_law_255 ?_
    refine g_if_eq (pc := 256) X (tgt := 261) d_law_256 (by decide) (fun h_256 => ?_) (fun h_256 => absurd ((lg_cmp_eq _ _).mpr (hq h_c)) h_256)
    refine g_goto (pc := 261) X (tgt := 746) d_law_261 (by decide) ?_
    refine g_lv [(0, .ref b), (1, .ref da), (2, .ref a), (3, .ref oa), (4, .int (nI (6 * k)))] rfl ?_
    exact kk

theorem body_2 {B : Bx} {M : Mx} {Q : State → Prop} (X : CX B M code 8 "SpongeDigestsLaw") (hR : m_R M = room_1) {b L : Nat} {xs : Nat → Int32} (hs : SCR M b L xs) (hL : L ≤ 3072) {da a oa : Nat} {q r : Nat → Nat} {C C2 : CS} {R R2 : RS} {ot ot2 : Nat → Int64} {k cd9 mc ms n1 n2 : Nat} {bv : Int32} {x1 x2 : Int32} (hx1 : xs (6 * k + 1) = x1) (hx2 : xs (6 * k + 2) = x2) (hk : 6 * k + 6 ≤ L) (hc : cd9 ≤ 2) (hn1 : n1 + mc ≤ (m_R M).cells) (hn2 : n2 + ms ≤ (m_R M).slots)
    (hA : CallS B M Q 278 [.ref oa, .int x2, .int x1, .ref da] (LW B da a oa q r C R ot) (LW B da a oa q r C2 R ot2) (.int (nI cd9)) mc ms) (hB : CallS B M Q 296 [.int x2, .int x1, .ref a] (LW B da a oa q r C2 R ot2) (LW B da a oa q r C2 R2 ot2) (.int bv) 0 0) (hcd : R2.cd = nI cd9) (hq : cd9 = 0 → ot2 0 = bv.toInt64)
    (kk : G B M 8 (n1 + mc) (n2 + ms) Q (LW B da a oa q r C2 R2 ot2) [(0, .ref b), (1, .ref da), (2, .ref a), (3, .ref oa), (4, .int (nI (6 * k)))] 746 []) : G B M 8 n1 n2 Q (LW B da a oa q r C R ot) [(0, .ref b), (1, .ref da), (2, .ref a), (3, .ref oa), (4, .int (nI (6 * k)))] 264 [] := by
  refine g_aload_n (pc := 264) X (i := 1) d_law_264 rfl rfl ?_
  refine g_aload_n (pc := 265) X (i := 0) d_law_265 rfl rfl ?_
  refine g_iload (pc := 266) X d_law_266 rfl ?_
  refine g_iconst (pc := 268) X (v := nI 1) d_law_268 (by decide) ?_
  refine g_iaddN (pc := 269) X (6 * k + 1) (by omega) d_law_269 ?_
  refine g_sld (pc := 270) X hs (6 * k + 1) rfl (by omega) (by omega) d_law_270 ?_
  refine g_seti x1 hx1 ?_
  refine g_aload_n (pc := 271) X (i := 0) d_law_271 rfl rfl ?_
  refine g_iload (pc := 272) X d_law_272 rfl ?_
  refine g_iconst (pc := 274) X (v := nI 2) d_law_274 (by decide) ?_
  refine g_iaddN (pc := 275) X (6 * k + 2) (by omega) d_law_275 ?_
  refine g_sld (pc := 276) X hs (6 * k + 2) rfl (by omega) (by omega) d_law_276 ?_
  refine g_seti x2 hx2 ?_
  refine g_aload_n (pc := 277) X (i := 3) d_law_277 rfl rfl ?_
  refine hA _ _ _ hn1 hn2 ?_
  refine g_istore (pc := 281) X d_law_281 (by decide) ?_
  refine g_lv [(0, .ref b), (1, .ref da), (2, .ref a), (3, .ref oa), (4, .int (nI (6 * k))), (5, .int (nI cd9))] rfl ?_
  refine g_aload_n (pc := 283) X (i := 2) d_law_283 rfl rfl ?_
  refine g_aload_n (pc := 284) X (i := 0) d_law_284 rfl rfl ?_
  refine g_iload (pc := 285) X d_law_285 rfl ?_
  refine g_iconst (pc := 287) X (v := nI 1) d_law_287 (by decide) ?_
  refine g_iaddN (pc := 288) X (6 * k + 1) (by omega) d_law_288 ?_
  refine g_sld (pc := 289) X hs (6 * k + 1) rfl (by omega) (by omega) d_law_289 ?_
  refine g_seti x1 hx1 ?_
  refine g_aload_n (pc := 290) X (i := 0) d_law_290 rfl rfl ?_
  refine g_iload (pc := 291) X d_law_291 rfl ?_
  refine g_iconst (pc := 293) X (v := nI 2) d_law_293 (by decide) ?_
  refine g_iaddN (pc := 294) X (6 * k + 2) (by omega) d_law_294 ?_
  refine g_sld (pc := 295) X hs (6 * k + 2) rfl (by omega) (by omega) d_law_295 ?_
  refine g_seti x2 hx2 ?_
  refine hB _ _ _ hn1 hn2 ?_
  refine g_istore (pc := 299) X d_law_299 (by decide) ?_
  refine g_lv [(0, .ref b), (1, .ref da), (2, .ref a), (3, .ref oa), (4, .int (nI (6 * k))), (5, .int (nI cd9)), (6, .int bv)] rfl ?_
  refine g_aload_n (pc := 301) X (i := 2) d_law_301 rfl rfl ?_
  refine g_callVi (pc := 302) (q0 := 38) X (c_O_thrown (m_l M) B a r R2.tp R2.kd R2.rt R2.fl R2.tt R2.cd) wd_893 wd_894 wd_895 wd_5 wd_896 hd_O_thrown [38] rfl rfl [a] (fun _ => rfl) rfl rfl rfl (by rw [hR]; decide) ⟨hn1, hn2⟩ rfl (Nat.le_of_ble_eq_true rfl) d_law_302 (fun r9 _ hr9 => ?_)
  subst hr9
  refine g_wsq (LW B da a oa q r C2 R2 ot2) rfl ?_
  refine g_seti (nI cd9) hcd ?_
  refine g_iload (pc := 305) X d_law_305 rfl ?_
  refine g_icmp_eqN (pc := 307) X (tgt := 312) d_law_307 (by decide) (by omega) (by omega) (fun h_307 => ?_) (fun h_307 => absurd h_307 (by omega))
  refine g_iload (pc := 312) X d_law_312 rfl ?_
  refine g_if_neN (pc := 314) X (tgt := 329) d_law_314 (by decide) (by omega) (fun h_c => ?_) (fun h_c => ?_)
  · refine g_goto (pc := 329) X (tgt := 746) d_law_329 (by decide) ?_
    refine g_lv [(0, .ref b), (1, .ref da), (2, .ref a), (3, .ref oa), (4, .int (nI (6 * k)))] rfl ?_
    exact kk
  · refine g_aload_n (pc := 317) X (i := 3) d_law_317 rfl rfl ?_
    refine g_iconst (pc := 318) X (v := nI 0) d_law_318 (by decide) ?_
    refine g_lald (pc := 319) X 65 rfl 0 rfl (by decide) (by decide) d_law_319 ?_
    refine g_iload (pc := 320) X d_law_320 rfl ?_
    refine g_i2l (pc := 322) X d_law_322 rfl ?_
    refine g_lcmp (pc := 323) X d_law_323 ?_
    refine g_if_eq (pc := 324) X (tgt := 329) d_law_324 (by decide) (fun h_324 => ?_) (fun h_324 => absurd ((lg_cmp_eq _ _).mpr (hq h_c)) h_324)
    refine g_goto (pc := 329) X (tgt := 746) d_law_329 (by decide) ?_
    refine g_lv [(0, .ref b), (1, .ref da), (2, .ref a), (3, .ref oa), (4, .int (nI (6 * k)))] rfl ?_
    exact kk

theorem body_3 {B : Bx} {M : Mx} {Q : State → Prop} (X : CX B M code 8 "SpongeDigestsLaw") (hR : m_R M = room_1) {b L : Nat} {xs : Nat → Int32} (hs : SCR M b L xs) (hL : L ≤ 3072) {da a oa : Nat} {q r : Nat → Nat} {C C2 : CS} {R R2 : RS} {ot ot2 : Nat → Int64} {k cd9 mc ms n1 n2 : Nat} {bv : Int32} {x1 x2 : Int32} (hx1 : xs (6 * k + 1) = x1) (hx2 : xs (6 * k + 2) = x2) (hk : 6 * k + 6 ≤ L) (hc : cd9 ≤ 2) (hn1 : n1 + mc ≤ (m_R M).cells) (hn2 : n2 + ms ≤ (m_R M).slots)
    (hA : CallS B M Q 346 [.ref oa, .int x2, .int x1, .ref da] (LW B da a oa q r C R ot) (LW B da a oa q r C2 R ot2) (.int (nI cd9)) mc ms) (hB : CallS B M Q 364 [.int x2, .int x1, .ref a] (LW B da a oa q r C2 R ot2) (LW B da a oa q r C2 R2 ot2) (.int bv) 0 0) (hcd : R2.cd = nI cd9) (hq : cd9 = 0 → ot2 0 = bv.toInt64)
    (kk : G B M 8 (n1 + mc) (n2 + ms) Q (LW B da a oa q r C2 R2 ot2) [(0, .ref b), (1, .ref da), (2, .ref a), (3, .ref oa), (4, .int (nI (6 * k)))] 746 []) : G B M 8 n1 n2 Q (LW B da a oa q r C R ot) [(0, .ref b), (1, .ref da), (2, .ref a), (3, .ref oa), (4, .int (nI (6 * k)))] 332 [] := by
  refine g_aload_n (pc := 332) X (i := 1) d_law_332 rfl rfl ?_
  refine g_aload_n (pc := 333) X (i := 0) d_law_333 rfl rfl ?_
  refine g_iload (pc := 334) X d_law_334 rfl ?_
  refine g_iconst (pc := 336) X (v := nI 1) d_law_336 (by decide) ?_
  refine g_iaddN (pc := 337) X (6 * k + 1) (by omega) d_law_337 ?_
  refine g_sld (pc := 338) X hs (6 * k + 1) rfl (by omega) (by omega) d_law_338 ?_
  refine g_seti x1 hx1 ?_
  refine g_aload_n (pc := 339) X (i := 0) d_law_339 rfl rfl ?_
  refine g_iload (pc := 340) X d_law_340 rfl ?_
  refine g_iconst (pc := 342) X (v := nI 2) d_law_342 (by decide) ?_
  refine g_iaddN (pc := 343) X (6 * k + 2) (by omega) d_law_343 ?_
  refine g_sld (pc := 344) X hs (6 * k + 2) rfl (by omega) (by omega) d_law_344 ?_
  refine g_seti x2 hx2 ?_
  refine g_aload_n (pc := 345) X (i := 3) d_law_345 rfl rfl ?_
  refine hA _ _ _ hn1 hn2 ?_
  refine g_istore (pc := 349) X d_law_349 (by decide) ?_
  refine g_lv [(0, .ref b), (1, .ref da), (2, .ref a), (3, .ref oa), (4, .int (nI (6 * k))), (5, .int (nI cd9))] rfl ?_
  refine g_aload_n (pc := 351) X (i := 2) d_law_351 rfl rfl ?_
  refine g_aload_n (pc := 352) X (i := 0) d_law_352 rfl rfl ?_
  refine g_iload (pc := 353) X d_law_353 rfl ?_
  refine g_iconst (pc := 355) X (v := nI 1) d_law_355 (by decide) ?_
  refine g_iaddN (pc := 356) X (6 * k + 1) (by omega) d_law_356 ?_
  refine g_sld (pc := 357) X hs (6 * k + 1) rfl (by omega) (by omega) d_law_357 ?_
  refine g_seti x1 hx1 ?_
  refine g_aload_n (pc := 358) X (i := 0) d_law_358 rfl rfl ?_
  refine g_iload (pc := 359) X d_law_359 rfl ?_
  refine g_iconst (pc := 361) X (v := nI 2) d_law_361 (by decide) ?_
  refine g_iaddN (pc := 362) X (6 * k + 2) (by omega) d_law_362 ?_
  refine g_sld (pc := 363) X hs (6 * k + 2) rfl (by omega) (by omega) d_law_363 ?_
  refine g_seti x2 hx2 ?_
  refine hB _ _ _ hn1 hn2 ?_
  refine g_istore (pc := 367) X d_law_367 (by decide) ?_
  refine g_lv [(0, .ref b), (1, .ref da), (2, .ref a), (3, .ref oa), (4, .int (nI (6 * k))), (5, .int (nI cd9)), (6, .int bv)] rfl ?_
  refine g_aload_n (pc := 369) X (i := 2) d_law_369 rfl rfl ?_
  refine g_callVi (pc := 370) (q0 := 38) X (c_O_thrown (m_l M) B a r R2.tp R2.kd R2.rt R2.fl R2.tt R2.cd) wd_893 wd_894 wd_895 wd_5 wd_896 hd_O_thrown [38] rfl rfl [a] (fun _ => rfl) rfl rfl rfl (by rw [hR]; decide) ⟨hn1, hn2⟩ rfl (Nat.le_of_ble_eq_true rfl) d_law_370 (fun r9 _ hr9 => ?_)
  subst hr9
  refine g_wsq (LW B da a oa q r C2 R2 ot2) rfl ?_
  refine g_seti (nI cd9) hcd ?_
  refine g_iload (pc := 373) X d_law_373 rfl ?_
  refine g_icmp_eqN (pc := 375) X (tgt := 380) d_law_375 (by decide) (by omega) (by omega) (fun h_375 => ?_) (fun h_375 => absurd h_375 (by omega))
  refine g_iload (pc := 380) X d_law_380 rfl ?_
  refine g_if_neN (pc := 382) X (tgt := 397) d_law_382 (by decide) (by omega) (fun h_c => ?_) (fun h_c => ?_)
  · refine g_goto (pc := 397) X (tgt := 746) d_law_397 (by decide) ?_
    refine g_lv [(0, .ref b), (1, .ref da), (2, .ref a), (3, .ref oa), (4, .int (nI (6 * k)))] rfl ?_
    exact kk
  · refine g_aload_n (pc := 385) X (i := 3) d_law_385 rfl rfl ?_
    refine g_iconst (pc := 386) X (v := nI 0) d_law_386 (by decide) ?_
    refine g_lald (pc := 387) X 65 rfl 0 rfl (by decide) (by decide) d_law_387 ?_
    refine g_iload (pc := 388) X d_law_388 rfl ?_
    refine g_i2l (pc := 390) X d_law_390 rfl ?_
    refine g_lcmp (pc := 391) X d_law_391 ?_
    refine g_if_eq (pc := 392) X (tgt := 397) d_law_392 (by decide) (fun h_392 => ?_) (fun h_392 => absurd ((lg_cmp_eq _ _).mpr (hq h_c)) h_392)
    refine g_goto (pc := 397) X (tgt := 746) d_law_397 (by decide) ?_
    refine g_lv [(0, .ref b), (1, .ref da), (2, .ref a), (3, .ref oa), (4, .int (nI (6 * k)))] rfl ?_
    exact kk

theorem body_4 {B : Bx} {M : Mx} {Q : State → Prop} (X : CX B M code 8 "SpongeDigestsLaw") (hR : m_R M = room_1) {b L : Nat} {xs : Nat → Int32} (hs : SCR M b L xs) (hL : L ≤ 3072) {da a oa : Nat} {q r : Nat → Nat} {C C2 : CS} {R R2 : RS} {ot ot2 : Nat → Int64} {k cd9 mc ms n1 n2 : Nat} {bv : Int32} {x1 x2 x3 : Int32} (hx1 : xs (6 * k + 1) = x1) (hx2 : xs (6 * k + 2) = x2) (hx3 : xs (6 * k + 3) = x3) (hk : 6 * k + 6 ≤ L) (hc : cd9 ≤ 2) (hn1 : n1 + mc ≤ (m_R M).cells) (hn2 : n2 + ms ≤ (m_R M).slots)
    (hA : CallS B M Q 420 [.ref oa, .int x3, .int x2, .int x1, .ref da] (LW B da a oa q r C R ot) (LW B da a oa q r C2 R ot2) (.int (nI cd9)) mc ms) (hB : CallS B M Q 444 [.int x3, .int x2, .int x1, .ref a] (LW B da a oa q r C2 R ot2) (LW B da a oa q r C2 R2 ot2) (.int bv) 0 0) (hcd : R2.cd = nI cd9) (hq : cd9 = 0 → ot2 0 = bv.toInt64)
    (kk : G B M 8 (n1 + mc) (n2 + ms) Q (LW B da a oa q r C2 R2 ot2) [(0, .ref b), (1, .ref da), (2, .ref a), (3, .ref oa), (4, .int (nI (6 * k)))] 746 []) : G B M 8 n1 n2 Q (LW B da a oa q r C R ot) [(0, .ref b), (1, .ref da), (2, .ref a), (3, .ref oa), (4, .int (nI (6 * k)))] 400 [] := by
  refine g_aload_n (pc := 400) X (i := 1) d_law_400 rfl rfl ?_
  refine g_aload_n (pc := 401) X (i := 0) d_law_401 rfl rfl ?_
  refine g_iload (pc := 402) X d_law_402 rfl ?_
  refine g_iconst (pc := 404) X (v := nI 1) d_law_404 (by decide) ?_
  refine g_iaddN (pc := 405) X (6 * k + 1) (by omega) d_law_405 ?_
  refine g_sld (pc := 406) X hs (6 * k + 1) rfl (by omega) (by omega) d_law_406 ?_
  refine g_seti x1 hx1 ?_
  refine g_aload_n (pc := 407) X (i := 0) d_law_407 rfl rfl ?_
  refine g_iload (pc := 408) X d_law_408 rfl ?_
  refine g_iconst (pc := 410) X (v := nI 2) d_law_410 (by decide) ?_
  refine g_iaddN (pc := 411) X (6 * k + 2) (by omega) d_law_411 ?_
  refine g_sld (pc := 412) X hs (6 * k + 2) rfl (by omega) (by omega) d_law_412 ?_
  refine g_seti x2 hx2 ?_
  refine g_aload_n (pc := 413) X (i := 0) d_law_413 rfl rfl ?_
  refine g_iload (pc := 414) X d_law_414 rfl ?_
  refine g_iconst (pc := 416) X (v := nI 3) d_law_416 (by decide) ?_
  refine g_iaddN (pc := 417) X (6 * k + 3) (by omega) d_law_417 ?_
  refine g_sld (pc := 418) X hs (6 * k + 3) rfl (by omega) (by omega) d_law_418 ?_
  refine g_seti x3 hx3 ?_
  refine g_aload_n (pc := 419) X (i := 3) d_law_419 rfl rfl ?_
  refine hA _ _ _ hn1 hn2 ?_
  refine g_istore (pc := 423) X d_law_423 (by decide) ?_
  refine g_lv [(0, .ref b), (1, .ref da), (2, .ref a), (3, .ref oa), (4, .int (nI (6 * k))), (5, .int (nI cd9))] rfl ?_
  refine g_aload_n (pc := 425) X (i := 2) d_law_425 rfl rfl ?_
  refine g_aload_n (pc := 426) X (i := 0) d_law_426 rfl rfl ?_
  refine g_iload (pc := 427) X d_law_427 rfl ?_
  refine g_iconst (pc := 429) X (v := nI 1) d_law_429 (by decide) ?_
  refine g_iaddN (pc := 430) X (6 * k + 1) (by omega) d_law_430 ?_
  refine g_sld (pc := 431) X hs (6 * k + 1) rfl (by omega) (by omega) d_law_431 ?_
  refine g_seti x1 hx1 ?_
  refine g_aload_n (pc := 432) X (i := 0) d_law_432 rfl rfl ?_
  refine g_iload (pc := 433) X d_law_433 rfl ?_
  refine g_iconst (pc := 435) X (v := nI 2) d_law_435 (by decide) ?_
  refine g_iaddN (pc := 436) X (6 * k + 2) (by omega) d_law_436 ?_
  refine g_sld (pc := 437) X hs (6 * k + 2) rfl (by omega) (by omega) d_law_437 ?_
  refine g_seti x2 hx2 ?_
  refine g_aload_n (pc := 438) X (i := 0) d_law_438 rfl rfl ?_
  refine g_iload (pc := 439) X d_law_439 rfl ?_
  refine g_iconst (pc := 441) X (v := nI 3) d_law_441 (by decide) ?_
  refine g_iaddN (pc := 442) X (6 * k + 3) (by omega) d_law_442 ?_
  refine g_sld (pc := 443) X hs (6 * k + 3) rfl (by omega) (by omega) d_law_443 ?_
  refine g_seti x3 hx3 ?_
  refine hB _ _ _ hn1 hn2 ?_
  refine g_istore (pc := 447) X d_law_447 (by decide) ?_
  refine g_lv [(0, .ref b), (1, .ref da), (2, .ref a), (3, .ref oa), (4, .int (nI (6 * k))), (5, .int (nI cd9)), (6, .int bv)] rfl ?_
  refine g_aload_n (pc := 449) X (i := 2) d_law_449 rfl rfl ?_
  refine g_callVi (pc := 450) (q0 := 38) X (c_O_thrown (m_l M) B a r R2.tp R2.kd R2.rt R2.fl R2.tt R2.cd) wd_893 wd_894 wd_895 wd_5 wd_896 hd_O_thrown [38] rfl rfl [a] (fun _ => rfl) rfl rfl rfl (by rw [hR]; decide) ⟨hn1, hn2⟩ rfl (Nat.le_of_ble_eq_true rfl) d_law_450 (fun r9 _ hr9 => ?_)
  subst hr9
  refine g_wsq (LW B da a oa q r C2 R2 ot2) rfl ?_
  refine g_seti (nI cd9) hcd ?_
  refine g_iload (pc := 453) X d_law_453 rfl ?_
  refine g_icmp_eqN (pc := 455) X (tgt := 460) d_law_455 (by decide) (by omega) (by omega) (fun h_455 => ?_) (fun h_455 => absurd h_455 (by omega))
  refine g_iload (pc := 460) X d_law_460 rfl ?_
  refine g_if_neN (pc := 462) X (tgt := 477) d_law_462 (by decide) (by omega) (fun h_c => ?_) (fun h_c => ?_)
  · refine g_goto (pc := 477) X (tgt := 746) d_law_477 (by decide) ?_
    refine g_lv [(0, .ref b), (1, .ref da), (2, .ref a), (3, .ref oa), (4, .int (nI (6 * k)))] rfl ?_
    exact kk
  · refine g_aload_n (pc := 465) X (i := 3) d_law_465 rfl rfl ?_
    refine g_iconst (pc := 466) X (v := nI 0) d_law_466 (by decide) ?_
    refine g_lald (pc := 467) X 65 rfl 0 rfl (by decide) (by decide) d_law_467 ?_
    refine g_iload (pc := 468) X d_law_468 rfl ?_
    refine g_i2l (pc := 470) X d_law_470 rfl ?_
    refine g_lcmp (pc := 471) X d_law_471 ?_
    refine g_if_eq (pc := 472) X (tgt := 477) d_law_472 (by decide) (fun h_472 => ?_) (fun h_472 => absurd ((lg_cmp_eq _ _).mpr (hq h_c)) h_472)
    refine g_goto (pc := 477) X (tgt := 746) d_law_477 (by decide) ?_
    refine g_lv [(0, .ref b), (1, .ref da), (2, .ref a), (3, .ref oa), (4, .int (nI (6 * k)))] rfl ?_
    exact kk

theorem body_5 {B : Bx} {M : Mx} {Q : State → Prop} (X : CX B M code 8 "SpongeDigestsLaw") (hR : m_R M = room_1) {b L : Nat} {xs : Nat → Int32} (hs : SCR M b L xs) (hL : L ≤ 3072) {da a oa : Nat} {q r : Nat → Nat} {C C2 : CS} {R R2 : RS} {ot ot2 : Nat → Int64} {k cd9 mc ms n1 n2 : Nat} {bv : Int32} {x1 : Int32} (hx1 : xs (6 * k + 1) = x1) (hk : 6 * k + 6 ≤ L) (hc : cd9 ≤ 2) (hn1 : n1 + mc ≤ (m_R M).cells) (hn2 : n2 + ms ≤ (m_R M).slots)
    (hA : CallS B M Q 488 [.ref oa, .int x1, .ref da] (LW B da a oa q r C R ot) (LW B da a oa q r C2 R ot2) (.int (nI cd9)) mc ms) (hB : CallS B M Q 500 [.int x1, .ref a] (LW B da a oa q r C2 R ot2) (LW B da a oa q r C2 R2 ot2) (.int bv) 0 0) (hcd : R2.cd = nI cd9) (hq : cd9 = 0 → ot2 0 = bv.toInt64)
    (kk : G B M 8 (n1 + mc) (n2 + ms) Q (LW B da a oa q r C2 R2 ot2) [(0, .ref b), (1, .ref da), (2, .ref a), (3, .ref oa), (4, .int (nI (6 * k)))] 746 []) : G B M 8 n1 n2 Q (LW B da a oa q r C R ot) [(0, .ref b), (1, .ref da), (2, .ref a), (3, .ref oa), (4, .int (nI (6 * k)))] 480 [] := by
  refine g_aload_n (pc := 480) X (i := 1) d_law_480 rfl rfl ?_
  refine g_aload_n (pc := 481) X (i := 0) d_law_481 rfl rfl ?_
  refine g_iload (pc := 482) X d_law_482 rfl ?_
  refine g_iconst (pc := 484) X (v := nI 1) d_law_484 (by decide) ?_
  refine g_iaddN (pc := 485) X (6 * k + 1) (by omega) d_law_485 ?_
  refine g_sld (pc := 486) X hs (6 * k + 1) rfl (by omega) (by omega) d_law_486 ?_
  refine g_seti x1 hx1 ?_
  refine g_aload_n (pc := 487) X (i := 3) d_law_487 rfl rfl ?_
  refine hA _ _ _ hn1 hn2 ?_
  refine g_istore (pc := 491) X d_law_491 (by decide) ?_
  refine g_lv [(0, .ref b), (1, .ref da), (2, .ref a), (3, .ref oa), (4, .int (nI (6 * k))), (5, .int (nI cd9))] rfl ?_
  refine g_aload_n (pc := 493) X (i := 2) d_law_493 rfl rfl ?_
  refine g_aload_n (pc := 494) X (i := 0) d_law_494 rfl rfl ?_
  refine g_iload (pc := 495) X d_law_495 rfl ?_
  refine g_iconst (pc := 497) X (v := nI 1) d_law_497 (by decide) ?_
  refine g_iaddN (pc := 498) X (6 * k + 1) (by omega) d_law_498 ?_
  refine g_sld (pc := 499) X hs (6 * k + 1) rfl (by omega) (by omega) d_law_499 ?_
  refine g_seti x1 hx1 ?_
  refine hB _ _ _ hn1 hn2 ?_
  refine g_istore (pc := 503) X d_law_503 (by decide) ?_
  refine g_lv [(0, .ref b), (1, .ref da), (2, .ref a), (3, .ref oa), (4, .int (nI (6 * k))), (5, .int (nI cd9)), (6, .int bv)] rfl ?_
  refine g_aload_n (pc := 505) X (i := 2) d_law_505 rfl rfl ?_
  refine g_callVi (pc := 506) (q0 := 38) X (c_O_thrown (m_l M) B a r R2.tp R2.kd R2.rt R2.fl R2.tt R2.cd) wd_893 wd_894 wd_895 wd_5 wd_896 hd_O_thrown [38] rfl rfl [a] (fun _ => rfl) rfl rfl rfl (by rw [hR]; decide) ⟨hn1, hn2⟩ rfl (Nat.le_of_ble_eq_true rfl) d_law_506 (fun r9 _ hr9 => ?_)
  subst hr9
  refine g_wsq (LW B da a oa q r C2 R2 ot2) rfl ?_
  refine g_seti (nI cd9) hcd ?_
  refine g_iload (pc := 509) X d_law_509 rfl ?_
  refine g_icmp_eqN (pc := 511) X (tgt := 516) d_law_511 (by decide) (by omega) (by omega) (fun h_511 => ?_) (fun h_511 => absurd h_511 (by omega))
  refine g_iload (pc := 516) X d_law_516 rfl ?_
  refine g_if_neN (pc := 518) X (tgt := 533) d_law_518 (by decide) (by omega) (fun h_c => ?_) (fun h_c => ?_)
  · refine g_goto (pc := 533) X (tgt := 746) d_law_533 (by decide) ?_
    refine g_lv [(0, .ref b), (1, .ref da), (2, .ref a), (3, .ref oa), (4, .int (nI (6 * k)))] rfl ?_
    exact kk
  · refine g_aload_n (pc := 521) X (i := 3) d_law_521 rfl rfl ?_
    refine g_iconst (pc := 522) X (v := nI 0) d_law_522 (by decide) ?_
    refine g_lald (pc := 523) X 65 rfl 0 rfl (by decide) (by decide) d_law_523 ?_
    refine g_iload (pc := 524) X d_law_524 rfl ?_
    refine g_i2l (pc := 526) X d_law_526 rfl ?_
    refine g_lcmp (pc := 527) X d_law_527 ?_
    refine g_if_eq (pc := 528) X (tgt := 533) d_law_528 (by decide) (fun h_528 => ?_) (fun h_528 => absurd ((lg_cmp_eq _ _).mpr (hq h_c)) h_528)
    refine g_goto (pc := 533) X (tgt := 746) d_law_533 (by decide) ?_
    refine g_lv [(0, .ref b), (1, .ref da), (2, .ref a), (3, .ref oa), (4, .int (nI (6 * k)))] rfl ?_
    exact kk

theorem body_6 {B : Bx} {M : Mx} {Q : State → Prop} (X : CX B M code 8 "SpongeDigestsLaw") (hR : m_R M = room_1) {b L : Nat} {xs : Nat → Int32} (hs : SCR M b L xs) (hL : L ≤ 3072) {da a oa : Nat} {q r : Nat → Nat} {C C2 : CS} {R R2 : RS} {ot ot2 : Nat → Int64} {k cd9 mc ms n1 n2 : Nat} {bv : Int64} {x1 x2 : Int32} (hx1 : xs (6 * k + 1) = x1) (hx2 : xs (6 * k + 2) = x2) (hk : 6 * k + 6 ≤ L) (hc : cd9 ≤ 2) (hn1 : n1 + mc ≤ (m_R M).cells) (hn2 : n2 + ms ≤ (m_R M).slots)
    (hA : CallS B M Q 550 [.ref oa, .int x2, .int x1, .ref da] (LW B da a oa q r C R ot) (LW B da a oa q r C2 R ot2) (.int (nI cd9)) mc ms) (hB : CallS B M Q 568 [.int x2, .int x1, .ref a] (LW B da a oa q r C2 R ot2) (LW B da a oa q r C2 R2 ot2) (.long bv) 0 0) (hcd : R2.cd = nI cd9) (hq : cd9 = 0 → ot2 0 = bv)
    (kk : G B M 8 (n1 + mc) (n2 + ms) Q (LW B da a oa q r C2 R2 ot2) [(0, .ref b), (1, .ref da), (2, .ref a), (3, .ref oa), (4, .int (nI (6 * k)))] 746 []) : G B M 8 n1 n2 Q (LW B da a oa q r C R ot) [(0, .ref b), (1, .ref da), (2, .ref a), (3, .ref oa), (4, .int (nI (6 * k)))] 536 [] := by
  refine g_aload_n (pc := 536) X (i := 1) d_law_536 rfl rfl ?_
  refine g_aload_n (pc := 537) X (i := 0) d_law_537 rfl rfl ?_
  refine g_iload (pc := 538) X d_law_538 rfl ?_
  refine g_iconst (pc := 540) X (v := nI 1) d_law_540 (by decide) ?_
  refine g_iaddN (pc := 541) X (6 * k + 1) (by omega) d_law_541 ?_
  refine g_sld (pc := 542) X hs (6 * k + 1) rfl (by omega) (by omega) d_law_542 ?_
  refine g_seti x1 hx1 ?_
  refine g_aload_n (pc := 543) X (i := 0) d_law_543 rfl rfl ?_
  refine g_iload (pc := 544) X d_law_544 rfl ?_
  refine g_iconst (pc := 546) X (v := nI 2) d_law_546 (by decide) ?_
  refine g_iaddN (pc := 547) X (6 * k + 2) (by omega) d_law_547 ?_
  refine g_sld (pc := 548) X hs (6 * k + 2) rfl (by omega) (by omega) d_law_548 ?_
  refine g_seti x2 hx2 ?_
  refine g_aload_n (pc := 549) X (i := 3) d_law_549 rfl rfl ?_
  refine hA _ _ _ hn1 hn2 ?_
  refine g_istore (pc := 553) X d_law_553 (by decide) ?_
  refine g_lv [(0, .ref b), (1, .ref da), (2, .ref a), (3, .ref oa), (4, .int (nI (6 * k))), (5, .int (nI cd9))] rfl ?_
  refine g_aload_n (pc := 555) X (i := 2) d_law_555 rfl rfl ?_
  refine g_aload_n (pc := 556) X (i := 0) d_law_556 rfl rfl ?_
  refine g_iload (pc := 557) X d_law_557 rfl ?_
  refine g_iconst (pc := 559) X (v := nI 1) d_law_559 (by decide) ?_
  refine g_iaddN (pc := 560) X (6 * k + 1) (by omega) d_law_560 ?_
  refine g_sld (pc := 561) X hs (6 * k + 1) rfl (by omega) (by omega) d_law_561 ?_
  refine g_seti x1 hx1 ?_
  refine g_aload_n (pc := 562) X (i := 0) d_law_562 rfl rfl ?_
  refine g_iload (pc := 563) X d_law_563 rfl ?_
  refine g_iconst (pc := 565) X (v := nI 2) d_law_565 (by decide) ?_
  refine g_iaddN (pc := 566) X (6 * k + 2) (by omega) d_law_566 ?_
  refine g_sld (pc := 567) X hs (6 * k + 2) rfl (by omega) (by omega) d_law_567 ?_
  refine g_seti x2 hx2 ?_
  refine hB _ _ _ hn1 hn2 ?_
  refine g_lstore (pc := 571) X d_law_571 (by decide) ?_
  refine g_lv [(0, .ref b), (1, .ref da), (2, .ref a), (3, .ref oa), (4, .int (nI (6 * k))), (5, .int (nI cd9)), (6, .long bv)] rfl ?_
  refine g_aload_n (pc := 573) X (i := 2) d_law_573 rfl rfl ?_
  refine g_callVi (pc := 574) (q0 := 38) X (c_O_thrown (m_l M) B a r R2.tp R2.kd R2.rt R2.fl R2.tt R2.cd) wd_893 wd_894 wd_895 wd_5 wd_896 hd_O_thrown [38] rfl rfl [a] (fun _ => rfl) rfl rfl rfl (by rw [hR]; decide) ⟨hn1, hn2⟩ rfl (Nat.le_of_ble_eq_true rfl) d_law_574 (fun r9 _ hr9 => ?_)
  subst hr9
  refine g_wsq (LW B da a oa q r C2 R2 ot2) rfl ?_
  refine g_seti (nI cd9) hcd ?_
  refine g_iload (pc := 577) X d_law_577 rfl ?_
  refine g_icmp_eqN (pc := 579) X (tgt := 584) d_law_579 (by decide) (by omega) (by omega) (fun h_579 => ?_) (fun h_579 => absurd h_579 (by omega))
  refine g_iload (pc := 584) X d_law_584 rfl ?_
  refine g_if_neN (pc := 586) X (tgt := 600) d_law_586 (by decide) (by omega) (fun h_c => ?_) (fun h_c => ?_)
  · refine g_goto (pc := 600) X (tgt := 746) d_law_600 (by decide) ?_
    refine g_lv [(0, .ref b), (1, .ref da), (2, .ref a), (3, .ref oa), (4, .int (nI (6 * k)))] rfl ?_
    exact kk
  · refine g_aload_n (pc := 589) X (i := 3) d_law_589 rfl rfl ?_
    refine g_iconst (pc := 590) X (v := nI 0) d_law_590 (by decide) ?_
    refine g_lald (pc := 591) X 65 rfl 0 rfl (by decide) (by decide) d_law_591 ?_
    refine g_lload (pc := 592) X d_law_592 rfl ?_
    refine g_lcmp (pc := 594) X d_law_594 ?_
    refine g_if_eq (pc := 595) X (tgt := 600) d_law_595 (by decide) (fun h_595 => ?_) (fun h_595 => absurd ((lg_cmp_eq _ _).mpr (hq h_c)) h_595)
    refine g_goto (pc := 600) X (tgt := 746) d_law_600 (by decide) ?_
    refine g_lv [(0, .ref b), (1, .ref da), (2, .ref a), (3, .ref oa), (4, .int (nI (6 * k)))] rfl ?_
    exact kk

theorem body_7 {B : Bx} {M : Mx} {Q : State → Prop} (X : CX B M code 8 "SpongeDigestsLaw") (hR : m_R M = room_1) {b L : Nat} {xs : Nat → Int32} (hs : SCR M b L xs) (hL : L ≤ 3072) {da a oa : Nat} {q r : Nat → Nat} {C C2 : CS} {R R2 : RS} {ot ot2 : Nat → Int64} {k cd9 mc ms n1 n2 : Nat} {bv : Int32} {x1 x2 : Int32} (hx1 : xs (6 * k + 1) = x1) (hx2 : xs (6 * k + 2) = x2) (hk : 6 * k + 6 ≤ L) (hc : cd9 ≤ 2) (hn1 : n1 + mc ≤ (m_R M).cells) (hn2 : n2 + ms ≤ (m_R M).slots)
    (hA : CallS B M Q 617 [.ref oa, .int x2, .int x1, .ref da] (LW B da a oa q r C R ot) (LW B da a oa q r C2 R ot2) (.int (nI cd9)) mc ms) (hB : CallS B M Q 635 [.int x2, .int x1, .ref a] (LW B da a oa q r C2 R ot2) (LW B da a oa q r C2 R2 ot2) (.int bv) 0 0) (hcd : R2.cd = nI cd9) (hq : cd9 = 0 → ot2 0 = if bv = 0 then (0 : Int64) else 1)
    (kk : G B M 8 (n1 + mc) (n2 + ms) Q (LW B da a oa q r C2 R2 ot2) [(0, .ref b), (1, .ref da), (2, .ref a), (3, .ref oa), (4, .int (nI (6 * k)))] 746 []) : G B M 8 n1 n2 Q (LW B da a oa q r C R ot) [(0, .ref b), (1, .ref da), (2, .ref a), (3, .ref oa), (4, .int (nI (6 * k)))] 603 [] := by
  refine g_aload_n (pc := 603) X (i := 1) d_law_603 rfl rfl ?_
  refine g_aload_n (pc := 604) X (i := 0) d_law_604 rfl rfl ?_
  refine g_iload (pc := 605) X d_law_605 rfl ?_
  refine g_iconst (pc := 607) X (v := nI 1) d_law_607 (by decide) ?_
  refine g_iaddN (pc := 608) X (6 * k + 1) (by omega) d_law_608 ?_
  refine g_sld (pc := 609) X hs (6 * k + 1) rfl (by omega) (by omega) d_law_609 ?_
  refine g_seti x1 hx1 ?_
  refine g_aload_n (pc := 610) X (i := 0) d_law_610 rfl rfl ?_
  refine g_iload (pc := 611) X d_law_611 rfl ?_
  refine g_iconst (pc := 613) X (v := nI 2) d_law_613 (by decide) ?_
  refine g_iaddN (pc := 614) X (6 * k + 2) (by omega) d_law_614 ?_
  refine g_sld (pc := 615) X hs (6 * k + 2) rfl (by omega) (by omega) d_law_615 ?_
  refine g_seti x2 hx2 ?_
  refine g_aload_n (pc := 616) X (i := 3) d_law_616 rfl rfl ?_
  refine hA _ _ _ hn1 hn2 ?_
  refine g_istore (pc := 620) X d_law_620 (by decide) ?_
  refine g_lv [(0, .ref b), (1, .ref da), (2, .ref a), (3, .ref oa), (4, .int (nI (6 * k))), (5, .int (nI cd9))] rfl ?_
  refine g_aload_n (pc := 622) X (i := 2) d_law_622 rfl rfl ?_
  refine g_aload_n (pc := 623) X (i := 0) d_law_623 rfl rfl ?_
  refine g_iload (pc := 624) X d_law_624 rfl ?_
  refine g_iconst (pc := 626) X (v := nI 1) d_law_626 (by decide) ?_
  refine g_iaddN (pc := 627) X (6 * k + 1) (by omega) d_law_627 ?_
  refine g_sld (pc := 628) X hs (6 * k + 1) rfl (by omega) (by omega) d_law_628 ?_
  refine g_seti x1 hx1 ?_
  refine g_aload_n (pc := 629) X (i := 0) d_law_629 rfl rfl ?_
  refine g_iload (pc := 630) X d_law_630 rfl ?_
  refine g_iconst (pc := 632) X (v := nI 2) d_law_632 (by decide) ?_
  refine g_iaddN (pc := 633) X (6 * k + 2) (by omega) d_law_633 ?_
  refine g_sld (pc := 634) X hs (6 * k + 2) rfl (by omega) (by omega) d_law_634 ?_
  refine g_seti x2 hx2 ?_
  refine hB _ _ _ hn1 hn2 ?_
  refine g_istore (pc := 638) X d_law_638 (by decide) ?_
  refine g_lv [(0, .ref b), (1, .ref da), (2, .ref a), (3, .ref oa), (4, .int (nI (6 * k))), (5, .int (nI cd9)), (6, .int bv)] rfl ?_
  refine g_aload_n (pc := 640) X (i := 2) d_law_640 rfl rfl ?_
  refine g_callVi (pc := 641) (q0 := 38) X (c_O_thrown (m_l M) B a r R2.tp R2.kd R2.rt R2.fl R2.tt R2.cd) wd_893 wd_894 wd_895 wd_5 wd_896 hd_O_thrown [38] rfl rfl [a] (fun _ => rfl) rfl rfl rfl (by rw [hR]; decide) ⟨hn1, hn2⟩ rfl (Nat.le_of_ble_eq_true rfl) d_law_641 (fun r9 _ hr9 => ?_)
  subst hr9
  refine g_wsq (LW B da a oa q r C2 R2 ot2) rfl ?_
  refine g_seti (nI cd9) hcd ?_
  refine g_iload (pc := 644) X d_law_644 rfl ?_
  refine g_icmp_eqN (pc := 646) X (tgt := 651) d_law_646 (by decide) (by omega) (by omega) (fun h_646 => ?_) (fun h_646 => absurd h_646 (by omega))
  refine g_iload (pc := 651) X d_law_651 rfl ?_
  refine g_if_neN (pc := 653) X (tgt := 675) d_law_653 (by decide) (by omega) (fun h_c => ?_) (fun h_c => ?_)
  · refine g_goto (pc := 675) X (tgt := 746) d_law_675 (by decide) ?_
    refine g_lv [(0, .ref b), (1, .ref da), (2, .ref a), (3, .ref oa), (4, .int (nI (6 * k)))] rfl ?_
    exact kk
  · refine g_aload_n (pc := 656) X (i := 3) d_law_656 rfl rfl ?_
    refine g_iconst (pc := 657) X (v := nI 0) d_law_657 (by decide) ?_
    refine g_lald (pc := 658) X 65 rfl 0 rfl (by decide) (by decide) d_law_658 ?_
    refine g_iload (pc := 659) X d_law_659 rfl ?_
    refine g_if_eq (pc := 661) X (tgt := 668) d_law_661 (by decide) (fun h_b => ?_) (fun h_b => ?_)
    · refine g_lconst (pc := 668) X (v := 0) d_law_668 (by decide) ?_
      refine g_lcmp (pc := 669) X d_law_669 ?_
      refine g_if_eq (pc := 670) X (tgt := 675) d_law_670 (by decide) (fun h_670 => ?_) (fun h_670 => absurd ((lg_cmp_eq _ _).mpr ((by rw [hq h_c]; first | rw [if_pos h_b] | rw [if_neg h_b]))) h_670)
      refine g_goto (pc := 675) X (tgt := 746) d_law_675 (by decide) ?_
      refine g_lv [(0, .ref b), (1, .ref da), (2, .ref a), (3, .ref oa), (4, .int (nI (6 * k)))] rfl ?_
      exact kk
    · refine g_lconst (pc := 664) X (v := 1) d_law_664 (by decide) ?_
      refine g_goto (pc := 665) X (tgt := 669) d_law_665 (by decide) ?_
      refine g_lcmp (pc := 669) X d_law_669 ?_
      refine g_if_eq (pc := 670) X (tgt := 675) d_law_670 (by decide) (fun h_670 => ?_) (fun h_670 => absurd ((lg_cmp_eq _ _).mpr ((by rw [hq h_c]; first | rw [if_pos h_b] | rw [if_neg h_b]))) h_670)
      refine g_goto (pc := 675) X (tgt := 746) d_law_675 (by decide) ?_
      refine g_lv [(0, .ref b), (1, .ref da), (2, .ref a), (3, .ref oa), (4, .int (nI (6 * k)))] rfl ?_
      exact kk

theorem body_8 {B : Bx} {M : Mx} {Q : State → Prop} (X : CX B M code 8 "SpongeDigestsLaw") (hR : m_R M = room_1) {b L : Nat} {xs : Nat → Int32} (hs : SCR M b L xs) (hL : L ≤ 3072) {da a oa : Nat} {q r : Nat → Nat} {C C2 : CS} {R R2 : RS} {ot ot2 : Nat → Int64} {k cd9 mc ms n1 n2 : Nat} {bv : Int32} {x1 x2 : Int32} (hx1 : xs (6 * k + 1) = x1) (hx2 : xs (6 * k + 2) = x2) (hk : 6 * k + 6 ≤ L) (hc : cd9 ≤ 2) (hn1 : n1 + mc ≤ (m_R M).cells) (hn2 : n2 + ms ≤ (m_R M).slots)
    (hA : CallS B M Q 692 [.ref oa, .int x2, .int x1, .ref da] (LW B da a oa q r C R ot) (LW B da a oa q r C2 R ot2) (.int (nI cd9)) mc ms) (hB : CallS B M Q 710 [.int x2, .int x1, .ref a] (LW B da a oa q r C2 R ot2) (LW B da a oa q r C2 R2 ot2) (.int bv) 0 0) (hcd : R2.cd = nI cd9) (hq : cd9 = 0 → ot2 0 = bv.toInt64)
    (kk : G B M 8 (n1 + mc) (n2 + ms) Q (LW B da a oa q r C2 R2 ot2) [(0, .ref b), (1, .ref da), (2, .ref a), (3, .ref oa), (4, .int (nI (6 * k)))] 746 []) : G B M 8 n1 n2 Q (LW B da a oa q r C R ot) [(0, .ref b), (1, .ref da), (2, .ref a), (3, .ref oa), (4, .int (nI (6 * k)))] 678 [] := by
  refine g_aload_n (pc := 678) X (i := 1) d_law_678 rfl rfl ?_
  refine g_aload_n (pc := 679) X (i := 0) d_law_679 rfl rfl ?_
  refine g_iload (pc := 680) X d_law_680 rfl ?_
  refine g_iconst (pc := 682) X (v := nI 1) d_law_682 (by decide) ?_
  refine g_iaddN (pc := 683) X (6 * k + 1) (by omega) d_law_683 ?_
  refine g_sld (pc := 684) X hs (6 * k + 1) rfl (by omega) (by omega) d_law_684 ?_
  refine g_seti x1 hx1 ?_
  refine g_aload_n (pc := 685) X (i := 0) d_law_685 rfl rfl ?_
  refine g_iload (pc := 686) X d_law_686 rfl ?_
  refine g_iconst (pc := 688) X (v := nI 2) d_law_688 (by decide) ?_
  refine g_iaddN (pc := 689) X (6 * k + 2) (by omega) d_law_689 ?_
  refine g_sld (pc := 690) X hs (6 * k + 2) rfl (by omega) (by omega) d_law_690 ?_
  refine g_seti x2 hx2 ?_
  refine g_aload_n (pc := 691) X (i := 3) d_law_691 rfl rfl ?_
  refine hA _ _ _ hn1 hn2 ?_
  refine g_istore (pc := 695) X d_law_695 (by decide) ?_
  refine g_lv [(0, .ref b), (1, .ref da), (2, .ref a), (3, .ref oa), (4, .int (nI (6 * k))), (5, .int (nI cd9))] rfl ?_
  refine g_aload_n (pc := 697) X (i := 2) d_law_697 rfl rfl ?_
  refine g_aload_n (pc := 698) X (i := 0) d_law_698 rfl rfl ?_
  refine g_iload (pc := 699) X d_law_699 rfl ?_
  refine g_iconst (pc := 701) X (v := nI 1) d_law_701 (by decide) ?_
  refine g_iaddN (pc := 702) X (6 * k + 1) (by omega) d_law_702 ?_
  refine g_sld (pc := 703) X hs (6 * k + 1) rfl (by omega) (by omega) d_law_703 ?_
  refine g_seti x1 hx1 ?_
  refine g_aload_n (pc := 704) X (i := 0) d_law_704 rfl rfl ?_
  refine g_iload (pc := 705) X d_law_705 rfl ?_
  refine g_iconst (pc := 707) X (v := nI 2) d_law_707 (by decide) ?_
  refine g_iaddN (pc := 708) X (6 * k + 2) (by omega) d_law_708 ?_
  refine g_sld (pc := 709) X hs (6 * k + 2) rfl (by omega) (by omega) d_law_709 ?_
  refine g_seti x2 hx2 ?_
  refine hB _ _ _ hn1 hn2 ?_
  refine g_istore (pc := 713) X d_law_713 (by decide) ?_
  refine g_lv [(0, .ref b), (1, .ref da), (2, .ref a), (3, .ref oa), (4, .int (nI (6 * k))), (5, .int (nI cd9)), (6, .int bv)] rfl ?_
  refine g_aload_n (pc := 715) X (i := 2) d_law_715 rfl rfl ?_
  refine g_callVi (pc := 716) (q0 := 38) X (c_O_thrown (m_l M) B a r R2.tp R2.kd R2.rt R2.fl R2.tt R2.cd) wd_893 wd_894 wd_895 wd_5 wd_896 hd_O_thrown [38] rfl rfl [a] (fun _ => rfl) rfl rfl rfl (by rw [hR]; decide) ⟨hn1, hn2⟩ rfl (Nat.le_of_ble_eq_true rfl) d_law_716 (fun r9 _ hr9 => ?_)
  subst hr9
  refine g_wsq (LW B da a oa q r C2 R2 ot2) rfl ?_
  refine g_seti (nI cd9) hcd ?_
  refine g_iload (pc := 719) X d_law_719 rfl ?_
  refine g_icmp_eqN (pc := 721) X (tgt := 726) d_law_721 (by decide) (by omega) (by omega) (fun h_721 => ?_) (fun h_721 => absurd h_721 (by omega))
  refine g_iload (pc := 726) X d_law_726 rfl ?_
  refine g_if_neN (pc := 728) X (tgt := 743) d_law_728 (by decide) (by omega) (fun h_c => ?_) (fun h_c => ?_)
  · refine g_goto (pc := 743) X (tgt := 746) d_law_743 (by decide) ?_
    refine g_lv [(0, .ref b), (1, .ref da), (2, .ref a), (3, .ref oa), (4, .int (nI (6 * k)))] rfl ?_
    exact kk
  · refine g_aload_n (pc := 731) X (i := 3) d_law_731 rfl rfl ?_
    refine g_iconst (pc := 732) X (v := nI 0) d_law_732 (by decide) ?_
    refine g_lald (pc := 733) X 65 rfl 0 rfl (by decide) (by decide) d_law_733 ?_
    refine g_iload (pc := 734) X d_law_734 rfl ?_
    refine g_i2l (pc := 736) X d_law_736 rfl ?_
    refine g_lcmp (pc := 737) X d_law_737 ?_
    refine g_if_eq (pc := 738) X (tgt := 743) d_law_738 (by decide) (fun h_738 => ?_) (fun h_738 => absurd ((lg_cmp_eq _ _).mpr (hq h_c)) h_738)
    refine g_goto (pc := 743) X (tgt := 746) d_law_743 (by decide) ?_
    refine g_lv [(0, .ref b), (1, .ref da), (2, .ref a), (3, .ref oa), (4, .int (nI (6 * k)))] rfl ?_
    exact kk
