/-! ===== THE LAW (4): its cases ===== -/
theorem l_wf {f : Nat → Int64} {st v : Int32} (h : st = 0) : w_f f st v 0 = v.toInt64 := by
  unfold w_f
  rw [if_pos h]
  unfold vp_updL
  rw [if_pos rfl]
set_option maxHeartbeats 4000000 in
theorem l_code {X : kX} {G1 G2 G0 : kG} {l : Launch} {cL : ClassId} {o h0 b L : Nat} {xs : Nat → Int32} (hfl : l.flags = flags0) (C : k_C X kT code R_law eS G0 7 l room_1) (Lc : l_C X G1 G2 cL h0) (ok : l_ok G1 G2 o h0) (hX : l_X X b L xs) {n1 n2 i : Nat} {K M : kM} {f : Nat → Int64} (R : s_R 2 6 6 K M) (hi : i + 6 ≤ L) (hL : L ≤ 3072) (hcs : n1 + 1 ≤ room_1.cells ∧ n2 + 6 ≤ room_1.slots) (k : ∀ (K' M' : kM) (f' : Nat → Int64), s_R 2 6 6 K' M' → q_W X (n1 + 1) (n2 + 6) 665 [(4, .int (nI i)), (3, .ref o), (2, .ref (G2.2.2 0 0)), (1, .ref (G1.2.2 0 0)), (0, .ref b)] [] (l_F G1 G2 cL o K' M' f')) : q_W X n1 n2 92 [(4, .int (nI i)), (3, .ref o), (2, .ref (G2.2.2 0 0)), (1, .ref (G1.2.2 0 0)), (0, .ref b)] [] (l_F G1 G2 cL o K M f) := by
  obtain ⟨R1, e1⟩ := R.qcod (xs (i + 1)) (xs (i + 2)) (xs (i + 3)) (xs (i + 4)) (xs (i + 5))
  refine q_aload_n C d_La_law_92 rfl ?_
  refine q_aload_n C d_La_law_93 rfl ?_
  refine q_iload C d_La_law_94 rfl ?_
  refine q_iconst C d_La_law_96 (v := 1) (by decide) ?_
  refine q_iadd C d_La_law_97 ?_
  refine l_sld C hX d_La_law_98 (j := i + 1) (nI_add i 1) (by omega) hL ?_
  refine q_aload_n C d_La_law_99 rfl ?_
  refine q_iload C d_La_law_100 rfl ?_
  refine q_iconst C d_La_law_102 (v := 2) (by decide) ?_
  refine q_iadd C d_La_law_103 ?_
  refine l_sld C hX d_La_law_104 (j := i + 2) (nI_add i 2) (by omega) hL ?_
  refine q_aload_n C d_La_law_105 rfl ?_
  refine q_iload C d_La_law_106 rfl ?_
  refine q_iconst C d_La_law_108 (v := 3) (by decide) ?_
  refine q_iadd C d_La_law_109 ?_
  refine l_sld C hX d_La_law_110 (j := i + 3) (nI_add i 3) (by omega) hL ?_
  refine q_aload_n C d_La_law_111 rfl ?_
  refine q_iload C d_La_law_112 rfl ?_
  refine q_iconst C d_La_law_114 (v := 4) (by decide) ?_
  refine q_iadd C d_La_law_115 ?_
  refine l_sld C hX d_La_law_116 (j := i + 4) (nI_add i 4) (by omega) hL ?_
  refine q_aload_n C d_La_law_117 rfl ?_
  refine q_iload C d_La_law_118 rfl ?_
  refine q_iconst C d_La_law_120 (v := 5) (by decide) ?_
  refine q_iadd C d_La_law_121 ?_
  refine l_sld C hX d_La_law_122 (j := i + 5) (nI_add i 5) (by omega) hL ?_
  refine l_callS C Lc ok (w_code l hfl G1 cL o h0 ok.1 _ _ R.I _ _ _ _ _) (kt2 23 rfl rfl) (kt2 21 rfl rfl) (kt1 0 rfl rfl) cv_La_code ⟨by decide +kernel, by decide +kernel⟩ (n := 6) (by decide +kernel) rfl rfl (Nat.le_of_ble_eq_true rfl) ⟨by decide, by decide⟩ hcs d_La_law_123 ?_
  refine q_istore C d_La_law_126 (by decide) ?_
  refine q_aload_n C d_La_law_128 rfl ?_
  refine q_aload_n C d_La_law_129 rfl ?_
  refine q_iload C d_La_law_130 rfl ?_
  refine q_iconst C d_La_law_132 (v := 1) (by decide) ?_
  refine q_iadd C d_La_law_133 ?_
  refine l_sld C hX d_La_law_134 (j := i + 1) (nI_add i 1) (by omega) hL ?_
  refine q_aload_n C d_La_law_135 rfl ?_
  refine q_iload C d_La_law_136 rfl ?_
  refine q_iconst C d_La_law_138 (v := 2) (by decide) ?_
  refine q_iadd C d_La_law_139 ?_
  refine l_sld C hX d_La_law_140 (j := i + 2) (nI_add i 2) (by omega) hL ?_
  refine q_aload_n C d_La_law_141 rfl ?_
  refine q_iload C d_La_law_142 rfl ?_
  refine q_iconst C d_La_law_144 (v := 3) (by decide) ?_
  refine q_iadd C d_La_law_145 ?_
  refine l_sld C hX d_La_law_146 (j := i + 3) (nI_add i 3) (by omega) hL ?_
  refine q_aload_n C d_La_law_147 rfl ?_
  refine q_iload C d_La_law_148 rfl ?_
  refine q_iconst C d_La_law_150 (v := 4) (by decide) ?_
  refine q_iadd C d_La_law_151 ?_
  refine l_sld C hX d_La_law_152 (j := i + 4) (nI_add i 4) (by omega) hL ?_
  refine q_aload_n C d_La_law_153 rfl ?_
  refine q_iload C d_La_law_154 rfl ?_
  refine q_iconst C d_La_law_156 (v := 5) (by decide) ?_
  refine q_iadd C d_La_law_157 ?_
  refine l_sld C hX d_La_law_158 (j := i + 5) (nI_add i 5) (by omega) hL ?_
  refine l_callM C Lc ok (c_Mo_code l G2 _ _ _ _ _ _ R.J) cs_La_51 cv_Mo_code om_0 (by decide) rfl rfl (Nat.le_of_ble_eq_true rfl) ⟨rfl, rfl⟩ ⟨by decide, by decide⟩ hcs d_La_law_159 ?_
  refine q_aload_n C d_La_law_162 rfl ?_
  refine l_callM C Lc ok (c_Mo_thrown l G2 _ R1.J) cs_La_52 cv_Mo_thrown om_0 (by decide) rfl rfl (Nat.le_of_ble_eq_true rfl) ⟨rfl, rfl⟩ ⟨by decide, by decide⟩ hcs d_La_law_163 ?_
  refine q_iload C d_La_law_166 rfl ?_
  refine q_icmp_eq C d_La_law_168 (tgt := 173) (by decide) (fun _ => ?_) (fun z => absurd e1 z)
  exact q_goto C d_La_law_173 (tgt := 665) (by decide) (q_loc [(4, .int (nI i)), (3, .ref o), (2, .ref (G2.2.2 0 0)), (1, .ref (G1.2.2 0 0)), (0, .ref b)] ⟨rfl, rfl, rfl, rfl, rfl, trivial⟩ (k _ _ _ R1))
set_option maxHeartbeats 4000000 in
theorem l_run {X : kX} {G1 G2 G0 : kG} {l : Launch} {cL : ClassId} {o h0 b L : Nat} {xs : Nat → Int32} (hfl : l.flags = flags0) (C : k_C X kT code R_law eS G0 7 l room_1) (Lc : l_C X G1 G2 cL h0) (ok : l_ok G1 G2 o h0) (hX : l_X X b L xs) {n1 n2 i : Nat} {K M : kM} {f : Nat → Int64} (R : s_R 2 6 6 K M) (hi : i + 6 ≤ L) (hL : L ≤ 3072) (hcs : n1 + 1 ≤ room_1.cells ∧ n2 + 6 ≤ room_1.slots) (k : ∀ (K' M' : kM) (f' : Nat → Int64), s_R 2 6 6 K' M' → q_W X (n1 + 1) (n2 + 6) 665 [(4, .int (nI i)), (3, .ref o), (2, .ref (G2.2.2 0 0)), (1, .ref (G1.2.2 0 0)), (0, .ref b)] [] (l_F G1 G2 cL o K' M' f')) : q_W X n1 n2 176 [(4, .int (nI i)), (3, .ref o), (2, .ref (G2.2.2 0 0)), (1, .ref (G1.2.2 0 0)), (0, .ref b)] [] (l_F G1 G2 cL o K M f) := by
  obtain ⟨R1, e1, e2⟩ := R.qrun (xs (i + 1))
  refine q_aload_n C d_La_law_176 rfl ?_
  refine q_aload_n C d_La_law_177 rfl ?_
  refine q_iload C d_La_law_178 rfl ?_
  refine q_iconst C d_La_law_180 (v := 1) (by decide) ?_
  refine q_iadd C d_La_law_181 ?_
  refine l_sld C hX d_La_law_182 (j := i + 1) (nI_add i 1) (by omega) hL ?_
  refine q_aload_n C d_La_law_183 rfl ?_
  refine l_callS C Lc ok (w_run l hfl G1 cL o h0 ok.1 _ _ R.I _) (kt2 109 rfl rfl) (kt2 107 rfl rfl) (kt1 0 rfl rfl) cv_La_run ⟨by decide +kernel, by decide +kernel⟩ (n := 3) (by decide +kernel) rfl rfl (Nat.le_of_ble_eq_true rfl) ⟨by decide, by decide⟩ hcs d_La_law_184 ?_
  refine q_istore C d_La_law_187 (by decide) ?_
  refine q_aload_n C d_La_law_189 rfl ?_
  refine q_aload_n C d_La_law_190 rfl ?_
  refine q_iload C d_La_law_191 rfl ?_
  refine q_iconst C d_La_law_193 (v := 1) (by decide) ?_
  refine q_iadd C d_La_law_194 ?_
  refine l_sld C hX d_La_law_195 (j := i + 1) (nI_add i 1) (by omega) hL ?_
  refine l_callM C Lc ok (c_Mo_run l G2 _ _ R.J s_J (fun _ h => h.step) ⟨ku_eq, _, R.thr⟩) cs_La_59 cv_Mo_run om_0 (by decide) rfl rfl (Nat.le_of_ble_eq_true rfl) ⟨rfl, rfl⟩ ⟨by decide, by decide⟩ hcs d_La_law_196 ?_
  refine q_istore C d_La_law_199 (by decide) ?_
  refine q_aload_n C d_La_law_201 rfl ?_
  refine l_callM C Lc ok (c_Mo_thrown l G2 _ R1.J) cs_La_52 cv_Mo_thrown om_0 (by decide) rfl rfl (Nat.le_of_ble_eq_true rfl) ⟨rfl, rfl⟩ ⟨by decide, by decide⟩ hcs d_La_law_202 ?_
  refine q_iload C d_La_law_205 rfl ?_
  refine q_icmp_eq C d_La_law_207 (tgt := 212) (by decide) (fun _ => ?_) (fun z => absurd e1 z)
  refine q_iload C d_La_law_212 rfl ?_
  refine q_if_ne C d_La_law_214 (tgt := 229) (by decide) (fun _ => q_goto C d_La_law_229 (tgt := 665) (by decide) (q_loc [(4, .int (nI i)), (3, .ref o), (2, .ref (G2.2.2 0 0)), (1, .ref (G1.2.2 0 0)), (0, .ref b)] ⟨rfl, rfl, rfl, rfl, rfl, trivial⟩ (k _ _ _ R1))) (fun z => ?_)
  refine q_aload_n C d_La_law_217 rfl ?_
  refine q_iconst C d_La_law_218 (v := 0) (by decide) ?_
  refine l_lald C Lc d_La_law_219 (x := (g_rnX K (xs (i + 1)).toNatClampNeg 0).toInt64) (l_wf z) ?_
  refine q_iload C d_La_law_220 rfl ?_
  refine q_i2l C d_La_law_222 ?_
  refine q_topl (congrArg Int32.toInt64 (e2 z).symm) ?_
  refine q_lcmp0 C d_La_law_223 ?_
  exact q_if_eq C d_La_law_224 (tgt := 229) (by decide) (fun _ => q_goto C d_La_law_229 (tgt := 665) (by decide) (q_loc [(4, .int (nI i)), (3, .ref o), (2, .ref (G2.2.2 0 0)), (1, .ref (G1.2.2 0 0)), (0, .ref b)] ⟨rfl, rfl, rfl, rfl, rfl, trivial⟩ (k _ _ _ R1))) (fun z => absurd rfl z)
set_option maxHeartbeats 4000000 in
theorem l_register {X : kX} {G1 G2 G0 : kG} {l : Launch} {cL : ClassId} {o h0 b L : Nat} {xs : Nat → Int32} (hfl : l.flags = flags0) (C : k_C X kT code R_law eS G0 7 l room_1) (Lc : l_C X G1 G2 cL h0) (ok : l_ok G1 G2 o h0) (hX : l_X X b L xs) {n1 n2 i : Nat} {K M : kM} {f : Nat → Int64} (R : s_R 2 6 6 K M) (hi : i + 6 ≤ L) (hL : L ≤ 3072) (hcs : n1 + 1 ≤ room_1.cells ∧ n2 + 6 ≤ room_1.slots) (k : ∀ (K' M' : kM) (f' : Nat → Int64), s_R 2 6 6 K' M' → q_W X (n1 + 1) (n2 + 6) 665 [(4, .int (nI i)), (3, .ref o), (2, .ref (G2.2.2 0 0)), (1, .ref (G1.2.2 0 0)), (0, .ref b)] [] (l_F G1 G2 cL o K' M' f')) : q_W X n1 n2 232 [(4, .int (nI i)), (3, .ref o), (2, .ref (G2.2.2 0 0)), (1, .ref (G1.2.2 0 0)), (0, .ref b)] [] (l_F G1 G2 cL o K M f) := by
  obtain ⟨R1, e1, e2⟩ := R.qreg (xs (i + 1)) (xs (i + 2))
  refine q_aload_n C d_La_law_232 rfl ?_
  refine q_aload_n C d_La_law_233 rfl ?_
  refine q_iload C d_La_law_234 rfl ?_
  refine q_iconst C d_La_law_236 (v := 1) (by decide) ?_
  refine q_iadd C d_La_law_237 ?_
  refine l_sld C hX d_La_law_238 (j := i + 1) (nI_add i 1) (by omega) hL ?_
  refine q_aload_n C d_La_law_239 rfl ?_
  refine q_iload C d_La_law_240 rfl ?_
  refine q_iconst C d_La_law_242 (v := 2) (by decide) ?_
  refine q_iadd C d_La_law_243 ?_
  refine l_sld C hX d_La_law_244 (j := i + 2) (nI_add i 2) (by omega) hL ?_
  refine q_aload_n C d_La_law_245 rfl ?_
  refine l_callS C Lc ok (w_register l hfl G1 cL o h0 ok.1 _ _ R.I _ _) (kt3 33 rfl rfl) (kt3 31 rfl rfl) (kt1 0 rfl rfl) cv_La_register ⟨by decide +kernel, by decide +kernel⟩ (n := 4) (by decide +kernel) rfl rfl (Nat.le_of_ble_eq_true rfl) ⟨by decide, by decide⟩ hcs d_La_law_246 ?_
  refine q_istore C d_La_law_249 (by decide) ?_
  refine q_aload_n C d_La_law_251 rfl ?_
  refine q_aload_n C d_La_law_252 rfl ?_
  refine q_iload C d_La_law_253 rfl ?_
  refine q_iconst C d_La_law_255 (v := 1) (by decide) ?_
  refine q_iadd C d_La_law_256 ?_
  refine l_sld C hX d_La_law_257 (j := i + 1) (nI_add i 1) (by omega) hL ?_
  refine q_aload_n C d_La_law_258 rfl ?_
  refine q_iload C d_La_law_259 rfl ?_
  refine q_iconst C d_La_law_261 (v := 2) (by decide) ?_
  refine q_iadd C d_La_law_262 ?_
  refine l_sld C hX d_La_law_263 (j := i + 2) (nI_add i 2) (by omega) hL ?_
  refine l_callM C Lc ok (c_Mo_register l G2 _ _ _ R.J) cs_La_63 cv_Mo_register om_0 (by decide) rfl rfl (Nat.le_of_ble_eq_true rfl) ⟨rfl, rfl⟩ ⟨by decide, by decide⟩ hcs d_La_law_264 ?_
  refine q_istore C d_La_law_267 (by decide) ?_
  refine q_aload_n C d_La_law_269 rfl ?_
  refine l_callM C Lc ok (c_Mo_thrown l G2 _ R1.J) cs_La_52 cv_Mo_thrown om_0 (by decide) rfl rfl (Nat.le_of_ble_eq_true rfl) ⟨rfl, rfl⟩ ⟨by decide, by decide⟩ hcs d_La_law_270 ?_
  refine q_iload C d_La_law_273 rfl ?_
  refine q_icmp_eq C d_La_law_275 (tgt := 280) (by decide) (fun _ => ?_) (fun z => absurd e1 z)
  refine q_iload C d_La_law_280 rfl ?_
  refine q_if_ne C d_La_law_282 (tgt := 297) (by decide) (fun _ => q_goto C d_La_law_297 (tgt := 665) (by decide) (q_loc [(4, .int (nI i)), (3, .ref o), (2, .ref (G2.2.2 0 0)), (1, .ref (G1.2.2 0 0)), (0, .ref b)] ⟨rfl, rfl, rfl, rfl, rfl, trivial⟩ (k _ _ _ R1))) (fun z => ?_)
  refine q_aload_n C d_La_law_285 rfl ?_
  refine q_iconst C d_La_law_286 (v := 0) (by decide) ?_
  refine l_lald C Lc d_La_law_287 (x := (K 8 (xs (i + 1)).toNatClampNeg (xs (i + 2)).toNatClampNeg).toInt64) (l_wf z) ?_
  refine q_iload C d_La_law_288 rfl ?_
  refine q_i2l C d_La_law_290 ?_
  refine q_topl (congrArg Int32.toInt64 (e2 z).symm) ?_
  refine q_lcmp0 C d_La_law_291 ?_
  exact q_if_eq C d_La_law_292 (tgt := 297) (by decide) (fun _ => q_goto C d_La_law_297 (tgt := 665) (by decide) (q_loc [(4, .int (nI i)), (3, .ref o), (2, .ref (G2.2.2 0 0)), (1, .ref (G1.2.2 0 0)), (0, .ref b)] ⟨rfl, rfl, rfl, rfl, rfl, trivial⟩ (k _ _ _ R1))) (fun z => absurd rfl z)
set_option maxHeartbeats 4000000 in
theorem l_told {X : kX} {G1 G2 G0 : kG} {l : Launch} {cL : ClassId} {o h0 b L : Nat} {xs : Nat → Int32} (hfl : l.flags = flags0) (C : k_C X kT code R_law eS G0 7 l room_1) (Lc : l_C X G1 G2 cL h0) (ok : l_ok G1 G2 o h0) (hX : l_X X b L xs) {n1 n2 i : Nat} {K M : kM} {f : Nat → Int64} (R : s_R 2 6 6 K M) (hi : i + 6 ≤ L) (hL : L ≤ 3072) (hcs : n1 + 1 ≤ room_1.cells ∧ n2 + 6 ≤ room_1.slots) (k : ∀ (K' M' : kM) (f' : Nat → Int64), s_R 2 6 6 K' M' → q_W X (n1 + 1) (n2 + 6) 665 [(4, .int (nI i)), (3, .ref o), (2, .ref (G2.2.2 0 0)), (1, .ref (G1.2.2 0 0)), (0, .ref b)] [] (l_F G1 G2 cL o K' M' f')) : q_W X n1 n2 300 [(4, .int (nI i)), (3, .ref o), (2, .ref (G2.2.2 0 0)), (1, .ref (G1.2.2 0 0)), (0, .ref b)] [] (l_F G1 G2 cL o K M f) := by
  obtain ⟨R1, e1, e2⟩ := R.qtol (xs (i + 1)) (xs (i + 2))
  refine q_aload_n C d_La_law_300 rfl ?_
  refine q_aload_n C d_La_law_301 rfl ?_
  refine q_iload C d_La_law_302 rfl ?_
  refine q_iconst C d_La_law_304 (v := 1) (by decide) ?_
  refine q_iadd C d_La_law_305 ?_
  refine l_sld C hX d_La_law_306 (j := i + 1) (nI_add i 1) (by omega) hL ?_
  refine q_aload_n C d_La_law_307 rfl ?_
  refine q_iload C d_La_law_308 rfl ?_
  refine q_iconst C d_La_law_310 (v := 2) (by decide) ?_
  refine q_iadd C d_La_law_311 ?_
  refine l_sld C hX d_La_law_312 (j := i + 2) (nI_add i 2) (by omega) hL ?_
  refine q_aload_n C d_La_law_313 rfl ?_
  refine l_callS C Lc ok (w_told l hfl G1 cL o h0 ok.1 _ _ R.I _ _) (kt3 61 rfl rfl) (kt3 59 rfl rfl) (kt1 0 rfl rfl) cv_La_told ⟨by decide +kernel, by decide +kernel⟩ (n := 4) (by decide +kernel) rfl rfl (Nat.le_of_ble_eq_true rfl) ⟨by decide, by decide⟩ hcs d_La_law_314 ?_
  refine q_istore C d_La_law_317 (by decide) ?_
  refine q_aload_n C d_La_law_319 rfl ?_
  refine q_aload_n C d_La_law_320 rfl ?_
  refine q_iload C d_La_law_321 rfl ?_
  refine q_iconst C d_La_law_323 (v := 1) (by decide) ?_
  refine q_iadd C d_La_law_324 ?_
  refine l_sld C hX d_La_law_325 (j := i + 1) (nI_add i 1) (by omega) hL ?_
  refine q_aload_n C d_La_law_326 rfl ?_
  refine q_iload C d_La_law_327 rfl ?_
  refine q_iconst C d_La_law_329 (v := 2) (by decide) ?_
  refine q_iadd C d_La_law_330 ?_
  refine l_sld C hX d_La_law_331 (j := i + 2) (nI_add i 2) (by omega) hL ?_
  refine l_callM C Lc ok (c_Mo_told l G2 _ _ _ R.J) cs_La_66 cv_Mo_told om_0 (by decide) rfl rfl (Nat.le_of_ble_eq_true rfl) ⟨rfl, rfl⟩ ⟨by decide, by decide⟩ hcs d_La_law_332 ?_
  refine q_istore C d_La_law_335 (by decide) ?_
  refine q_aload_n C d_La_law_337 rfl ?_
  refine l_callM C Lc ok (c_Mo_thrown l G2 _ R1.J) cs_La_52 cv_Mo_thrown om_0 (by decide) rfl rfl (Nat.le_of_ble_eq_true rfl) ⟨rfl, rfl⟩ ⟨by decide, by decide⟩ hcs d_La_law_338 ?_
  refine q_iload C d_La_law_341 rfl ?_
  refine q_icmp_eq C d_La_law_343 (tgt := 348) (by decide) (fun _ => ?_) (fun z => absurd e1 z)
  refine q_iload C d_La_law_348 rfl ?_
  refine q_if_ne C d_La_law_350 (tgt := 365) (by decide) (fun _ => q_goto C d_La_law_365 (tgt := 665) (by decide) (q_loc [(4, .int (nI i)), (3, .ref o), (2, .ref (G2.2.2 0 0)), (1, .ref (G1.2.2 0 0)), (0, .ref b)] ⟨rfl, rfl, rfl, rfl, rfl, trivial⟩ (k _ _ _ R1))) (fun z => ?_)
  refine q_aload_n C d_La_law_353 rfl ?_
  refine q_iconst C d_La_law_354 (v := 0) (by decide) ?_
  refine l_lald C Lc d_La_law_355 (x := (g_telX K (xs (i + 1)).toNatClampNeg (xs (i + 2))).toInt64) (l_wf z) ?_
  refine q_iload C d_La_law_356 rfl ?_
  refine q_i2l C d_La_law_358 ?_
  refine q_topl (congrArg Int32.toInt64 (e2 z).symm) ?_
  refine q_lcmp0 C d_La_law_359 ?_
  exact q_if_eq C d_La_law_360 (tgt := 365) (by decide) (fun _ => q_goto C d_La_law_365 (tgt := 665) (by decide) (q_loc [(4, .int (nI i)), (3, .ref o), (2, .ref (G2.2.2 0 0)), (1, .ref (G1.2.2 0 0)), (0, .ref b)] ⟨rfl, rfl, rfl, rfl, rfl, trivial⟩ (k _ _ _ R1))) (fun z => absurd rfl z)
set_option maxHeartbeats 4000000 in
theorem l_page {X : kX} {G1 G2 G0 : kG} {l : Launch} {cL : ClassId} {o h0 b L : Nat} {xs : Nat → Int32} (hfl : l.flags = flags0) (C : k_C X kT code R_law eS G0 7 l room_1) (Lc : l_C X G1 G2 cL h0) (ok : l_ok G1 G2 o h0) (hX : l_X X b L xs) {n1 n2 i : Nat} {K M : kM} {f : Nat → Int64} (R : s_R 2 6 6 K M) (hi : i + 6 ≤ L) (hL : L ≤ 3072) (hcs : n1 + 1 ≤ room_1.cells ∧ n2 + 6 ≤ room_1.slots) (k : ∀ (K' M' : kM) (f' : Nat → Int64), s_R 2 6 6 K' M' → q_W X (n1 + 1) (n2 + 6) 665 [(4, .int (nI i)), (3, .ref o), (2, .ref (G2.2.2 0 0)), (1, .ref (G1.2.2 0 0)), (0, .ref b)] [] (l_F G1 G2 cL o K' M' f')) : q_W X n1 n2 368 [(4, .int (nI i)), (3, .ref o), (2, .ref (G2.2.2 0 0)), (1, .ref (G1.2.2 0 0)), (0, .ref b)] [] (l_F G1 G2 cL o K M f) := by
  obtain ⟨R1, e1, e2⟩ := R.qpag (xs (i + 1)) (xs (i + 2))
  refine q_aload_n C d_La_law_368 rfl ?_
  refine q_aload_n C d_La_law_369 rfl ?_
  refine q_iload C d_La_law_370 rfl ?_
  refine q_iconst C d_La_law_372 (v := 1) (by decide) ?_
  refine q_iadd C d_La_law_373 ?_
  refine l_sld C hX d_La_law_374 (j := i + 1) (nI_add i 1) (by omega) hL ?_
  refine q_aload_n C d_La_law_375 rfl ?_
  refine q_iload C d_La_law_376 rfl ?_
  refine q_iconst C d_La_law_378 (v := 2) (by decide) ?_
  refine q_iadd C d_La_law_379 ?_
  refine l_sld C hX d_La_law_380 (j := i + 2) (nI_add i 2) (by omega) hL ?_
  refine q_aload_n C d_La_law_381 rfl ?_
  refine l_callS C Lc ok (w_page l hfl G1 cL o h0 ok.1 _ _ R.I _ _) (kt3 68 rfl rfl) (kt3 66 rfl rfl) (kt1 0 rfl rfl) cv_La_page ⟨by decide +kernel, by decide +kernel⟩ (n := 4) (by decide +kernel) rfl rfl (Nat.le_of_ble_eq_true rfl) ⟨by decide, by decide⟩ hcs d_La_law_382 ?_
  refine q_istore C d_La_law_385 (by decide) ?_
  refine q_aload_n C d_La_law_387 rfl ?_
  refine q_aload_n C d_La_law_388 rfl ?_
  refine q_iload C d_La_law_389 rfl ?_
  refine q_iconst C d_La_law_391 (v := 1) (by decide) ?_
  refine q_iadd C d_La_law_392 ?_
  refine l_sld C hX d_La_law_393 (j := i + 1) (nI_add i 1) (by omega) hL ?_
  refine q_aload_n C d_La_law_394 rfl ?_
  refine q_iload C d_La_law_395 rfl ?_
  refine q_iconst C d_La_law_397 (v := 2) (by decide) ?_
  refine q_iadd C d_La_law_398 ?_
  refine l_sld C hX d_La_law_399 (j := i + 2) (nI_add i 2) (by omega) hL ?_
  refine l_callM C Lc ok (c_Mo_page l G2 _ _ _ R.J) cs_La_69 cv_Mo_page om_0 (by decide) rfl rfl (Nat.le_of_ble_eq_true rfl) ⟨rfl, rfl⟩ ⟨by decide, by decide⟩ hcs d_La_law_400 ?_
  refine q_istore C d_La_law_403 (by decide) ?_
  refine q_aload_n C d_La_law_405 rfl ?_
  refine l_callM C Lc ok (c_Mo_thrown l G2 _ R1.J) cs_La_52 cv_Mo_thrown om_0 (by decide) rfl rfl (Nat.le_of_ble_eq_true rfl) ⟨rfl, rfl⟩ ⟨by decide, by decide⟩ hcs d_La_law_406 ?_
  refine q_iload C d_La_law_409 rfl ?_
  refine q_icmp_eq C d_La_law_411 (tgt := 416) (by decide) (fun _ => ?_) (fun z => absurd e1 z)
  refine q_iload C d_La_law_416 rfl ?_
  refine q_if_ne C d_La_law_418 (tgt := 433) (by decide) (fun _ => q_goto C d_La_law_433 (tgt := 665) (by decide) (q_loc [(4, .int (nI i)), (3, .ref o), (2, .ref (G2.2.2 0 0)), (1, .ref (G1.2.2 0 0)), (0, .ref b)] ⟨rfl, rfl, rfl, rfl, rfl, trivial⟩ (k _ _ _ R1))) (fun z => ?_)
  refine q_aload_n C d_La_law_421 rfl ?_
  refine q_iconst C d_La_law_422 (v := 0) (by decide) ?_
  refine l_lald C Lc d_La_law_423 (x := (K 9 (xs (i + 1)).toNatClampNeg (xs (i + 2)).toNatClampNeg).toInt64) (l_wf z) ?_
  refine q_iload C d_La_law_424 rfl ?_
  refine q_i2l C d_La_law_426 ?_
  refine q_topl (congrArg Int32.toInt64 (e2 z).symm) ?_
  refine q_lcmp0 C d_La_law_427 ?_
  exact q_if_eq C d_La_law_428 (tgt := 433) (by decide) (fun _ => q_goto C d_La_law_433 (tgt := 665) (by decide) (q_loc [(4, .int (nI i)), (3, .ref o), (2, .ref (G2.2.2 0 0)), (1, .ref (G1.2.2 0 0)), (0, .ref b)] ⟨rfl, rfl, rfl, rfl, rfl, trivial⟩ (k _ _ _ R1))) (fun z => absurd rfl z)
set_option maxHeartbeats 4000000 in
theorem l_memory {X : kX} {G1 G2 G0 : kG} {l : Launch} {cL : ClassId} {o h0 b L : Nat} {xs : Nat → Int32} (hfl : l.flags = flags0) (C : k_C X kT code R_law eS G0 7 l room_1) (Lc : l_C X G1 G2 cL h0) (ok : l_ok G1 G2 o h0) (hX : l_X X b L xs) {n1 n2 i : Nat} {K M : kM} {f : Nat → Int64} (R : s_R 2 6 6 K M) (hi : i + 6 ≤ L) (hL : L ≤ 3072) (hcs : n1 + 1 ≤ room_1.cells ∧ n2 + 6 ≤ room_1.slots) (k : ∀ (K' M' : kM) (f' : Nat → Int64), s_R 2 6 6 K' M' → q_W X (n1 + 1) (n2 + 6) 665 [(4, .int (nI i)), (3, .ref o), (2, .ref (G2.2.2 0 0)), (1, .ref (G1.2.2 0 0)), (0, .ref b)] [] (l_F G1 G2 cL o K' M' f')) : q_W X n1 n2 436 [(4, .int (nI i)), (3, .ref o), (2, .ref (G2.2.2 0 0)), (1, .ref (G1.2.2 0 0)), (0, .ref b)] [] (l_F G1 G2 cL o K M f) := by
  obtain ⟨R1, e1, e2⟩ := R.qmem (xs (i + 1)) (xs (i + 2))
  refine q_aload_n C d_La_law_436 rfl ?_
  refine q_aload_n C d_La_law_437 rfl ?_
  refine q_iload C d_La_law_438 rfl ?_
  refine q_iconst C d_La_law_440 (v := 1) (by decide) ?_
  refine q_iadd C d_La_law_441 ?_
  refine l_sld C hX d_La_law_442 (j := i + 1) (nI_add i 1) (by omega) hL ?_
  refine q_aload_n C d_La_law_443 rfl ?_
  refine q_iload C d_La_law_444 rfl ?_
  refine q_iconst C d_La_law_446 (v := 2) (by decide) ?_
  refine q_iadd C d_La_law_447 ?_
  refine l_sld C hX d_La_law_448 (j := i + 2) (nI_add i 2) (by omega) hL ?_
  refine q_aload_n C d_La_law_449 rfl ?_
  refine l_callS C Lc ok (w_memory l hfl G1 cL o h0 ok.1 _ _ R.I _ _) (kt3 75 rfl rfl) (kt3 73 rfl rfl) (kt1 0 rfl rfl) cv_La_memory ⟨by decide +kernel, by decide +kernel⟩ (n := 4) (by decide +kernel) rfl rfl (Nat.le_of_ble_eq_true rfl) ⟨by decide, by decide⟩ hcs d_La_law_450 ?_
  refine q_istore C d_La_law_453 (by decide) ?_
  refine q_aload_n C d_La_law_455 rfl ?_
  refine q_aload_n C d_La_law_456 rfl ?_
  refine q_iload C d_La_law_457 rfl ?_
  refine q_iconst C d_La_law_459 (v := 1) (by decide) ?_
  refine q_iadd C d_La_law_460 ?_
  refine l_sld C hX d_La_law_461 (j := i + 1) (nI_add i 1) (by omega) hL ?_
  refine q_aload_n C d_La_law_462 rfl ?_
  refine q_iload C d_La_law_463 rfl ?_
  refine q_iconst C d_La_law_465 (v := 2) (by decide) ?_
  refine q_iadd C d_La_law_466 ?_
  refine l_sld C hX d_La_law_467 (j := i + 2) (nI_add i 2) (by omega) hL ?_
  refine l_callM C Lc ok (c_Mo_memory l G2 _ _ _ R.J) cs_La_72 cv_Mo_memory om_0 (by decide) rfl rfl (Nat.le_of_ble_eq_true rfl) ⟨rfl, rfl⟩ ⟨by decide, by decide⟩ hcs d_La_law_468 ?_
  refine q_istore C d_La_law_471 (by decide) ?_
  refine q_aload_n C d_La_law_473 rfl ?_
  refine l_callM C Lc ok (c_Mo_thrown l G2 _ R1.J) cs_La_52 cv_Mo_thrown om_0 (by decide) rfl rfl (Nat.le_of_ble_eq_true rfl) ⟨rfl, rfl⟩ ⟨by decide, by decide⟩ hcs d_La_law_474 ?_
  refine q_iload C d_La_law_477 rfl ?_
  refine q_icmp_eq C d_La_law_479 (tgt := 484) (by decide) (fun _ => ?_) (fun z => absurd e1 z)
  refine q_iload C d_La_law_484 rfl ?_
  refine q_if_ne C d_La_law_486 (tgt := 501) (by decide) (fun _ => q_goto C d_La_law_501 (tgt := 665) (by decide) (q_loc [(4, .int (nI i)), (3, .ref o), (2, .ref (G2.2.2 0 0)), (1, .ref (G1.2.2 0 0)), (0, .ref b)] ⟨rfl, rfl, rfl, rfl, rfl, trivial⟩ (k _ _ _ R1))) (fun z => ?_)
  refine q_aload_n C d_La_law_489 rfl ?_
  refine q_iconst C d_La_law_490 (v := 0) (by decide) ?_
  refine l_lald C Lc d_La_law_491 (x := (g_read K (xs (i + 1)) (xs (i + 2))).toInt64) (l_wf z) ?_
  refine q_iload C d_La_law_492 rfl ?_
  refine q_i2l C d_La_law_494 ?_
  refine q_topl (congrArg Int32.toInt64 (e2 z).symm) ?_
  refine q_lcmp0 C d_La_law_495 ?_
  exact q_if_eq C d_La_law_496 (tgt := 501) (by decide) (fun _ => q_goto C d_La_law_501 (tgt := 665) (by decide) (q_loc [(4, .int (nI i)), (3, .ref o), (2, .ref (G2.2.2 0 0)), (1, .ref (G1.2.2 0 0)), (0, .ref b)] ⟨rfl, rfl, rfl, rfl, rfl, trivial⟩ (k _ _ _ R1))) (fun z => absurd rfl z)
set_option maxHeartbeats 4000000 in
theorem l_object {X : kX} {G1 G2 G0 : kG} {l : Launch} {cL : ClassId} {o h0 b L : Nat} {xs : Nat → Int32} (hfl : l.flags = flags0) (C : k_C X kT code R_law eS G0 7 l room_1) (Lc : l_C X G1 G2 cL h0) (ok : l_ok G1 G2 o h0) (hX : l_X X b L xs) {n1 n2 i : Nat} {K M : kM} {f : Nat → Int64} (R : s_R 2 6 6 K M) (hi : i + 6 ≤ L) (hL : L ≤ 3072) (hcs : n1 + 1 ≤ room_1.cells ∧ n2 + 6 ≤ room_1.slots) (k : ∀ (K' M' : kM) (f' : Nat → Int64), s_R 2 6 6 K' M' → q_W X (n1 + 1) (n2 + 6) 665 [(4, .int (nI i)), (3, .ref o), (2, .ref (G2.2.2 0 0)), (1, .ref (G1.2.2 0 0)), (0, .ref b)] [] (l_F G1 G2 cL o K' M' f')) : q_W X n1 n2 504 [(4, .int (nI i)), (3, .ref o), (2, .ref (G2.2.2 0 0)), (1, .ref (G1.2.2 0 0)), (0, .ref b)] [] (l_F G1 G2 cL o K M f) := by
  obtain ⟨R1, e1, e2⟩ := R.qobj (xs (i + 1)) (xs (i + 2))
  refine q_aload_n C d_La_law_504 rfl ?_
  refine q_aload_n C d_La_law_505 rfl ?_
  refine q_iload C d_La_law_506 rfl ?_
  refine q_iconst C d_La_law_508 (v := 1) (by decide) ?_
  refine q_iadd C d_La_law_509 ?_
  refine l_sld C hX d_La_law_510 (j := i + 1) (nI_add i 1) (by omega) hL ?_
  refine q_aload_n C d_La_law_511 rfl ?_
  refine q_iload C d_La_law_512 rfl ?_
  refine q_iconst C d_La_law_514 (v := 2) (by decide) ?_
  refine q_iadd C d_La_law_515 ?_
  refine l_sld C hX d_La_law_516 (j := i + 2) (nI_add i 2) (by omega) hL ?_
  refine q_aload_n C d_La_law_517 rfl ?_
  refine l_callS C Lc ok (w_object l hfl G1 cL o h0 ok.1 _ _ R.I _ _) (kt3 82 rfl rfl) (kt3 80 rfl rfl) (kt1 0 rfl rfl) cv_La_object ⟨by decide +kernel, by decide +kernel⟩ (n := 4) (by decide +kernel) rfl rfl (Nat.le_of_ble_eq_true rfl) ⟨by decide, by decide⟩ hcs d_La_law_518 ?_
  refine q_istore C d_La_law_521 (by decide) ?_
  refine q_aload_n C d_La_law_523 rfl ?_
  refine q_aload_n C d_La_law_524 rfl ?_
  refine q_iload C d_La_law_525 rfl ?_
  refine q_iconst C d_La_law_527 (v := 1) (by decide) ?_
  refine q_iadd C d_La_law_528 ?_
  refine l_sld C hX d_La_law_529 (j := i + 1) (nI_add i 1) (by omega) hL ?_
  refine q_aload_n C d_La_law_530 rfl ?_
  refine q_iload C d_La_law_531 rfl ?_
  refine q_iconst C d_La_law_533 (v := 2) (by decide) ?_
  refine q_iadd C d_La_law_534 ?_
  refine l_sld C hX d_La_law_535 (j := i + 2) (nI_add i 2) (by omega) hL ?_
  refine l_callM C Lc ok (c_Mo_object l G2 _ _ _ R.J) cs_La_75 cv_Mo_object om_0 (by decide) rfl rfl (Nat.le_of_ble_eq_true rfl) ⟨rfl, rfl⟩ ⟨by decide, by decide⟩ hcs d_La_law_536 ?_
  refine q_istore C d_La_law_539 (by decide) ?_
  refine q_aload_n C d_La_law_541 rfl ?_
  refine l_callM C Lc ok (c_Mo_thrown l G2 _ R1.J) cs_La_52 cv_Mo_thrown om_0 (by decide) rfl rfl (Nat.le_of_ble_eq_true rfl) ⟨rfl, rfl⟩ ⟨by decide, by decide⟩ hcs d_La_law_542 ?_
  refine q_iload C d_La_law_545 rfl ?_
  refine q_icmp_eq C d_La_law_547 (tgt := 552) (by decide) (fun _ => ?_) (fun z => absurd e1 z)
  refine q_iload C d_La_law_552 rfl ?_
  refine q_if_ne C d_La_law_554 (tgt := 569) (by decide) (fun _ => q_goto C d_La_law_569 (tgt := 665) (by decide) (q_loc [(4, .int (nI i)), (3, .ref o), (2, .ref (G2.2.2 0 0)), (1, .ref (G1.2.2 0 0)), (0, .ref b)] ⟨rfl, rfl, rfl, rfl, rfl, trivial⟩ (k _ _ _ R1))) (fun z => ?_)
  refine q_aload_n C d_La_law_557 rfl ?_
  refine q_iconst C d_La_law_558 (v := 0) (by decide) ?_
  refine l_lald C Lc d_La_law_559 (x := (g_objX K (xs (i + 1)).toNatClampNeg (xs (i + 2))).toInt64) (l_wf z) ?_
  refine q_iload C d_La_law_560 rfl ?_
  refine q_i2l C d_La_law_562 ?_
  refine q_topl (congrArg Int32.toInt64 (e2 z).symm) ?_
  refine q_lcmp0 C d_La_law_563 ?_
  exact q_if_eq C d_La_law_564 (tgt := 569) (by decide) (fun _ => q_goto C d_La_law_569 (tgt := 665) (by decide) (q_loc [(4, .int (nI i)), (3, .ref o), (2, .ref (G2.2.2 0 0)), (1, .ref (G1.2.2 0 0)), (0, .ref b)] ⟨rfl, rfl, rfl, rfl, rfl, trivial⟩ (k _ _ _ R1))) (fun z => absurd rfl z)
set_option maxHeartbeats 4000000 in
theorem l_written {X : kX} {G1 G2 G0 : kG} {l : Launch} {cL : ClassId} {o h0 b L : Nat} {xs : Nat → Int32} (hfl : l.flags = flags0) (C : k_C X kT code R_law eS G0 7 l room_1) (Lc : l_C X G1 G2 cL h0) (ok : l_ok G1 G2 o h0) (hX : l_X X b L xs) {n1 n2 i : Nat} {K M : kM} {f : Nat → Int64} (R : s_R 2 6 6 K M) (hi : i + 6 ≤ L) (hL : L ≤ 3072) (hcs : n1 + 1 ≤ room_1.cells ∧ n2 + 6 ≤ room_1.slots) (k : ∀ (K' M' : kM) (f' : Nat → Int64), s_R 2 6 6 K' M' → q_W X (n1 + 1) (n2 + 6) 665 [(4, .int (nI i)), (3, .ref o), (2, .ref (G2.2.2 0 0)), (1, .ref (G1.2.2 0 0)), (0, .ref b)] [] (l_F G1 G2 cL o K' M' f')) : q_W X n1 n2 572 [(4, .int (nI i)), (3, .ref o), (2, .ref (G2.2.2 0 0)), (1, .ref (G1.2.2 0 0)), (0, .ref b)] [] (l_F G1 G2 cL o K M f) := by
  obtain ⟨R1, e1, e2⟩ := R.qwri (xs (i + 1)) (xs (i + 2))
  refine q_aload_n C d_La_law_572 rfl ?_
  refine q_aload_n C d_La_law_573 rfl ?_
  refine q_iload C d_La_law_574 rfl ?_
  refine q_iconst C d_La_law_576 (v := 1) (by decide) ?_
  refine q_iadd C d_La_law_577 ?_
  refine l_sld C hX d_La_law_578 (j := i + 1) (nI_add i 1) (by omega) hL ?_
  refine q_aload_n C d_La_law_579 rfl ?_
  refine q_iload C d_La_law_580 rfl ?_
  refine q_iconst C d_La_law_582 (v := 2) (by decide) ?_
  refine q_iadd C d_La_law_583 ?_
  refine l_sld C hX d_La_law_584 (j := i + 2) (nI_add i 2) (by omega) hL ?_
  refine q_aload_n C d_La_law_585 rfl ?_
  refine l_callS C Lc ok (w_written l hfl G1 cL o h0 ok.1 _ _ R.I _ _) (kt3 89 rfl rfl) (kt3 87 rfl rfl) (kt1 0 rfl rfl) cv_La_written ⟨by decide +kernel, by decide +kernel⟩ (n := 4) (by decide +kernel) rfl rfl (Nat.le_of_ble_eq_true rfl) ⟨by decide, by decide⟩ hcs d_La_law_586 ?_
  refine q_istore C d_La_law_589 (by decide) ?_
  refine q_aload_n C d_La_law_591 rfl ?_
  refine q_aload_n C d_La_law_592 rfl ?_
  refine q_iload C d_La_law_593 rfl ?_
  refine q_iconst C d_La_law_595 (v := 1) (by decide) ?_
  refine q_iadd C d_La_law_596 ?_
  refine l_sld C hX d_La_law_597 (j := i + 1) (nI_add i 1) (by omega) hL ?_
  refine q_aload_n C d_La_law_598 rfl ?_
  refine q_iload C d_La_law_599 rfl ?_
  refine q_iconst C d_La_law_601 (v := 2) (by decide) ?_
  refine q_iadd C d_La_law_602 ?_
  refine l_sld C hX d_La_law_603 (j := i + 2) (nI_add i 2) (by omega) hL ?_
  refine l_callM C Lc ok (c_Mo_written l G2 _ _ _ R.J) cs_La_78 cv_Mo_written om_0 (by decide) rfl rfl (Nat.le_of_ble_eq_true rfl) ⟨rfl, rfl⟩ ⟨by decide, by decide⟩ hcs d_La_law_604 ?_
  refine q_istore C d_La_law_607 (by decide) ?_
  refine q_aload_n C d_La_law_609 rfl ?_
  refine l_callM C Lc ok (c_Mo_thrown l G2 _ R1.J) cs_La_52 cv_Mo_thrown om_0 (by decide) rfl rfl (Nat.le_of_ble_eq_true rfl) ⟨rfl, rfl⟩ ⟨by decide, by decide⟩ hcs d_La_law_610 ?_
  refine q_iload C d_La_law_613 rfl ?_
  refine q_icmp_eq C d_La_law_615 (tgt := 620) (by decide) (fun _ => ?_) (fun z => absurd e1 z)
  refine q_iload C d_La_law_620 rfl ?_
  refine q_if_ne C d_La_law_622 (tgt := 637) (by decide) (fun _ => q_goto C d_La_law_637 (tgt := 665) (by decide) (q_loc [(4, .int (nI i)), (3, .ref o), (2, .ref (G2.2.2 0 0)), (1, .ref (G1.2.2 0 0)), (0, .ref b)] ⟨rfl, rfl, rfl, rfl, rfl, trivial⟩ (k _ _ _ R1))) (fun z => ?_)
  refine q_aload_n C d_La_law_625 rfl ?_
  refine q_iconst C d_La_law_626 (v := 0) (by decide) ?_
  refine l_lald C Lc d_La_law_627 (x := (g_part K (xs (i + 1)) (xs (i + 2))).toInt64) (l_wf z) ?_
  refine q_iload C d_La_law_628 rfl ?_
  refine q_i2l C d_La_law_630 ?_
  refine q_topl (congrArg Int32.toInt64 (e2 z).symm) ?_
  refine q_lcmp0 C d_La_law_631 ?_
  exact q_if_eq C d_La_law_632 (tgt := 637) (by decide) (fun _ => q_goto C d_La_law_637 (tgt := 665) (by decide) (q_loc [(4, .int (nI i)), (3, .ref o), (2, .ref (G2.2.2 0 0)), (1, .ref (G1.2.2 0 0)), (0, .ref b)] ⟨rfl, rfl, rfl, rfl, rfl, trivial⟩ (k _ _ _ R1))) (fun z => absurd rfl z)
set_option maxHeartbeats 4000000 in
theorem l_count {X : kX} {G1 G2 G0 : kG} {l : Launch} {cL : ClassId} {o h0 b L : Nat} {xs : Nat → Int32} (hfl : l.flags = flags0) (C : k_C X kT code R_law eS G0 7 l room_1) (Lc : l_C X G1 G2 cL h0) (ok : l_ok G1 G2 o h0) (hX : l_X X b L xs) {n1 n2 i : Nat} {K M : kM} {f : Nat → Int64} (R : s_R 2 6 6 K M) (hi : i + 6 ≤ L) (hL : L ≤ 3072) (hcs : n1 + 1 ≤ room_1.cells ∧ n2 + 6 ≤ room_1.slots) (k : ∀ (K' M' : kM) (f' : Nat → Int64), s_R 2 6 6 K' M' → q_W X (n1 + 1) (n2 + 6) 665 [(4, .int (nI i)), (3, .ref o), (2, .ref (G2.2.2 0 0)), (1, .ref (G1.2.2 0 0)), (0, .ref b)] [] (l_F G1 G2 cL o K' M' f')) : q_W X n1 n2 640 [(4, .int (nI i)), (3, .ref o), (2, .ref (G2.2.2 0 0)), (1, .ref (G1.2.2 0 0)), (0, .ref b)] [] (l_F G1 G2 cL o K M f) := by
  obtain ⟨R1, e1⟩ := R.qcnt (xs (i + 1))
  refine q_wide (Nat.le_succ n1) (Nat.le_add_right n2 6) ?_
  refine q_aload_n C d_La_law_640 rfl ?_
  refine q_aload_n C d_La_law_641 rfl ?_
  refine q_iload C d_La_law_642 rfl ?_
  refine q_iconst C d_La_law_644 (v := 1) (by decide) ?_
  refine q_iadd C d_La_law_645 ?_
  refine l_sld C hX d_La_law_646 (j := i + 1) (nI_add i 1) (by omega) hL ?_
  refine l_callG C Lc ok (c_Ke_count l G1 _ _ R.I) cs_La_79 cv_Ke_count ob_0 (by decide) rfl rfl (Nat.le_of_ble_eq_true rfl) ⟨rfl, rfl⟩ ⟨by decide, by decide⟩ hcs d_La_law_647 ?_
  refine q_aload_n C d_La_law_650 rfl ?_
  refine q_aload_n C d_La_law_651 rfl ?_
  refine q_iload C d_La_law_652 rfl ?_
  refine q_iconst C d_La_law_654 (v := 1) (by decide) ?_
  refine q_iadd C d_La_law_655 ?_
  refine l_sld C hX d_La_law_656 (j := i + 1) (nI_add i 1) (by omega) hL ?_
  refine l_callM C Lc ok (c_Mo_count l G2 _ _ R.J) cs_La_82 cv_Mo_count om_0 (by decide) rfl rfl (Nat.le_of_ble_eq_true rfl) ⟨rfl, rfl⟩ ⟨by decide, by decide⟩ hcs d_La_law_657 ?_
  exact q_icmp_eq C d_La_law_660 (tgt := 665) (by decide) (fun _ => q_loc [(4, .int (nI i)), (3, .ref o), (2, .ref (G2.2.2 0 0)), (1, .ref (G1.2.2 0 0)), (0, .ref b)] ⟨rfl, rfl, rfl, rfl, rfl, trivial⟩ (k _ _ _ R1)) (fun z => absurd e1 z)
theorem l_and (x : Int32) : 0 ≤ (x &&& 15).toInt ∧ (x &&& 15).toInt < 16 := by
  have h1 : (x &&& 15).toInt = (x.toBitVec &&& 15#32).toInt := rfl
  have h2 : (x.toBitVec &&& 15#32).toNat < 16 := by
    rw [BitVec.toNat_and]
    exact Nat.lt_of_le_of_lt Nat.and_le_right (by decide)
  rw [h1, BitVec.toInt_eq_toNat_of_lt (by omega)]
  omega
theorem l_out {x : Int32} (h0 : ¬ x &&& 15 = 0) (h1 : ¬ x &&& 15 = 1) (h2 : ¬ x &&& 15 = 2) (h3 : ¬ x &&& 15 = 3) (h4 : ¬ x &&& 15 = 4) (h5 : ¬ x &&& 15 = 5) (h6 : ¬ x &&& 15 = 6) (h7 : ¬ x &&& 15 = 7) (h8 : ¬ x &&& 15 = 8) : (8 : Int) < (x &&& 15).toInt := by
  have a := l_and x
  refine Decidable.byContradiction fun z => ?_
  have q : ∀ n : Nat, n < 9 → ¬ (x &&& 15) = nI n := fun n hn => by
    have : n = 0 ∨ n = 1 ∨ n = 2 ∨ n = 3 ∨ n = 4 ∨ n = 5 ∨ n = 6 ∨ n = 7 ∨ n = 8 := by omega
    rcases this with rfl | rfl | rfl | rfl | rfl | rfl | rfl | rfl | rfl <;> assumption
  refine q (x &&& 15).toInt.toNat (by omega) (Int32.toInt_inj.mp ?_)
  rw [nI_toInt (by omega)]
  omega
set_option maxHeartbeats 4000000 in
theorem l_body {X : kX} {G1 G2 G0 : kG} {l : Launch} {cL : ClassId} {o h0 b L : Nat} {xs : Nat → Int32} (hfl : l.flags = flags0) (C : k_C X kT code R_law eS G0 7 l room_1) (Lc : l_C X G1 G2 cL h0) (ok : l_ok G1 G2 o h0) (hX : l_X X b L xs) {n1 n2 i : Nat} {K M : kM} {f : Nat → Int64} (R : s_R 2 6 6 K M) (hi : i + 6 ≤ L) (hL : L ≤ 3072) (hcs : n1 + 1 ≤ room_1.cells ∧ n2 + 6 ≤ room_1.slots) (k : ∀ (K' M' : kM) (f' : Nat → Int64), s_R 2 6 6 K' M' → q_W X (n1 + 1) (n2 + 6) 665 [(4, .int (nI i)), (3, .ref o), (2, .ref (G2.2.2 0 0)), (1, .ref (G1.2.2 0 0)), (0, .ref b)] [] (l_F G1 G2 cL o K' M' f')) : q_W X n1 n2 33 [(4, .int (nI i)), (3, .ref o), (2, .ref (G2.2.2 0 0)), (1, .ref (G1.2.2 0 0)), (0, .ref b)] [] (l_F G1 G2 cL o K M f) := by
  refine q_aload_n C d_La_law_33 rfl ?_
  refine q_iload C d_La_law_34 rfl ?_
  refine l_sld C hX d_La_law_36 (j := i) rfl (by omega) hL ?_
  refine q_bipush C d_La_law_37 (v := 15) (by decide) ?_
  refine q_iand C d_La_law_39 ?_
  by_cases v0 : xs i &&& 15 = 0
  · rw [v0]
    refine q_tabIn C d_La_law_40 (by decide) (by decide) (off := 52) (by decide) (tgt := 92) (by decide) ?_
    exact l_code hfl C Lc ok hX R hi hL hcs k
  by_cases v1 : xs i &&& 15 = 1
  · rw [v1]
    refine q_tabIn C d_La_law_40 (by decide) (by decide) (off := 136) (by decide) (tgt := 176) (by decide) ?_
    exact l_run hfl C Lc ok hX R hi hL hcs k
  by_cases v2 : xs i &&& 15 = 2
  · rw [v2]
    refine q_tabIn C d_La_law_40 (by decide) (by decide) (off := 192) (by decide) (tgt := 232) (by decide) ?_
    exact l_register hfl C Lc ok hX R hi hL hcs k
  by_cases v3 : xs i &&& 15 = 3
  · rw [v3]
    refine q_tabIn C d_La_law_40 (by decide) (by decide) (off := 260) (by decide) (tgt := 300) (by decide) ?_
    exact l_told hfl C Lc ok hX R hi hL hcs k
  by_cases v4 : xs i &&& 15 = 4
  · rw [v4]
    refine q_tabIn C d_La_law_40 (by decide) (by decide) (off := 328) (by decide) (tgt := 368) (by decide) ?_
    exact l_page hfl C Lc ok hX R hi hL hcs k
  by_cases v5 : xs i &&& 15 = 5
  · rw [v5]
    refine q_tabIn C d_La_law_40 (by decide) (by decide) (off := 396) (by decide) (tgt := 436) (by decide) ?_
    exact l_memory hfl C Lc ok hX R hi hL hcs k
  by_cases v6 : xs i &&& 15 = 6
  · rw [v6]
    refine q_tabIn C d_La_law_40 (by decide) (by decide) (off := 464) (by decide) (tgt := 504) (by decide) ?_
    exact l_object hfl C Lc ok hX R hi hL hcs k
  by_cases v7 : xs i &&& 15 = 7
  · rw [v7]
    refine q_tabIn C d_La_law_40 (by decide) (by decide) (off := 532) (by decide) (tgt := 572) (by decide) ?_
    exact l_written hfl C Lc ok hX R hi hL hcs k
  by_cases v8 : xs i &&& 15 = 8
  · rw [v8]
    refine q_tabIn C d_La_law_40 (by decide) (by decide) (off := 600) (by decide) (tgt := 640) (by decide) ?_
    exact l_count hfl C Lc ok hX R hi hL hcs k
  refine q_tabOut C d_La_law_40 (Or.inr (l_out v0 v1 v2 v3 v4 v5 v6 v7 v8)) (tgt := 665) (by decide) ?_
  exact q_wide (Nat.le_succ n1) (Nat.le_add_right n2 6) (k _ _ _ R)
theorem l_cmp {i L : Nat} (hi : i ≤ 4000) (hL : L ≤ 3072) : (nI L - 6 < nI i) ↔ L < i + 6 := by
  have e6 : (6 : Int32).toInt = 6 := by decide
  have eL := nI_toInt (n := L) (by omega)
  rw [Int32.lt_iff_toInt_lt, nI_toInt (by omega), s_is (by omega) (by omega) (by omega) (by omega), eL, e6]
  omega
set_option maxHeartbeats 4000000 in
theorem l_loop {X : kX} {G1 G2 G0 : kG} {l : Launch} {cL : ClassId} {o h0 b L : Nat} {xs : Nat → Int32} (hfl : l.flags = flags0) (C : k_C X kT code R_law eS G0 7 l room_1) (Lc : l_C X G1 G2 cL h0) (ok : l_ok G1 G2 o h0) (hX : l_X X b L xs) (hE : l_Ed X h0) (hL : L ≤ 3072) : ∀ (c : Nat) {n1 n2 i : Nat} {K M : kM} {f : Nat → Int64} (_ : s_R 2 6 6 K M) (_ : L < i + 6 + 6 * c) (_ : i ≤ 3078) (_ : n1 + c ≤ 643217 ∧ n2 + 6 * c ≤ 7166453), q_W X n1 n2 23 [(4, .int (nI i)), (3, .ref o), (2, .ref (G2.2.2 0 0)), (1, .ref (G1.2.2 0 0)), (0, .ref b)] [] (l_F G1 G2 cL o K M f) := by
  intro c
  induction c with
  | zero =>
    intro n1 n2 i K M f R hc hi hn
    refine q_iload C d_La_law_23 rfl ?_
    refine q_aload_n C d_La_law_25 rfl ?_
    refine l_slen C hX d_La_law_26 ?_
    refine q_bipush C d_La_law_27 (v := 6) (by decide) ?_
    refine q_isub C d_La_law_29 ?_
    refine q_icmp_gt C d_La_law_30 (tgt := 671) (by decide) (fun _ => ?_) (fun z => absurd ((l_cmp (by omega) hL).mpr (by omega)) z)
    refine q_iconst C d_La_law_671 (v := 1) (by decide) ?_
    exact l_end C hE d_La_law_672 (by omega) (by omega)
  | succ c ih =>
    intro n1 n2 i K M f R hc hi hn
    refine q_iload C d_La_law_23 rfl ?_
    refine q_aload_n C d_La_law_25 rfl ?_
    refine l_slen C hX d_La_law_26 ?_
    refine q_bipush C d_La_law_27 (v := 6) (by decide) ?_
    refine q_isub C d_La_law_29 ?_
    refine q_icmp_gt C d_La_law_30 (tgt := 671) (by decide) (fun _ => ?_) (fun z => ?_)
    · refine q_iconst C d_La_law_671 (v := 1) (by decide) ?_
      exact l_end C hE d_La_law_672 (by omega) (by omega)
    · have hi6 : i + 6 ≤ L := Nat.le_of_not_lt (fun y => z ((l_cmp (by omega) hL).mpr y))
      refine l_body hfl C Lc ok hX R hi6 hL ⟨?_, ?_⟩ (fun K' M' f' R' => ?_)
      · show n1 + 1 ≤ 643217
        omega
      · show n2 + 6 ≤ 7166453
        omega
      · refine q_iinc C d_La_law_665 (v := nI (i + 6)) rfl (nI_add i 6) (by decide) ?_
        refine q_goto C d_La_law_668 (tgt := 23) (by decide) ?_
        exact q_loc [(4, .int (nI (i + 6))), (3, .ref o), (2, .ref (G2.2.2 0 0)), (1, .ref (G1.2.2 0 0)), (0, .ref b)] ⟨rfl, rfl, rfl, rfl, rfl, trivial⟩ (ih R' (by omega) (by omega) ⟨by omega, by omega⟩)
