/-! the law: its calls -/
theorem lo_0 {Q : Int → xH → Prop} {H : xH} (hT : ttTI H) (hX : ttXX YY H) (hS : lwS H) {i : Int} (i0 : 0 ≤ i) (i7 : i + 7 ≤ H.2.2.1 (-1))  (hR : lwRR H) (hq : ∀ K, ttTI K → ttXX YY K → lwS K → K.2.2.1 (-1) = H.2.2.1 (-1) → lwRR K → xW 15 cdLaw Q (1615, lwL i, [], K)) : xW 15 cdLaw Q (22, lwL i, [], H) := by
  have hN : 210 ≤ (H.2.2.2.1 : Int) := by have := hT.1; omega
  refine q_al (i := 1) (x := 1) lp_22 rfl ?_
  refine la_i lp_23 lp_24 lp_25 lp_26 lp_27 hS i0 i7 (by decide) (by decide) ?_
  refine la_i lp_28 lp_29 lp_30 lp_31 lp_32 hS i0 i7 (by decide) (by decide) ?_
  refine la_i lp_33 lp_34 lp_35 lp_36 lp_37 hS i0 i7 (by decide) (by decide) ?_
  refine la_i lp_38 lp_39 lp_40 lp_41 lp_42 hS i0 i7 (by decide) (by decide) ?_
  refine la_i lp_43 lp_44 lp_45 lp_46 lp_47 hS i0 i7 (by decide) (by decide) ?_
  refine q_iv lp_48 rfl rfl (ttKc hT (a := 1) (κ := 11) (len := 0) ⟨rfl, rfl⟩ (by decide) (by decide)).1 ?_
  refine lz_feed1 (by decide) hT hX (fun r M mz ma mb MT MX MF => ?_)
  obtain ⟨mS, m7, mj⟩ := lwS_fr MF hS
  have n7 : i + 7 ≤ M.2.2.1 (-1) := by omega
  refine q_pp lp_49 ?_
  refine q_al (i := 2) (x := 183) lp_50 rfl ?_
  refine la_i lp_51 lp_52 lp_53 lp_54 lp_55 mS i0 n7 (by decide) (by decide) ?_
  refine la_i lp_56 lp_57 lp_58 lp_59 lp_60 mS i0 n7 (by decide) (by decide) ?_
  refine la_i lp_61 lp_62 lp_63 lp_64 lp_65 mS i0 n7 (by decide) (by decide) ?_
  refine la_i lp_66 lp_67 lp_68 lp_69 lp_70 mS i0 n7 (by decide) (by decide) ?_
  refine la_i lp_71 lp_72 lp_73 lp_74 lp_75 mS i0 n7 (by decide) (by decide) ?_
  simp only [mj]
  refine q_iv lp_76 rfl rfl (ttKc MT (a := 183) (κ := 12) (len := 0) ⟨rfl, rfl⟩ (by decide) (by decide)).1 ?_
  refine lz_feed2 (by decide) MT MX ⟨(hS.2.2 _ (by omega) (by omega)).1, Int.le_of_lt_add_one (hS.2.2 _ (by omega) (by omega)).2⟩ ⟨(hS.2.2 _ (by omega) (by omega)).1, Int.le_of_lt_add_one (hS.2.2 _ (by omega) (by omega)).2⟩ ⟨(hS.2.2 _ (by omega) (by omega)).1, Int.le_of_lt_add_one (hS.2.2 _ (by omega) (by omega)).2⟩ ⟨(hS.2.2 _ (by omega) (by omega)).1, Int.le_of_lt_add_one (hS.2.2 _ (by omega) (by omega)).2⟩ ⟨(hS.2.2 _ (by omega) (by omega)).1, Int.le_of_lt_add_one (hS.2.2 _ (by omega) (by omega)).2⟩ (fun r2 K kz ka kb KT KX KF => ?_)
  obtain ⟨kS, k7, -⟩ := lwS_fr KF mS
  have nM : 210 ≤ (M.2.2.2.1 : Int) := by have := MT.1; omega
  have kR : lwRR K := ⟨rr_feed hN hR.1 MF KF mz ma mb kz ka kb, lwR4_f KF nM (by decide) (by rw [fr_cl MF (a := 1) (j := 5) (by omega) (by decide)]; exact lwRO_5 hR.1) (lwR4_f MF hN (by decide) (lwRO_5 hR.1) hR.2)⟩
  refine q_pp lp_77 ?_
  refine q_go lp_78 ?_
  exact hq K KT KX kS (by omega) kR
theorem lo_1 {Q : Int → xH → Prop} {H : xH} (hT : ttTI H) (hX : ttXX YY H) (hS : lwS H) {i : Int} (i0 : 0 ≤ i) (i7 : i + 7 ≤ H.2.2.1 (-1))  (hR : lwRR H) (hq : ∀ K, ttTI K → ttXX YY K → lwS K → K.2.2.1 (-1) = H.2.2.1 (-1) → lwRR K → xW 15 cdLaw Q (1615, lwL i, [], K)) : xW 15 cdLaw Q (79, lwL i, [], H) := by
  have hN : 210 ≤ (H.2.2.2.1 : Int) := by have := hT.1; omega
  refine q_al (i := 1) (x := 1) lp_79 rfl ?_
  refine la_i lp_80 lp_81 lp_82 lp_83 lp_84 hS i0 i7 (by decide) (by decide) ?_
  refine q_iv lp_85 rfl rfl (ttKc hT (a := 1) (κ := 11) (len := 0) ⟨rfl, rfl⟩ (by decide) (by decide)).1 ?_
  refine lx_end1 (by decide) hT hX (hS.2.2 _ (by omega) (by omega)).1 (Int.le_of_lt_add_one (hS.2.2 _ (by omega) (by omega)).2) (fun r M Me Mz MT MX MF => ?_)
  obtain ⟨mS, m7, mj⟩ := lwS_fr MF hS
  have n7 : i + 7 ≤ M.2.2.1 (-1) := by omega
  refine q_pp lp_86 ?_
  refine q_al (i := 2) (x := 183) lp_87 rfl ?_
  refine la_i lp_88 lp_89 lp_90 lp_91 lp_92 mS i0 n7 (by decide) (by decide) ?_
  simp only [mj]
  refine q_iv lp_93 rfl rfl (ttKc MT (a := 183) (κ := 12) (len := 0) ⟨rfl, rfl⟩ (by decide) (by decide)).1 ?_
  refine lx_end2 (by decide) MT MX (hS.2.2 _ (by omega) (by omega)).1 (Int.le_of_lt_add_one (hS.2.2 _ (by omega) (by omega)).2) (fun r2 K Ke Kz KT KX KF => ?_)
  obtain ⟨kS, k7, -⟩ := lwS_fr KF mS
  have nM : 210 ≤ (M.2.2.2.1 : Int) := by have := MT.1; omega
  have kR : lwRR K := ⟨rr_end hN hR.1 MF KF Mz Kz, lwR4_f KF nM (by decide) (by rw [fr_cl MF (a := 1) (j := 5) (by omega) (by decide)]; exact lwRO_5 hR.1) (lwR4_f MF hN (by decide) (lwRO_5 hR.1) hR.2)⟩
  refine q_pp lp_94 ?_
  refine q_go lp_95 ?_
  exact hq K KT KX kS (by omega) kR
theorem lo_2 {Q : Int → xH → Prop} {H : xH} (hT : ttTI H) (hX : ttXX YY H) (hS : lwS H) {i : Int} (i0 : 0 ≤ i) (i7 : i + 7 ≤ H.2.2.1 (-1))  (hR : lwRR H) (hq : ∀ K, ttTI K → ttXX YY K → lwS K → K.2.2.1 (-1) = H.2.2.1 (-1) → lwRR K → xW 15 cdLaw Q (1615, lwL i, [], K)) : xW 15 cdLaw Q (96, lwL i, [], H) := by
  have hN : 210 ≤ (H.2.2.2.1 : Int) := by have := hT.1; omega
  refine q_al (i := 1) (x := 1) lp_96 rfl ?_
  refine q_iv lp_97 rfl rfl (ttKc hT (a := 1) (κ := 11) (len := 0) ⟨rfl, rfl⟩ (by decide) (by decide)).1 ?_
  refine lz_sky1 (by decide) hT hX hR.1 (fun r M T E b b2 hb hO hTx hE w1 h5 mO MT MX MF => ?_)
  obtain ⟨mS, m7, mj⟩ := lwS_fr MF hS
  have n7 : i + 7 ≤ M.2.2.1 (-1) := by omega
  refine q_pp lp_98 ?_
  refine q_al (i := 2) (x := 183) lp_99 rfl ?_
  refine q_iv lp_100 rfl rfl (ttKc MT (a := 183) (κ := 12) (len := 0) ⟨rfl, rfl⟩ (by decide) (by decide)).1 ?_
  refine lz_sky2 (by decide) MT MX hO ((fr_cl MF (a := 183) (j := 5) (by omega) (by decide)).trans hR.1.1.1.symm) (fun j j0 j1 => ((fr_no MF 187 (by omega) rfl (by decide)).trans (hR.1.1.2 j j0 j1).symm).trans (hTx j).symm) (fun r2 K E2 hE2 w2 k4 k5 KT KX KF => ?_)
  obtain ⟨kS, k7, -⟩ := lwS_fr KF mS
  rw [← zEnd_u hE hE2] at w2 k4
  obtain ⟨kR, eq⟩ := rs_sky hN hR hb h5 MT MF KF w1 mO w2 k4 k5
  refine q_pp lp_101 ?_
  refine q_go lp_102 ?_
  exact hq K KT KX kS (by omega) kR
theorem lo_3 {Q : Int → xH → Prop} {H : xH} (hT : ttTI H) (hX : ttXX YY H) (hS : lwS H) {i : Int} (i0 : 0 ≤ i) (i7 : i + 7 ≤ H.2.2.1 (-1))  (hR : lwRR H) (hq : ∀ K, ttTI K → ttXX YY K → lwS K → K.2.2.1 (-1) = H.2.2.1 (-1) → lwRR K → xW 15 cdLaw Q (1615, lwL i, [], K)) : xW 15 cdLaw Q (103, lwL i, [], H) := by
  have hN : 210 ≤ (H.2.2.2.1 : Int) := by have := hT.1; omega
  refine q_al (i := 1) (x := 1) lp_103 rfl ?_
  refine la_i lp_104 lp_105 lp_106 lp_107 lp_108 hS i0 i7 (by decide) (by decide) ?_
  refine q_iv lp_109 rfl rfl (ttKc hT (a := 1) (κ := 11) (len := 0) ⟨rfl, rfl⟩ (by decide) (by decide)).1 ?_
  refine (hc_36 m8.1.1.1.1.1.1.1.1) 15 (by decide) [(2, 1), (0, (H.1 (-1) (i + 1)))] H hT hX ⟨⟨rfl, ttPk_of rfl⟩, ⟨rfl, ttPi_of (hS.2.2 _ (by omega) (by omega)).1 (Int.le_of_lt_add_one (hS.2.2 _ (by omega) (by omega)).2)⟩, trivial⟩ (fun _ hq => absurd hq List.not_mem_nil) _ (fun rM M MT MX MF _ _ => ?_)
  obtain ⟨mS, m7, -⟩ := lwS_fr MF hS
  have n7 : i + 7 ≤ M.2.2.1 (-1) := by omega
  refine q_pp lp_110 ?_
  refine q_al (i := 2) (x := 183) lp_111 rfl ?_
  refine la_i lp_112 lp_113 lp_114 lp_115 lp_116 mS i0 n7 (by decide) (by decide) ?_
  refine q_iv lp_117 rfl rfl (ttKc MT (a := 183) (κ := 12) (len := 0) ⟨rfl, rfl⟩ (by decide) (by decide)).1 ?_
  refine (hc_130 m8.1.1.1.1.1.1.1.1) 15 (by decide) [(2, 183), (0, (M.1 (-1) (i + 1)))] M MT MX ⟨⟨rfl, ttPk_of rfl⟩, ⟨rfl, ttPi_of (mS.2.2 _ (by omega) (by omega)).1 (Int.le_of_lt_add_one (mS.2.2 _ (by omega) (by omega)).2)⟩, trivial⟩ (fun _ hq => absurd hq List.not_mem_nil) _ (fun rK K KT KX KF _ _ => ?_)
  refine q_pp lp_118 ?_
  refine q_go lp_119 ?_
  obtain ⟨kS, k7, -⟩ := lwS_fr KF mS
  exact hq K KT KX kS (by omega) (lwRR_fr hN MF KF (by decide) (by decide) hR)
theorem lo_4 {Q : Int → xH → Prop} {H : xH} (hT : ttTI H) (hX : ttXX YY H) (hS : lwS H) {i : Int} (i0 : 0 ≤ i) (i7 : i + 7 ≤ H.2.2.1 (-1))  (hR : lwRR H) (hq : ∀ K, ttTI K → ttXX YY K → lwS K → K.2.2.1 (-1) = H.2.2.1 (-1) → lwRR K → xW 15 cdLaw Q (1615, lwL i, [], K)) : xW 15 cdLaw Q (120, lwL i, [], H) := by
  have hN : 210 ≤ (H.2.2.2.1 : Int) := by have := hT.1; omega
  refine q_al (i := 1) (x := 1) lp_120 rfl ?_
  refine la_i lp_121 lp_122 lp_123 lp_124 lp_125 hS i0 i7 (by decide) (by decide) ?_
  refine la_b lp_126 lp_127 lp_128 lp_129 lp_130 lp_131 lp_132 lp_133 lp_134 rfl rfl hS i0 i7 (by decide) (by decide) ?_
  refine la_i lp_135 lp_136 lp_137 lp_138 lp_139 hS i0 i7 (by decide) (by decide) ?_
  refine la_b lp_140 lp_141 lp_142 lp_143 lp_144 lp_145 lp_146 lp_147 lp_148 rfl rfl hS i0 i7 (by decide) (by decide) ?_
  refine q_iv lp_149 rfl rfl (ttKc hT (a := 1) (κ := 11) (len := 0) ⟨rfl, rfl⟩ (by decide) (by decide)).1 ?_
  obtain ⟨⟨hh, hy⟩, h36, -⟩ := hR.2.1
  refine lx_per1 (by decide) hT (skB_2 (lwRO_5 hR.1)) (lwRO_W hR.1 (lwRO_5 hR.1)) rfl hy ?_
  refine q_al (i := 2) (x := 183) lp_150 rfl ?_
  refine la_i lp_151 lp_152 lp_153 lp_154 lp_155 hS i0 i7 (by decide) (by decide) ?_
  refine la_b lp_156 lp_157 lp_158 lp_159 lp_160 lp_161 lp_162 lp_163 lp_164 rfl rfl hS i0 i7 (by decide) (by decide) ?_
  refine la_i lp_165 lp_166 lp_167 lp_168 lp_169 hS i0 i7 (by decide) (by decide) ?_
  refine la_b lp_170 lp_171 lp_172 lp_173 lp_174 lp_175 lp_176 lp_177 lp_178 rfl rfl hS i0 i7 (by decide) (by decide) ?_
  refine q_iv lp_179 rfl rfl (ttKc hT (a := 183) (κ := 12) (len := 0) ⟨rfl, rfl⟩ (by decide) (by decide)).1 ?_
  refine lx_per2 (by decide) hT ?_
  refine q_i2 lp_180 (fun z => ?_) (fun z => ?_)
  · exact hq H hT hX hS rfl hR
  · exact absurd rfl z
theorem lo_5 {Q : Int → xH → Prop} {H : xH} (hT : ttTI H) (hX : ttXX YY H) (hS : lwS H) {i : Int} (i0 : 0 ≤ i) (i7 : i + 7 ≤ H.2.2.1 (-1))  (hR : lwRR H) (hq : ∀ K, ttTI K → ttXX YY K → lwS K → K.2.2.1 (-1) = H.2.2.1 (-1) → lwRR K → xW 15 cdLaw Q (1615, lwL i, [], K)) : xW 15 cdLaw Q (183, lwL i, [], H) := by
  have hN : 210 ≤ (H.2.2.2.1 : Int) := by have := hT.1; omega
  refine q_al (i := 1) (x := 1) lp_183 rfl ?_
  refine la_i lp_184 lp_185 lp_186 lp_187 lp_188 hS i0 i7 (by decide) (by decide) ?_
  refine la_b lp_189 lp_190 lp_191 lp_192 lp_193 lp_194 lp_195 lp_196 lp_197 rfl rfl hS i0 i7 (by decide) (by decide) ?_
  refine la_i lp_198 lp_199 lp_200 lp_201 lp_202 hS i0 i7 (by decide) (by decide) ?_
  refine la_b lp_203 lp_204 lp_205 lp_206 lp_207 lp_208 lp_209 lp_210 lp_211 rfl rfl hS i0 i7 (by decide) (by decide) ?_
  refine q_iv lp_212 rfl rfl (ttKc hT (a := 1) (κ := 11) (len := 0) ⟨rfl, rfl⟩ (by decide) (by decide)).1 ?_
  refine (hc_38 m8.1.1.1.1.1.1.1.1) 15 (by decide) [(2, 1), (0, (H.1 (-1) (i + 1))), (0, (yyBl (H.1 (-1) (i + 2)))), (0, (H.1 (-1) (i + 3))), (0, (yyBl (H.1 (-1) (i + 4))))] H hT hX ⟨⟨rfl, ttPk_of rfl⟩, ⟨rfl, ttPi_of (hS.2.2 _ (by omega) (by omega)).1 (Int.le_of_lt_add_one (hS.2.2 _ (by omega) (by omega)).2)⟩, ⟨rfl, ttPi_of (yyBl_in _).1 (yyBl_in _).2⟩, ⟨rfl, ttPi_of (hS.2.2 _ (by omega) (by omega)).1 (Int.le_of_lt_add_one (hS.2.2 _ (by omega) (by omega)).2)⟩, ⟨rfl, ttPi_of (yyBl_in _).1 (yyBl_in _).2⟩, trivial⟩ (fun _ hq => absurd hq List.not_mem_nil) _ (fun rM M MT MX MF _ _ => ?_)
  obtain ⟨mS, m7, -⟩ := lwS_fr MF hS
  have n7 : i + 7 ≤ M.2.2.1 (-1) := by omega
  refine q_pp lp_213 ?_
  refine q_al (i := 2) (x := 183) lp_214 rfl ?_
  refine la_i lp_215 lp_216 lp_217 lp_218 lp_219 mS i0 n7 (by decide) (by decide) ?_
  refine la_b lp_220 lp_221 lp_222 lp_223 lp_224 lp_225 lp_226 lp_227 lp_228 rfl rfl mS i0 n7 (by decide) (by decide) ?_
  refine la_i lp_229 lp_230 lp_231 lp_232 lp_233 mS i0 n7 (by decide) (by decide) ?_
  refine la_b lp_234 lp_235 lp_236 lp_237 lp_238 lp_239 lp_240 lp_241 lp_242 rfl rfl mS i0 n7 (by decide) (by decide) ?_
  refine q_iv lp_243 rfl rfl (ttKc MT (a := 183) (κ := 12) (len := 0) ⟨rfl, rfl⟩ (by decide) (by decide)).1 ?_
  refine (hc_133 m8.1.1.1.1.1.1.1.1) 15 (by decide) [(2, 183), (0, (M.1 (-1) (i + 1))), (0, (yyBl (M.1 (-1) (i + 2)))), (0, (M.1 (-1) (i + 3))), (0, (yyBl (M.1 (-1) (i + 4))))] M MT MX ⟨⟨rfl, ttPk_of rfl⟩, ⟨rfl, ttPi_of (mS.2.2 _ (by omega) (by omega)).1 (Int.le_of_lt_add_one (mS.2.2 _ (by omega) (by omega)).2)⟩, ⟨rfl, ttPi_of (yyBl_in _).1 (yyBl_in _).2⟩, ⟨rfl, ttPi_of (mS.2.2 _ (by omega) (by omega)).1 (Int.le_of_lt_add_one (mS.2.2 _ (by omega) (by omega)).2)⟩, ⟨rfl, ttPi_of (yyBl_in _).1 (yyBl_in _).2⟩, trivial⟩ (fun _ hq => absurd hq List.not_mem_nil) _ (fun rK K KT KX KF _ _ => ?_)
  refine q_pp lp_244 ?_
  refine q_go lp_245 ?_
  obtain ⟨kS, k7, -⟩ := lwS_fr KF mS
  exact hq K KT KX kS (by omega) (lwRR_fr hN MF KF (by decide) (by decide) hR)
theorem lo_6 {Q : Int → xH → Prop} {H : xH} (hT : ttTI H) (hX : ttXX YY H) (hS : lwS H) {i : Int} (i0 : 0 ≤ i) (i7 : i + 7 ≤ H.2.2.1 (-1))  (hR : lwRR H) (hq : ∀ K, ttTI K → ttXX YY K → lwS K → K.2.2.1 (-1) = H.2.2.1 (-1) → lwRR K → xW 15 cdLaw Q (1615, lwL i, [], K)) : xW 15 cdLaw Q (246, lwL i, [], H) := by
  have hN : 210 ≤ (H.2.2.2.1 : Int) := by have := hT.1; omega
  refine q_al (i := 1) (x := 1) lp_246 rfl ?_
  refine la_i lp_247 lp_248 lp_249 lp_250 lp_251 hS i0 i7 (by decide) (by decide) ?_
  refine la_b lp_252 lp_253 lp_254 lp_255 lp_256 lp_257 lp_258 lp_259 lp_260 rfl rfl hS i0 i7 (by decide) (by decide) ?_
  refine q_iv lp_261 rfl rfl (ttKc hT (a := 1) (κ := 11) (len := 0) ⟨rfl, rfl⟩ (by decide) (by decide)).1 ?_
  refine (hc_40 m8.1.1.1.1.1.1.1.1) 15 (by decide) [(2, 1), (0, (H.1 (-1) (i + 1))), (0, (yyBl (H.1 (-1) (i + 2))))] H hT hX ⟨⟨rfl, ttPk_of rfl⟩, ⟨rfl, ttPi_of (hS.2.2 _ (by omega) (by omega)).1 (Int.le_of_lt_add_one (hS.2.2 _ (by omega) (by omega)).2)⟩, ⟨rfl, ttPi_of (yyBl_in _).1 (yyBl_in _).2⟩, trivial⟩ (fun _ hq => absurd hq List.not_mem_nil) _ (fun rM M MT MX MF _ _ => ?_)
  obtain ⟨mS, m7, -⟩ := lwS_fr MF hS
  have n7 : i + 7 ≤ M.2.2.1 (-1) := by omega
  refine q_pp lp_262 ?_
  refine q_al (i := 2) (x := 183) lp_263 rfl ?_
  refine la_i lp_264 lp_265 lp_266 lp_267 lp_268 mS i0 n7 (by decide) (by decide) ?_
  refine la_b lp_269 lp_270 lp_271 lp_272 lp_273 lp_274 lp_275 lp_276 lp_277 rfl rfl mS i0 n7 (by decide) (by decide) ?_
  refine q_iv lp_278 rfl rfl (ttKc MT (a := 183) (κ := 12) (len := 0) ⟨rfl, rfl⟩ (by decide) (by decide)).1 ?_
  refine (hc_135 m8.1.1.1.1.1.1.1.1) 15 (by decide) [(2, 183), (0, (M.1 (-1) (i + 1))), (0, (yyBl (M.1 (-1) (i + 2))))] M MT MX ⟨⟨rfl, ttPk_of rfl⟩, ⟨rfl, ttPi_of (mS.2.2 _ (by omega) (by omega)).1 (Int.le_of_lt_add_one (mS.2.2 _ (by omega) (by omega)).2)⟩, ⟨rfl, ttPi_of (yyBl_in _).1 (yyBl_in _).2⟩, trivial⟩ (fun _ hq => absurd hq List.not_mem_nil) _ (fun rK K KT KX KF _ _ => ?_)
  refine q_pp lp_279 ?_
  refine q_go lp_280 ?_
  obtain ⟨kS, k7, -⟩ := lwS_fr KF mS
  exact hq K KT KX kS (by omega) (lwRR_fr hN MF KF (by decide) (by decide) hR)
theorem lo_7 {Q : Int → xH → Prop} {H : xH} (hT : ttTI H) (hX : ttXX YY H) (hS : lwS H) {i : Int} (i0 : 0 ≤ i) (i7 : i + 7 ≤ H.2.2.1 (-1))  (hR : lwRR H) (hq : ∀ K, ttTI K → ttXX YY K → lwS K → K.2.2.1 (-1) = H.2.2.1 (-1) → lwRR K → xW 15 cdLaw Q (1615, lwL i, [], K)) : xW 15 cdLaw Q (281, lwL i, [], H) := by
  have hN : 210 ≤ (H.2.2.2.1 : Int) := by have := hT.1; omega
  refine q_al (i := 1) (x := 1) lp_281 rfl ?_
  refine la_i lp_282 lp_283 lp_284 lp_285 lp_286 hS i0 i7 (by decide) (by decide) ?_
  refine q_iv lp_287 rfl rfl (ttKc hT (a := 1) (κ := 11) (len := 0) ⟨rfl, rfl⟩ (by decide) (by decide)).1 ?_
  refine (hc_43 m8.1.1.1.1.1.1.1.1) 15 (by decide) [(2, 1), (0, (H.1 (-1) (i + 1)))] H hT hX ⟨⟨rfl, ttPk_of rfl⟩, ⟨rfl, ttPi_of (hS.2.2 _ (by omega) (by omega)).1 (Int.le_of_lt_add_one (hS.2.2 _ (by omega) (by omega)).2)⟩, trivial⟩ (fun _ hq => absurd hq List.not_mem_nil) _ (fun rM M MT MX MF _ _ => ?_)
  obtain ⟨mS, m7, -⟩ := lwS_fr MF hS
  have n7 : i + 7 ≤ M.2.2.1 (-1) := by omega
  refine q_pp lp_288 ?_
  refine q_al (i := 2) (x := 183) lp_289 rfl ?_
  refine la_i lp_290 lp_291 lp_292 lp_293 lp_294 mS i0 n7 (by decide) (by decide) ?_
  refine q_iv lp_295 rfl rfl (ttKc MT (a := 183) (κ := 12) (len := 0) ⟨rfl, rfl⟩ (by decide) (by decide)).1 ?_
  refine (hc_138 m8.1.1.1.1.1.1.1.1) 15 (by decide) [(2, 183), (0, (M.1 (-1) (i + 1)))] M MT MX ⟨⟨rfl, ttPk_of rfl⟩, ⟨rfl, ttPi_of (mS.2.2 _ (by omega) (by omega)).1 (Int.le_of_lt_add_one (mS.2.2 _ (by omega) (by omega)).2)⟩, trivial⟩ (fun _ hq => absurd hq List.not_mem_nil) _ (fun rK K KT KX KF _ _ => ?_)
  refine q_pp lp_296 ?_
  refine q_go lp_297 ?_
  obtain ⟨kS, k7, -⟩ := lwS_fr KF mS
  exact hq K KT KX kS (by omega) (lwRR_fr hN MF KF (by decide) (by decide) hR)
theorem lo_8 {Q : Int → xH → Prop} {H : xH} (hT : ttTI H) (hX : ttXX YY H) (hS : lwS H) {i : Int} (i0 : 0 ≤ i) (i7 : i + 7 ≤ H.2.2.1 (-1))  (hR : lwRR H) (hq : ∀ K, ttTI K → ttXX YY K → lwS K → K.2.2.1 (-1) = H.2.2.1 (-1) → lwRR K → xW 15 cdLaw Q (1615, lwL i, [], K)) : xW 15 cdLaw Q (298, lwL i, [], H) := by
  have hN : 210 ≤ (H.2.2.2.1 : Int) := by have := hT.1; omega
  refine q_al (i := 1) (x := 1) lp_298 rfl ?_
  refine la_i lp_299 lp_300 lp_301 lp_302 lp_303 hS i0 i7 (by decide) (by decide) ?_
  refine la_i lp_304 lp_305 lp_306 lp_307 lp_308 hS i0 i7 (by decide) (by decide) ?_
  refine q_iv lp_309 rfl rfl (ttKc hT (a := 1) (κ := 11) (len := 0) ⟨rfl, rfl⟩ (by decide) (by decide)).1 ?_
  obtain ⟨⟨hh, hy⟩, h36, -⟩ := hR.2.1
  refine lz_sight1 (by decide) hT hX (skB_2 (lwRO_5 hR.1)) rfl (lwRO_W hR.1 (lwRO_5 hR.1)) hy h36 (hS.2.2 _ (by omega) (by omega)).1 (Int.le_of_lt_add_one (hS.2.2 _ (by omega) (by omega)).2) (hS.2.2 _ (by omega) (by omega)).1 (Int.le_of_lt_add_one (hS.2.2 _ (by omega) (by omega)).2) (fun r M Me Mq mO MT MX MF => ?_)
  obtain ⟨mS, m7, mj⟩ := lwS_fr MF hS
  have n7 : i + 7 ≤ M.2.2.1 (-1) := by omega
  refine q_pp lp_310 ?_
  refine q_al (i := 2) (x := 183) lp_311 rfl ?_
  refine la_i lp_312 lp_313 lp_314 lp_315 lp_316 mS i0 n7 (by decide) (by decide) ?_
  refine la_i lp_317 lp_318 lp_319 lp_320 lp_321 mS i0 n7 (by decide) (by decide) ?_
  simp only [mj]
  refine q_iv lp_322 rfl rfl (ttKc MT (a := 183) (κ := 12) (len := 0) ⟨rfl, rfl⟩ (by decide) (by decide)).1 ?_
  have e4 : M.1 184 = H.1 184 := funext (fun j => fr_no MF 184 (by omega) rfl (by decide))
  refine lz_sight2 (by decide) MT MX (hS.2.2 _ (by omega) (by omega)).1 (Int.le_of_lt_add_one (hS.2.2 _ (by omega) (by omega)).2) (hS.2.2 _ (by omega) (by omega)).1 (Int.le_of_lt_add_one (hS.2.2 _ (by omega) (by omega)).2) (fun r2 K Ke Kq KT KX KF => ?_)
  obtain ⟨kS, k7, -⟩ := lwS_fr KF mS
  rw [e4] at Ke Kq
  have kR : lwRR K := rs_sight hN hR rfl MT MF KF Mq mO (fun j => congrFun Kq j)
  refine q_pp lp_323 ?_
  refine q_go lp_324 ?_
  exact hq K KT KX kS (by omega) kR
theorem lo_9 {Q : Int → xH → Prop} {H : xH} (hT : ttTI H) (hX : ttXX YY H) (hS : lwS H) {i : Int} (i0 : 0 ≤ i) (i7 : i + 7 ≤ H.2.2.1 (-1))  (hR : lwRR H) (hq : ∀ K, ttTI K → ttXX YY K → lwS K → K.2.2.1 (-1) = H.2.2.1 (-1) → lwRR K → xW 15 cdLaw Q (1615, lwL i, [], K)) : xW 15 cdLaw Q (325, lwL i, [], H) := by
  have hN : 210 ≤ (H.2.2.2.1 : Int) := by have := hT.1; omega
  refine q_al (i := 1) (x := 1) lp_325 rfl ?_
  refine la_i lp_326 lp_327 lp_328 lp_329 lp_330 hS i0 i7 (by decide) (by decide) ?_
  refine q_iv lp_331 rfl rfl (ttKc hT (a := 1) (κ := 11) (len := 0) ⟨rfl, rfl⟩ (by decide) (by decide)).1 ?_
  obtain ⟨⟨hh, hy⟩, h36, -⟩ := hR.2.1
  refine lz_unsee1 (by decide) hT hX (skB_2 (lwRO_5 hR.1)) rfl (lwRO_W hR.1 (lwRO_5 hR.1)) hy h36 (hS.2.2 _ (by omega) (by omega)).1 (Int.le_of_lt_add_one (hS.2.2 _ (by omega) (by omega)).2) (fun r M Me Mq mO MT MX MF => ?_)
  obtain ⟨mS, m7, mj⟩ := lwS_fr MF hS
  have n7 : i + 7 ≤ M.2.2.1 (-1) := by omega
  refine q_pp lp_332 ?_
  refine q_al (i := 2) (x := 183) lp_333 rfl ?_
  refine la_i lp_334 lp_335 lp_336 lp_337 lp_338 mS i0 n7 (by decide) (by decide) ?_
  simp only [mj]
  refine q_iv lp_339 rfl rfl (ttKc MT (a := 183) (κ := 12) (len := 0) ⟨rfl, rfl⟩ (by decide) (by decide)).1 ?_
  have e4 : M.1 184 = H.1 184 := funext (fun j => fr_no MF 184 (by omega) rfl (by decide))
  refine lz_unsee2 (by decide) MT MX (hS.2.2 _ (by omega) (by omega)).1 (Int.le_of_lt_add_one (hS.2.2 _ (by omega) (by omega)).2) (fun r2 K Ke Kq KT KX KF => ?_)
  obtain ⟨kS, k7, -⟩ := lwS_fr KF mS
  rw [e4] at Ke Kq
  have kR : lwRR K := rs_unsee hN hR rfl MT MF KF Mq mO (fun j => congrFun Kq j)
  refine q_pp lp_340 ?_
  refine q_go lp_341 ?_
  exact hq K KT KX kS (by omega) kR
theorem lo_10 {Q : Int → xH → Prop} {H : xH} (hT : ttTI H) (hX : ttXX YY H) (hS : lwS H) {i : Int} (i0 : 0 ≤ i) (i7 : i + 7 ≤ H.2.2.1 (-1))  (hR : lwRR H) (hq : ∀ K, ttTI K → ttXX YY K → lwS K → K.2.2.1 (-1) = H.2.2.1 (-1) → lwRR K → xW 15 cdLaw Q (1615, lwL i, [], K)) : xW 15 cdLaw Q (342, lwL i, [], H) := by
  have hN : 210 ≤ (H.2.2.2.1 : Int) := by have := hT.1; omega
  refine q_al (i := 1) (x := 1) lp_342 rfl ?_
  refine la_i lp_343 lp_344 lp_345 lp_346 lp_347 hS i0 i7 (by decide) (by decide) ?_
  refine la_b lp_348 lp_349 lp_350 lp_351 lp_352 lp_353 lp_354 lp_355 lp_356 rfl rfl hS i0 i7 (by decide) (by decide) ?_
  refine q_iv lp_357 rfl rfl (ttKc hT (a := 1) (κ := 11) (len := 0) ⟨rfl, rfl⟩ (by decide) (by decide)).1 ?_
  refine (hc_47 m8.1.1.1.1.1.1.1.1) 15 (by decide) [(2, 1), (0, (H.1 (-1) (i + 1))), (0, (yyBl (H.1 (-1) (i + 2))))] H hT hX ⟨⟨rfl, ttPk_of rfl⟩, ⟨rfl, ttPi_of (hS.2.2 _ (by omega) (by omega)).1 (Int.le_of_lt_add_one (hS.2.2 _ (by omega) (by omega)).2)⟩, ⟨rfl, ttPi_of (yyBl_in _).1 (yyBl_in _).2⟩, trivial⟩ (fun _ hq => absurd hq List.not_mem_nil) _ (fun rM M MT MX MF _ _ => ?_)
  obtain ⟨mS, m7, -⟩ := lwS_fr MF hS
  have n7 : i + 7 ≤ M.2.2.1 (-1) := by omega
  refine q_pp lp_358 ?_
  refine q_al (i := 2) (x := 183) lp_359 rfl ?_
  refine la_i lp_360 lp_361 lp_362 lp_363 lp_364 mS i0 n7 (by decide) (by decide) ?_
  refine la_b lp_365 lp_366 lp_367 lp_368 lp_369 lp_370 lp_371 lp_372 lp_373 rfl rfl mS i0 n7 (by decide) (by decide) ?_
  refine q_iv lp_374 rfl rfl (ttKc MT (a := 183) (κ := 12) (len := 0) ⟨rfl, rfl⟩ (by decide) (by decide)).1 ?_
  refine (hc_140 m8.1.1.1.1.1.1.1.1) 15 (by decide) [(2, 183), (0, (M.1 (-1) (i + 1))), (0, (yyBl (M.1 (-1) (i + 2))))] M MT MX ⟨⟨rfl, ttPk_of rfl⟩, ⟨rfl, ttPi_of (mS.2.2 _ (by omega) (by omega)).1 (Int.le_of_lt_add_one (mS.2.2 _ (by omega) (by omega)).2)⟩, ⟨rfl, ttPi_of (yyBl_in _).1 (yyBl_in _).2⟩, trivial⟩ (fun _ hq => absurd hq List.not_mem_nil) _ (fun rK K KT KX KF _ _ => ?_)
  refine q_pp lp_375 ?_
  refine q_go lp_376 ?_
  obtain ⟨kS, k7, -⟩ := lwS_fr KF mS
  exact hq K KT KX kS (by omega) (lwRR_fr hN MF KF (by decide) (by decide) hR)
theorem lo_11 {Q : Int → xH → Prop} {H : xH} (hT : ttTI H) (hX : ttXX YY H) (hS : lwS H) {i : Int} (i0 : 0 ≤ i) (i7 : i + 7 ≤ H.2.2.1 (-1))  (hR : lwRR H) (hq : ∀ K, ttTI K → ttXX YY K → lwS K → K.2.2.1 (-1) = H.2.2.1 (-1) → lwRR K → xW 15 cdLaw Q (1615, lwL i, [], K)) : xW 15 cdLaw Q (377, lwL i, [], H) := by
  have hN : 210 ≤ (H.2.2.2.1 : Int) := by have := hT.1; omega
  refine q_al (i := 1) (x := 1) lp_377 rfl ?_
  refine la_i lp_378 lp_379 lp_380 lp_381 lp_382 hS i0 i7 (by decide) (by decide) ?_
  refine la_i lp_383 lp_384 lp_385 lp_386 lp_387 hS i0 i7 (by decide) (by decide) ?_
  refine la_i lp_388 lp_389 lp_390 lp_391 lp_392 hS i0 i7 (by decide) (by decide) ?_
  refine la_b lp_393 lp_394 lp_395 lp_396 lp_397 lp_398 lp_399 lp_400 lp_401 rfl rfl hS i0 i7 (by decide) (by decide) ?_
  refine q_iv lp_402 rfl rfl (ttKc hT (a := 1) (κ := 11) (len := 0) ⟨rfl, rfl⟩ (by decide) (by decide)).1 ?_
  refine (hc_52 m8.1.1.1.1.1.1.1.1) 15 (by decide) [(2, 1), (0, (H.1 (-1) (i + 1))), (0, (H.1 (-1) (i + 2))), (0, (H.1 (-1) (i + 3))), (0, (yyBl (H.1 (-1) (i + 4))))] H hT hX ⟨⟨rfl, ttPk_of rfl⟩, ⟨rfl, ttPi_of (hS.2.2 _ (by omega) (by omega)).1 (Int.le_of_lt_add_one (hS.2.2 _ (by omega) (by omega)).2)⟩, ⟨rfl, ttPi_of (hS.2.2 _ (by omega) (by omega)).1 (Int.le_of_lt_add_one (hS.2.2 _ (by omega) (by omega)).2)⟩, ⟨rfl, ttPi_of (hS.2.2 _ (by omega) (by omega)).1 (Int.le_of_lt_add_one (hS.2.2 _ (by omega) (by omega)).2)⟩, ⟨rfl, ttPi_of (yyBl_in _).1 (yyBl_in _).2⟩, trivial⟩ (fun _ hq => absurd hq List.not_mem_nil) _ (fun rM M MT MX MF _ _ => ?_)
  obtain ⟨mS, m7, -⟩ := lwS_fr MF hS
  have n7 : i + 7 ≤ M.2.2.1 (-1) := by omega
  refine q_pp lp_403 ?_
  refine q_al (i := 2) (x := 183) lp_404 rfl ?_
  refine la_i lp_405 lp_406 lp_407 lp_408 lp_409 mS i0 n7 (by decide) (by decide) ?_
  refine la_i lp_410 lp_411 lp_412 lp_413 lp_414 mS i0 n7 (by decide) (by decide) ?_
  refine la_i lp_415 lp_416 lp_417 lp_418 lp_419 mS i0 n7 (by decide) (by decide) ?_
  refine la_b lp_420 lp_421 lp_422 lp_423 lp_424 lp_425 lp_426 lp_427 lp_428 rfl rfl mS i0 n7 (by decide) (by decide) ?_
  refine q_iv lp_429 rfl rfl (ttKc MT (a := 183) (κ := 12) (len := 0) ⟨rfl, rfl⟩ (by decide) (by decide)).1 ?_
  refine (hc_212 m8.1.1) 15 (by decide) [(2, 183), (0, (M.1 (-1) (i + 1))), (0, (M.1 (-1) (i + 2))), (0, (M.1 (-1) (i + 3))), (0, (yyBl (M.1 (-1) (i + 4))))] M MT MX ⟨⟨rfl, ttPk_of rfl⟩, ⟨rfl, ttPi_of (mS.2.2 _ (by omega) (by omega)).1 (Int.le_of_lt_add_one (mS.2.2 _ (by omega) (by omega)).2)⟩, ⟨rfl, ttPi_of (mS.2.2 _ (by omega) (by omega)).1 (Int.le_of_lt_add_one (mS.2.2 _ (by omega) (by omega)).2)⟩, ⟨rfl, ttPi_of (mS.2.2 _ (by omega) (by omega)).1 (Int.le_of_lt_add_one (mS.2.2 _ (by omega) (by omega)).2)⟩, ⟨rfl, ttPi_of (yyBl_in _).1 (yyBl_in _).2⟩, trivial⟩ (fun _ hq => absurd hq List.not_mem_nil) _ (fun rK K KT KX KF _ _ => ?_)
  refine q_pp lp_430 ?_
  refine q_go lp_431 ?_
  obtain ⟨kS, k7, -⟩ := lwS_fr KF mS
  exact hq K KT KX kS (by omega) (lwRR_fr hN MF KF (by decide) (by decide) hR)
theorem lo_12 {Q : Int → xH → Prop} {H : xH} (hT : ttTI H) (hX : ttXX YY H) (hS : lwS H) {i : Int} (i0 : 0 ≤ i) (i7 : i + 7 ≤ H.2.2.1 (-1))  (hR : lwRR H) (hq : ∀ K, ttTI K → ttXX YY K → lwS K → K.2.2.1 (-1) = H.2.2.1 (-1) → lwRR K → xW 15 cdLaw Q (1615, lwL i, [], K)) : xW 15 cdLaw Q (432, lwL i, [], H) := by
  have hN : 210 ≤ (H.2.2.2.1 : Int) := by have := hT.1; omega
  refine q_al (i := 1) (x := 1) lp_432 rfl ?_
  refine la_i lp_433 lp_434 lp_435 lp_436 lp_437 hS i0 i7 (by decide) (by decide) ?_
  refine la_i lp_438 lp_439 lp_440 lp_441 lp_442 hS i0 i7 (by decide) (by decide) ?_
  refine la_b lp_443 lp_444 lp_445 lp_446 lp_447 lp_448 lp_449 lp_450 lp_451 rfl rfl hS i0 i7 (by decide) (by decide) ?_
  refine q_iv lp_452 rfl rfl (ttKc hT (a := 1) (κ := 11) (len := 0) ⟨rfl, rfl⟩ (by decide) (by decide)).1 ?_
  refine (hc_53 m8.1.1.1.1.1.1.1.1) 15 (by decide) [(2, 1), (0, (H.1 (-1) (i + 1))), (0, (H.1 (-1) (i + 2))), (0, (yyBl (H.1 (-1) (i + 3))))] H hT hX ⟨⟨rfl, ttPk_of rfl⟩, ⟨rfl, ttPi_of (hS.2.2 _ (by omega) (by omega)).1 (Int.le_of_lt_add_one (hS.2.2 _ (by omega) (by omega)).2)⟩, ⟨rfl, ttPi_of (hS.2.2 _ (by omega) (by omega)).1 (Int.le_of_lt_add_one (hS.2.2 _ (by omega) (by omega)).2)⟩, ⟨rfl, ttPi_of (yyBl_in _).1 (yyBl_in _).2⟩, trivial⟩ (fun _ hq => absurd hq List.not_mem_nil) _ (fun rM M MT MX MF _ _ => ?_)
  obtain ⟨mS, m7, -⟩ := lwS_fr MF hS
  have n7 : i + 7 ≤ M.2.2.1 (-1) := by omega
  refine q_pp lp_453 ?_
  refine q_al (i := 2) (x := 183) lp_454 rfl ?_
  refine la_i lp_455 lp_456 lp_457 lp_458 lp_459 mS i0 n7 (by decide) (by decide) ?_
  refine la_i lp_460 lp_461 lp_462 lp_463 lp_464 mS i0 n7 (by decide) (by decide) ?_
  refine la_b lp_465 lp_466 lp_467 lp_468 lp_469 lp_470 lp_471 lp_472 lp_473 rfl rfl mS i0 n7 (by decide) (by decide) ?_
  refine q_iv lp_474 rfl rfl (ttKc MT (a := 183) (κ := 12) (len := 0) ⟨rfl, rfl⟩ (by decide) (by decide)).1 ?_
  refine (hc_214 m8.1.1) 15 (by decide) [(2, 183), (0, (M.1 (-1) (i + 1))), (0, (M.1 (-1) (i + 2))), (0, (yyBl (M.1 (-1) (i + 3))))] M MT MX ⟨⟨rfl, ttPk_of rfl⟩, ⟨rfl, ttPi_of (mS.2.2 _ (by omega) (by omega)).1 (Int.le_of_lt_add_one (mS.2.2 _ (by omega) (by omega)).2)⟩, ⟨rfl, ttPi_of (mS.2.2 _ (by omega) (by omega)).1 (Int.le_of_lt_add_one (mS.2.2 _ (by omega) (by omega)).2)⟩, ⟨rfl, ttPi_of (yyBl_in _).1 (yyBl_in _).2⟩, trivial⟩ (fun _ hq => absurd hq List.not_mem_nil) _ (fun rK K KT KX KF _ _ => ?_)
  refine q_pp lp_475 ?_
  refine q_go lp_476 ?_
  obtain ⟨kS, k7, -⟩ := lwS_fr KF mS
  exact hq K KT KX kS (by omega) (lwRR_fr hN MF KF (by decide) (by decide) hR)
theorem lo_13 {Q : Int → xH → Prop} {H : xH} (hT : ttTI H) (hX : ttXX YY H) (hS : lwS H) {i : Int} (i0 : 0 ≤ i) (i7 : i + 7 ≤ H.2.2.1 (-1))  (hR : lwRR H) (hq : ∀ K, ttTI K → ttXX YY K → lwS K → K.2.2.1 (-1) = H.2.2.1 (-1) → lwRR K → xW 15 cdLaw Q (1615, lwL i, [], K)) : xW 15 cdLaw Q (477, lwL i, [], H) := by
  have hN : 210 ≤ (H.2.2.2.1 : Int) := by have := hT.1; omega
  refine q_al (i := 1) (x := 1) lp_477 rfl ?_
  refine la_i lp_478 lp_479 lp_480 lp_481 lp_482 hS i0 i7 (by decide) (by decide) ?_
  refine la_b lp_483 lp_484 lp_485 lp_486 lp_487 lp_488 lp_489 lp_490 lp_491 rfl rfl hS i0 i7 (by decide) (by decide) ?_
  refine q_iv lp_492 rfl rfl (ttKc hT (a := 1) (κ := 11) (len := 0) ⟨rfl, rfl⟩ (by decide) (by decide)).1 ?_
  refine (hc_54 m8.1.1.1.1.1.1.1.1) 15 (by decide) [(2, 1), (0, (H.1 (-1) (i + 1))), (0, (yyBl (H.1 (-1) (i + 2))))] H hT hX ⟨⟨rfl, ttPk_of rfl⟩, ⟨rfl, ttPi_of (hS.2.2 _ (by omega) (by omega)).1 (Int.le_of_lt_add_one (hS.2.2 _ (by omega) (by omega)).2)⟩, ⟨rfl, ttPi_of (yyBl_in _).1 (yyBl_in _).2⟩, trivial⟩ (fun _ hq => absurd hq List.not_mem_nil) _ (fun rM M MT MX MF _ _ => ?_)
  obtain ⟨mS, m7, -⟩ := lwS_fr MF hS
  have n7 : i + 7 ≤ M.2.2.1 (-1) := by omega
  refine q_pp lp_493 ?_
  refine q_al (i := 2) (x := 183) lp_494 rfl ?_
  refine la_i lp_495 lp_496 lp_497 lp_498 lp_499 mS i0 n7 (by decide) (by decide) ?_
  refine la_b lp_500 lp_501 lp_502 lp_503 lp_504 lp_505 lp_506 lp_507 lp_508 rfl rfl mS i0 n7 (by decide) (by decide) ?_
  refine q_iv lp_509 rfl rfl (ttKc MT (a := 183) (κ := 12) (len := 0) ⟨rfl, rfl⟩ (by decide) (by decide)).1 ?_
  refine (hc_215 m8.1.1) 15 (by decide) [(2, 183), (0, (M.1 (-1) (i + 1))), (0, (yyBl (M.1 (-1) (i + 2))))] M MT MX ⟨⟨rfl, ttPk_of rfl⟩, ⟨rfl, ttPi_of (mS.2.2 _ (by omega) (by omega)).1 (Int.le_of_lt_add_one (mS.2.2 _ (by omega) (by omega)).2)⟩, ⟨rfl, ttPi_of (yyBl_in _).1 (yyBl_in _).2⟩, trivial⟩ (fun _ hq => absurd hq List.not_mem_nil) _ (fun rK K KT KX KF _ _ => ?_)
  refine q_pp lp_510 ?_
  refine q_go lp_511 ?_
  obtain ⟨kS, k7, -⟩ := lwS_fr KF mS
  exact hq K KT KX kS (by omega) (lwRR_fr hN MF KF (by decide) (by decide) hR)
theorem lo_14 {Q : Int → xH → Prop} {H : xH} (hT : ttTI H) (hX : ttXX YY H) (hS : lwS H) {i : Int} (i0 : 0 ≤ i) (i7 : i + 7 ≤ H.2.2.1 (-1))  (hR : lwRR H) (hq : ∀ K, ttTI K → ttXX YY K → lwS K → K.2.2.1 (-1) = H.2.2.1 (-1) → lwRR K → xW 15 cdLaw Q (1615, lwL i, [], K)) : xW 15 cdLaw Q (512, lwL i, [], H) := by
  have hN : 210 ≤ (H.2.2.2.1 : Int) := by have := hT.1; omega
  refine q_al (i := 1) (x := 1) lp_512 rfl ?_
  refine la_i lp_513 lp_514 lp_515 lp_516 lp_517 hS i0 i7 (by decide) (by decide) ?_
  refine q_iv lp_518 rfl rfl (ttKc hT (a := 1) (κ := 11) (len := 0) ⟨rfl, rfl⟩ (by decide) (by decide)).1 ?_
  refine (hc_56 m8.1.1.1.1.1.1.1.1) 15 (by decide) [(2, 1), (0, (H.1 (-1) (i + 1)))] H hT hX ⟨⟨rfl, ttPk_of rfl⟩, ⟨rfl, ttPi_of (hS.2.2 _ (by omega) (by omega)).1 (Int.le_of_lt_add_one (hS.2.2 _ (by omega) (by omega)).2)⟩, trivial⟩ (fun _ hq => absurd hq List.not_mem_nil) _ (fun rM M MT MX MF _ _ => ?_)
  obtain ⟨mS, m7, -⟩ := lwS_fr MF hS
  have n7 : i + 7 ≤ M.2.2.1 (-1) := by omega
  refine q_pp lp_519 ?_
  refine q_al (i := 2) (x := 183) lp_520 rfl ?_
  refine la_i lp_521 lp_522 lp_523 lp_524 lp_525 mS i0 n7 (by decide) (by decide) ?_
  refine q_iv lp_526 rfl rfl (ttKc MT (a := 183) (κ := 12) (len := 0) ⟨rfl, rfl⟩ (by decide) (by decide)).1 ?_
  refine (hc_142 m8.1.1.1.1.1.1.1.1) 15 (by decide) [(2, 183), (0, (M.1 (-1) (i + 1)))] M MT MX ⟨⟨rfl, ttPk_of rfl⟩, ⟨rfl, ttPi_of (mS.2.2 _ (by omega) (by omega)).1 (Int.le_of_lt_add_one (mS.2.2 _ (by omega) (by omega)).2)⟩, trivial⟩ (fun _ hq => absurd hq List.not_mem_nil) _ (fun rK K KT KX KF _ _ => ?_)
  refine q_pp lp_527 ?_
  refine q_go lp_528 ?_
  obtain ⟨kS, k7, -⟩ := lwS_fr KF mS
  exact hq K KT KX kS (by omega) (lwRR_fr hN MF KF (by decide) (by decide) hR)
theorem lo_15 {Q : Int → xH → Prop} {H : xH} (hT : ttTI H) (hX : ttXX YY H) (hS : lwS H) {i : Int} (i0 : 0 ≤ i) (i7 : i + 7 ≤ H.2.2.1 (-1))  (hR : lwRR H) (hq : ∀ K, ttTI K → ttXX YY K → lwS K → K.2.2.1 (-1) = H.2.2.1 (-1) → lwRR K → xW 15 cdLaw Q (1615, lwL i, [], K)) : xW 15 cdLaw Q (529, lwL i, [], H) := by
  have hN : 210 ≤ (H.2.2.2.1 : Int) := by have := hT.1; omega
  refine q_al (i := 1) (x := 1) lp_529 rfl ?_
  refine la_i lp_530 lp_531 lp_532 lp_533 lp_534 hS i0 i7 (by decide) (by decide) ?_
  refine q_iv lp_535 rfl rfl (ttKc hT (a := 1) (κ := 11) (len := 0) ⟨rfl, rfl⟩ (by decide) (by decide)).1 ?_
  refine (hc_57 m8.1.1.1.1.1.1.1.1) 15 (by decide) [(2, 1), (0, (H.1 (-1) (i + 1)))] H hT hX ⟨⟨rfl, ttPk_of rfl⟩, ⟨rfl, ttPi_of (hS.2.2 _ (by omega) (by omega)).1 (Int.le_of_lt_add_one (hS.2.2 _ (by omega) (by omega)).2)⟩, trivial⟩ (fun _ hq => absurd hq List.not_mem_nil) _ (fun rM M MT MX MF _ _ => ?_)
  obtain ⟨mS, m7, -⟩ := lwS_fr MF hS
  have n7 : i + 7 ≤ M.2.2.1 (-1) := by omega
  refine q_pp lp_536 ?_
  refine q_al (i := 2) (x := 183) lp_537 rfl ?_
  refine la_i lp_538 lp_539 lp_540 lp_541 lp_542 mS i0 n7 (by decide) (by decide) ?_
  refine q_iv lp_543 rfl rfl (ttKc MT (a := 183) (κ := 12) (len := 0) ⟨rfl, rfl⟩ (by decide) (by decide)).1 ?_
  refine (hc_143 m8.1.1.1.1.1.1.1.1) 15 (by decide) [(2, 183), (0, (M.1 (-1) (i + 1)))] M MT MX ⟨⟨rfl, ttPk_of rfl⟩, ⟨rfl, ttPi_of (mS.2.2 _ (by omega) (by omega)).1 (Int.le_of_lt_add_one (mS.2.2 _ (by omega) (by omega)).2)⟩, trivial⟩ (fun _ hq => absurd hq List.not_mem_nil) _ (fun rK K KT KX KF _ _ => ?_)
  refine q_pp lp_544 ?_
  refine q_go lp_545 ?_
  obtain ⟨kS, k7, -⟩ := lwS_fr KF mS
  exact hq K KT KX kS (by omega) (lwRR_fr hN MF KF (by decide) (by decide) hR)
theorem lo_16 {Q : Int → xH → Prop} {H : xH} (hT : ttTI H) (hX : ttXX YY H) (hS : lwS H) {i : Int} (i0 : 0 ≤ i) (i7 : i + 7 ≤ H.2.2.1 (-1))  (hR : lwRR H) (hq : ∀ K, ttTI K → ttXX YY K → lwS K → K.2.2.1 (-1) = H.2.2.1 (-1) → lwRR K → xW 15 cdLaw Q (1615, lwL i, [], K)) : xW 15 cdLaw Q (546, lwL i, [], H) := by
  have hN : 210 ≤ (H.2.2.2.1 : Int) := by have := hT.1; omega
  refine q_al (i := 1) (x := 1) lp_546 rfl ?_
  refine q_iv lp_547 rfl rfl (ttKc hT (a := 1) (κ := 11) (len := 0) ⟨rfl, rfl⟩ (by decide) (by decide)).1 ?_
  refine (hc_59 m8.1.1.1.1.1.1.1.1) 15 (by decide) [(2, 1)] H hT hX ⟨⟨rfl, ttPk_of rfl⟩, trivial⟩ (fun _ hq => absurd hq List.not_mem_nil) _ (fun rM M MT MX MF _ _ => ?_)
  obtain ⟨mS, m7, -⟩ := lwS_fr MF hS
  have n7 : i + 7 ≤ M.2.2.1 (-1) := by omega
  refine q_pp lp_548 ?_
  refine q_al (i := 2) (x := 183) lp_549 rfl ?_
  refine q_iv lp_550 rfl rfl (ttKc MT (a := 183) (κ := 12) (len := 0) ⟨rfl, rfl⟩ (by decide) (by decide)).1 ?_
  refine (hc_144 m8.1.1.1.1.1.1.1.1) 15 (by decide) [(2, 183)] M MT MX ⟨⟨rfl, ttPk_of rfl⟩, trivial⟩ (fun _ hq => absurd hq List.not_mem_nil) _ (fun rK K KT KX KF _ _ => ?_)
  refine q_pp lp_551 ?_
  refine q_go lp_552 ?_
  obtain ⟨kS, k7, -⟩ := lwS_fr KF mS
  exact hq K KT KX kS (by omega) (lwRR_fr hN MF KF (by decide) (by decide) hR)
theorem lo_17 {Q : Int → xH → Prop} {H : xH} (hT : ttTI H) (hX : ttXX YY H) (hS : lwS H) {i : Int} (i0 : 0 ≤ i) (i7 : i + 7 ≤ H.2.2.1 (-1))  (hR : lwRR H) (hq : ∀ K, ttTI K → ttXX YY K → lwS K → K.2.2.1 (-1) = H.2.2.1 (-1) → lwRR K → xW 15 cdLaw Q (1615, lwL i, [], K)) : xW 15 cdLaw Q (553, lwL i, [], H) := by
  have hN : 210 ≤ (H.2.2.2.1 : Int) := by have := hT.1; omega
  refine q_al (i := 1) (x := 1) lp_553 rfl ?_
  refine la_i lp_554 lp_555 lp_556 lp_557 lp_558 hS i0 i7 (by decide) (by decide) ?_
  refine la_i lp_559 lp_560 lp_561 lp_562 lp_563 hS i0 i7 (by decide) (by decide) ?_
  refine la_i lp_564 lp_565 lp_566 lp_567 lp_568 hS i0 i7 (by decide) (by decide) ?_
  refine la_i lp_569 lp_570 lp_571 lp_572 lp_573 hS i0 i7 (by decide) (by decide) ?_
  refine la_b lp_574 lp_575 lp_576 lp_577 lp_578 lp_579 lp_580 lp_581 lp_582 rfl rfl hS i0 i7 (by decide) (by decide) ?_
  refine la_b lp_583 lp_584 lp_585 lp_586 lp_587 lp_588 lp_589 lp_590 lp_591 rfl rfl hS i0 i7 (by decide) (by decide) ?_
  refine q_iv lp_592 rfl rfl (ttKc hT (a := 1) (κ := 11) (len := 0) ⟨rfl, rfl⟩ (by decide) (by decide)).1 ?_
  refine (hc_184 m8.1.1.1.1.1.1) 15 (by decide) [(2, 1), (0, (H.1 (-1) (i + 1))), (0, (H.1 (-1) (i + 2))), (0, (H.1 (-1) (i + 3))), (0, (H.1 (-1) (i + 4))), (0, (yyBl (H.1 (-1) (i + 5)))), (0, (yyBl (H.1 (-1) (i + 6))))] H hT hX ⟨⟨rfl, ttPk_of rfl⟩, ⟨rfl, ttPi_of (hS.2.2 _ (by omega) (by omega)).1 (Int.le_of_lt_add_one (hS.2.2 _ (by omega) (by omega)).2)⟩, ⟨rfl, ttPi_of (hS.2.2 _ (by omega) (by omega)).1 (Int.le_of_lt_add_one (hS.2.2 _ (by omega) (by omega)).2)⟩, ⟨rfl, ttPi_of (hS.2.2 _ (by omega) (by omega)).1 (Int.le_of_lt_add_one (hS.2.2 _ (by omega) (by omega)).2)⟩, ⟨rfl, ttPi_of (hS.2.2 _ (by omega) (by omega)).1 (Int.le_of_lt_add_one (hS.2.2 _ (by omega) (by omega)).2)⟩, ⟨rfl, ttPi_of (yyBl_in _).1 (yyBl_in _).2⟩, ⟨rfl, ttPi_of (yyBl_in _).1 (yyBl_in _).2⟩, trivial⟩ (fun _ hq => absurd hq List.not_mem_nil) _ (fun rM M MT MX MF _ _ => ?_)
  obtain ⟨mS, m7, -⟩ := lwS_fr MF hS
  have n7 : i + 7 ≤ M.2.2.1 (-1) := by omega
  refine q_pp lp_593 ?_
  refine q_al (i := 2) (x := 183) lp_594 rfl ?_
  refine la_i lp_595 lp_596 lp_597 lp_598 lp_599 mS i0 n7 (by decide) (by decide) ?_
  refine la_i lp_600 lp_601 lp_602 lp_603 lp_604 mS i0 n7 (by decide) (by decide) ?_
  refine la_i lp_605 lp_606 lp_607 lp_608 lp_609 mS i0 n7 (by decide) (by decide) ?_
  refine la_i lp_610 lp_611 lp_612 lp_613 lp_614 mS i0 n7 (by decide) (by decide) ?_
  refine la_b lp_615 lp_616 lp_617 lp_618 lp_619 lp_620 lp_621 lp_622 lp_623 rfl rfl mS i0 n7 (by decide) (by decide) ?_
  refine la_b lp_624 lp_625 lp_626 lp_627 lp_628 lp_629 lp_630 lp_631 lp_632 rfl rfl mS i0 n7 (by decide) (by decide) ?_
  refine q_iv lp_633 rfl rfl (ttKc MT (a := 183) (κ := 12) (len := 0) ⟨rfl, rfl⟩ (by decide) (by decide)).1 ?_
  refine (hc_217 m8.1) 15 (by decide) [(2, 183), (0, (M.1 (-1) (i + 1))), (0, (M.1 (-1) (i + 2))), (0, (M.1 (-1) (i + 3))), (0, (M.1 (-1) (i + 4))), (0, (yyBl (M.1 (-1) (i + 5)))), (0, (yyBl (M.1 (-1) (i + 6))))] M MT MX ⟨⟨rfl, ttPk_of rfl⟩, ⟨rfl, ttPi_of (mS.2.2 _ (by omega) (by omega)).1 (Int.le_of_lt_add_one (mS.2.2 _ (by omega) (by omega)).2)⟩, ⟨rfl, ttPi_of (mS.2.2 _ (by omega) (by omega)).1 (Int.le_of_lt_add_one (mS.2.2 _ (by omega) (by omega)).2)⟩, ⟨rfl, ttPi_of (mS.2.2 _ (by omega) (by omega)).1 (Int.le_of_lt_add_one (mS.2.2 _ (by omega) (by omega)).2)⟩, ⟨rfl, ttPi_of (mS.2.2 _ (by omega) (by omega)).1 (Int.le_of_lt_add_one (mS.2.2 _ (by omega) (by omega)).2)⟩, ⟨rfl, ttPi_of (yyBl_in _).1 (yyBl_in _).2⟩, ⟨rfl, ttPi_of (yyBl_in _).1 (yyBl_in _).2⟩, trivial⟩ (fun _ hq => absurd hq List.not_mem_nil) _ (fun rK K KT KX KF _ _ => ?_)
  refine q_pp lp_634 ?_
  refine q_go lp_635 ?_
  obtain ⟨kS, k7, -⟩ := lwS_fr KF mS
  exact hq K KT KX kS (by omega) (lwRR_fr hN MF KF (by decide) (by decide) hR)
theorem lo_18 {Q : Int → xH → Prop} {H : xH} (hT : ttTI H) (hX : ttXX YY H) (hS : lwS H) {i : Int} (i0 : 0 ≤ i) (i7 : i + 7 ≤ H.2.2.1 (-1))  (hR : lwRR H) (hq : ∀ K, ttTI K → ttXX YY K → lwS K → K.2.2.1 (-1) = H.2.2.1 (-1) → lwRR K → xW 15 cdLaw Q (1615, lwL i, [], K)) : xW 15 cdLaw Q (636, lwL i, [], H) := by
  have hN : 210 ≤ (H.2.2.2.1 : Int) := by have := hT.1; omega
  refine q_al (i := 1) (x := 1) lp_636 rfl ?_
  refine la_i lp_637 lp_638 lp_639 lp_640 lp_641 hS i0 i7 (by decide) (by decide) ?_
  refine la_i lp_642 lp_643 lp_644 lp_645 lp_646 hS i0 i7 (by decide) (by decide) ?_
  refine la_i lp_647 lp_648 lp_649 lp_650 lp_651 hS i0 i7 (by decide) (by decide) ?_
  refine la_i lp_652 lp_653 lp_654 lp_655 lp_656 hS i0 i7 (by decide) (by decide) ?_
  refine la_b lp_657 lp_658 lp_659 lp_660 lp_661 lp_662 lp_663 lp_664 lp_665 rfl rfl hS i0 i7 (by decide) (by decide) ?_
  refine la_b lp_666 lp_667 lp_668 lp_669 lp_670 lp_671 lp_672 lp_673 lp_674 rfl rfl hS i0 i7 (by decide) (by decide) ?_
  refine q_iv lp_675 rfl rfl (ttKc hT (a := 1) (κ := 11) (len := 0) ⟨rfl, rfl⟩ (by decide) (by decide)).1 ?_
  refine (hc_185 m8.1.1.1.1.1.1) 15 (by decide) [(2, 1), (0, (H.1 (-1) (i + 1))), (0, (H.1 (-1) (i + 2))), (0, (H.1 (-1) (i + 3))), (0, (H.1 (-1) (i + 4))), (0, (yyBl (H.1 (-1) (i + 5)))), (0, (yyBl (H.1 (-1) (i + 6))))] H hT hX ⟨⟨rfl, ttPk_of rfl⟩, ⟨rfl, ttPi_of (hS.2.2 _ (by omega) (by omega)).1 (Int.le_of_lt_add_one (hS.2.2 _ (by omega) (by omega)).2)⟩, ⟨rfl, ttPi_of (hS.2.2 _ (by omega) (by omega)).1 (Int.le_of_lt_add_one (hS.2.2 _ (by omega) (by omega)).2)⟩, ⟨rfl, ttPi_of (hS.2.2 _ (by omega) (by omega)).1 (Int.le_of_lt_add_one (hS.2.2 _ (by omega) (by omega)).2)⟩, ⟨rfl, ttPi_of (hS.2.2 _ (by omega) (by omega)).1 (Int.le_of_lt_add_one (hS.2.2 _ (by omega) (by omega)).2)⟩, ⟨rfl, ttPi_of (yyBl_in _).1 (yyBl_in _).2⟩, ⟨rfl, ttPi_of (yyBl_in _).1 (yyBl_in _).2⟩, trivial⟩ (fun _ hq => absurd hq List.not_mem_nil) _ (fun rM M MT MX MF _ _ => ?_)
  obtain ⟨mS, m7, -⟩ := lwS_fr MF hS
  have n7 : i + 7 ≤ M.2.2.1 (-1) := by omega
  refine q_pp lp_676 ?_
  refine q_al (i := 2) (x := 183) lp_677 rfl ?_
  refine la_i lp_678 lp_679 lp_680 lp_681 lp_682 mS i0 n7 (by decide) (by decide) ?_
  refine la_i lp_683 lp_684 lp_685 lp_686 lp_687 mS i0 n7 (by decide) (by decide) ?_
  refine la_i lp_688 lp_689 lp_690 lp_691 lp_692 mS i0 n7 (by decide) (by decide) ?_
  refine la_i lp_693 lp_694 lp_695 lp_696 lp_697 mS i0 n7 (by decide) (by decide) ?_
  refine la_b lp_698 lp_699 lp_700 lp_701 lp_702 lp_703 lp_704 lp_705 lp_706 rfl rfl mS i0 n7 (by decide) (by decide) ?_
  refine la_b lp_707 lp_708 lp_709 lp_710 lp_711 lp_712 lp_713 lp_714 lp_715 rfl rfl mS i0 n7 (by decide) (by decide) ?_
  refine q_iv lp_716 rfl rfl (ttKc MT (a := 183) (κ := 12) (len := 0) ⟨rfl, rfl⟩ (by decide) (by decide)).1 ?_
  refine (hc_218 m8.1) 15 (by decide) [(2, 183), (0, (M.1 (-1) (i + 1))), (0, (M.1 (-1) (i + 2))), (0, (M.1 (-1) (i + 3))), (0, (M.1 (-1) (i + 4))), (0, (yyBl (M.1 (-1) (i + 5)))), (0, (yyBl (M.1 (-1) (i + 6))))] M MT MX ⟨⟨rfl, ttPk_of rfl⟩, ⟨rfl, ttPi_of (mS.2.2 _ (by omega) (by omega)).1 (Int.le_of_lt_add_one (mS.2.2 _ (by omega) (by omega)).2)⟩, ⟨rfl, ttPi_of (mS.2.2 _ (by omega) (by omega)).1 (Int.le_of_lt_add_one (mS.2.2 _ (by omega) (by omega)).2)⟩, ⟨rfl, ttPi_of (mS.2.2 _ (by omega) (by omega)).1 (Int.le_of_lt_add_one (mS.2.2 _ (by omega) (by omega)).2)⟩, ⟨rfl, ttPi_of (mS.2.2 _ (by omega) (by omega)).1 (Int.le_of_lt_add_one (mS.2.2 _ (by omega) (by omega)).2)⟩, ⟨rfl, ttPi_of (yyBl_in _).1 (yyBl_in _).2⟩, ⟨rfl, ttPi_of (yyBl_in _).1 (yyBl_in _).2⟩, trivial⟩ (fun _ hq => absurd hq List.not_mem_nil) _ (fun rK K KT KX KF _ _ => ?_)
  refine q_pp lp_717 ?_
  refine q_go lp_718 ?_
  obtain ⟨kS, k7, -⟩ := lwS_fr KF mS
  exact hq K KT KX kS (by omega) (lwRR_fr hN MF KF (by decide) (by decide) hR)
theorem lo_19 {Q : Int → xH → Prop} {H : xH} (hT : ttTI H) (hX : ttXX YY H) (hS : lwS H) {i : Int} (i0 : 0 ≤ i) (i7 : i + 7 ≤ H.2.2.1 (-1))  (hR : lwRR H) (hq : ∀ K, ttTI K → ttXX YY K → lwS K → K.2.2.1 (-1) = H.2.2.1 (-1) → lwRR K → xW 15 cdLaw Q (1615, lwL i, [], K)) : xW 15 cdLaw Q (719, lwL i, [], H) := by
  have hN : 210 ≤ (H.2.2.2.1 : Int) := by have := hT.1; omega
  refine q_al (i := 1) (x := 1) lp_719 rfl ?_
  refine la_i lp_720 lp_721 lp_722 lp_723 lp_724 hS i0 i7 (by decide) (by decide) ?_
  refine la_i lp_725 lp_726 lp_727 lp_728 lp_729 hS i0 i7 (by decide) (by decide) ?_
  refine la_i lp_730 lp_731 lp_732 lp_733 lp_734 hS i0 i7 (by decide) (by decide) ?_
  refine la_i lp_735 lp_736 lp_737 lp_738 lp_739 hS i0 i7 (by decide) (by decide) ?_
  refine la_b lp_740 lp_741 lp_742 lp_743 lp_744 lp_745 lp_746 lp_747 lp_748 rfl rfl hS i0 i7 (by decide) (by decide) ?_
  refine la_b lp_749 lp_750 lp_751 lp_752 lp_753 lp_754 lp_755 lp_756 lp_757 rfl rfl hS i0 i7 (by decide) (by decide) ?_
  refine q_iv lp_758 rfl rfl (ttKc hT (a := 1) (κ := 11) (len := 0) ⟨rfl, rfl⟩ (by decide) (by decide)).1 ?_
  refine (hc_186 m8.1.1.1.1.1.1) 15 (by decide) [(2, 1), (0, (H.1 (-1) (i + 1))), (0, (H.1 (-1) (i + 2))), (0, (H.1 (-1) (i + 3))), (0, (H.1 (-1) (i + 4))), (0, (yyBl (H.1 (-1) (i + 5)))), (0, (yyBl (H.1 (-1) (i + 6))))] H hT hX ⟨⟨rfl, ttPk_of rfl⟩, ⟨rfl, ttPi_of (hS.2.2 _ (by omega) (by omega)).1 (Int.le_of_lt_add_one (hS.2.2 _ (by omega) (by omega)).2)⟩, ⟨rfl, ttPi_of (hS.2.2 _ (by omega) (by omega)).1 (Int.le_of_lt_add_one (hS.2.2 _ (by omega) (by omega)).2)⟩, ⟨rfl, ttPi_of (hS.2.2 _ (by omega) (by omega)).1 (Int.le_of_lt_add_one (hS.2.2 _ (by omega) (by omega)).2)⟩, ⟨rfl, ttPi_of (hS.2.2 _ (by omega) (by omega)).1 (Int.le_of_lt_add_one (hS.2.2 _ (by omega) (by omega)).2)⟩, ⟨rfl, ttPi_of (yyBl_in _).1 (yyBl_in _).2⟩, ⟨rfl, ttPi_of (yyBl_in _).1 (yyBl_in _).2⟩, trivial⟩ (fun _ hq => absurd hq List.not_mem_nil) _ (fun rM M MT MX MF _ _ => ?_)
  obtain ⟨mS, m7, -⟩ := lwS_fr MF hS
  have n7 : i + 7 ≤ M.2.2.1 (-1) := by omega
  refine q_pp lp_759 ?_
  refine q_al (i := 2) (x := 183) lp_760 rfl ?_
  refine la_i lp_761 lp_762 lp_763 lp_764 lp_765 mS i0 n7 (by decide) (by decide) ?_
  refine la_i lp_766 lp_767 lp_768 lp_769 lp_770 mS i0 n7 (by decide) (by decide) ?_
  refine la_i lp_771 lp_772 lp_773 lp_774 lp_775 mS i0 n7 (by decide) (by decide) ?_
  refine la_i lp_776 lp_777 lp_778 lp_779 lp_780 mS i0 n7 (by decide) (by decide) ?_
  refine la_b lp_781 lp_782 lp_783 lp_784 lp_785 lp_786 lp_787 lp_788 lp_789 rfl rfl mS i0 n7 (by decide) (by decide) ?_
  refine la_b lp_790 lp_791 lp_792 lp_793 lp_794 lp_795 lp_796 lp_797 lp_798 rfl rfl mS i0 n7 (by decide) (by decide) ?_
  refine q_iv lp_799 rfl rfl (ttKc MT (a := 183) (κ := 12) (len := 0) ⟨rfl, rfl⟩ (by decide) (by decide)).1 ?_
  refine (hc_219 m8.1) 15 (by decide) [(2, 183), (0, (M.1 (-1) (i + 1))), (0, (M.1 (-1) (i + 2))), (0, (M.1 (-1) (i + 3))), (0, (M.1 (-1) (i + 4))), (0, (yyBl (M.1 (-1) (i + 5)))), (0, (yyBl (M.1 (-1) (i + 6))))] M MT MX ⟨⟨rfl, ttPk_of rfl⟩, ⟨rfl, ttPi_of (mS.2.2 _ (by omega) (by omega)).1 (Int.le_of_lt_add_one (mS.2.2 _ (by omega) (by omega)).2)⟩, ⟨rfl, ttPi_of (mS.2.2 _ (by omega) (by omega)).1 (Int.le_of_lt_add_one (mS.2.2 _ (by omega) (by omega)).2)⟩, ⟨rfl, ttPi_of (mS.2.2 _ (by omega) (by omega)).1 (Int.le_of_lt_add_one (mS.2.2 _ (by omega) (by omega)).2)⟩, ⟨rfl, ttPi_of (mS.2.2 _ (by omega) (by omega)).1 (Int.le_of_lt_add_one (mS.2.2 _ (by omega) (by omega)).2)⟩, ⟨rfl, ttPi_of (yyBl_in _).1 (yyBl_in _).2⟩, ⟨rfl, ttPi_of (yyBl_in _).1 (yyBl_in _).2⟩, trivial⟩ (fun _ hq => absurd hq List.not_mem_nil) _ (fun rK K KT KX KF _ _ => ?_)
  refine q_pp lp_800 ?_
  refine q_go lp_801 ?_
  obtain ⟨kS, k7, -⟩ := lwS_fr KF mS
  exact hq K KT KX kS (by omega) (lwRR_fr hN MF KF (by decide) (by decide) hR)
theorem lo_20 {Q : Int → xH → Prop} {H : xH} (hT : ttTI H) (hX : ttXX YY H) (hS : lwS H) {i : Int} (i0 : 0 ≤ i) (i7 : i + 7 ≤ H.2.2.1 (-1))  (hR : lwRR H) (hq : ∀ K, ttTI K → ttXX YY K → lwS K → K.2.2.1 (-1) = H.2.2.1 (-1) → lwRR K → xW 15 cdLaw Q (1615, lwL i, [], K)) : xW 15 cdLaw Q (802, lwL i, [], H) := by
  have hN : 210 ≤ (H.2.2.2.1 : Int) := by have := hT.1; omega
  refine q_al (i := 1) (x := 1) lp_802 rfl ?_
  refine la_i lp_803 lp_804 lp_805 lp_806 lp_807 hS i0 i7 (by decide) (by decide) ?_
  refine q_iv lp_808 rfl rfl (ttKc hT (a := 1) (κ := 11) (len := 0) ⟨rfl, rfl⟩ (by decide) (by decide)).1 ?_
  refine (hc_187 m8.1.1.1.1.1.1) 15 (by decide) [(2, 1), (0, (H.1 (-1) (i + 1)))] H hT hX ⟨⟨rfl, ttPk_of rfl⟩, ⟨rfl, ttPi_of (hS.2.2 _ (by omega) (by omega)).1 (Int.le_of_lt_add_one (hS.2.2 _ (by omega) (by omega)).2)⟩, trivial⟩ (fun _ hq => absurd hq List.not_mem_nil) _ (fun rM M MT MX MF _ _ => ?_)
  obtain ⟨mS, m7, -⟩ := lwS_fr MF hS
  have n7 : i + 7 ≤ M.2.2.1 (-1) := by omega
  refine q_pp lp_809 ?_
  refine q_al (i := 2) (x := 183) lp_810 rfl ?_
  refine la_i lp_811 lp_812 lp_813 lp_814 lp_815 mS i0 n7 (by decide) (by decide) ?_
  refine q_iv lp_816 rfl rfl (ttKc MT (a := 183) (κ := 12) (len := 0) ⟨rfl, rfl⟩ (by decide) (by decide)).1 ?_
  refine (hc_221 m8.1) 15 (by decide) [(2, 183), (0, (M.1 (-1) (i + 1)))] M MT MX ⟨⟨rfl, ttPk_of rfl⟩, ⟨rfl, ttPi_of (mS.2.2 _ (by omega) (by omega)).1 (Int.le_of_lt_add_one (mS.2.2 _ (by omega) (by omega)).2)⟩, trivial⟩ (fun _ hq => absurd hq List.not_mem_nil) _ (fun rK K KT KX KF _ _ => ?_)
  refine q_pp lp_817 ?_
  refine q_go lp_818 ?_
  obtain ⟨kS, k7, -⟩ := lwS_fr KF mS
  exact hq K KT KX kS (by omega) (lwRR_fr hN MF KF (by decide) (by decide) hR)
theorem lo_21 {Q : Int → xH → Prop} {H : xH} (hT : ttTI H) (hX : ttXX YY H) (hS : lwS H) {i : Int} (i0 : 0 ≤ i) (i7 : i + 7 ≤ H.2.2.1 (-1))  (hR : lwRR H) (hq : ∀ K, ttTI K → ttXX YY K → lwS K → K.2.2.1 (-1) = H.2.2.1 (-1) → lwRR K → xW 15 cdLaw Q (1615, lwL i, [], K)) : xW 15 cdLaw Q (819, lwL i, [], H) := by
  have hN : 210 ≤ (H.2.2.2.1 : Int) := by have := hT.1; omega
  refine q_al (i := 1) (x := 1) lp_819 rfl ?_
  refine la_i lp_820 lp_821 lp_822 lp_823 lp_824 hS i0 i7 (by decide) (by decide) ?_
  refine q_iv lp_825 rfl rfl (ttKc hT (a := 1) (κ := 11) (len := 0) ⟨rfl, rfl⟩ (by decide) (by decide)).1 ?_
  refine (hc_188 m8.1.1.1.1.1.1) 15 (by decide) [(2, 1), (0, (H.1 (-1) (i + 1)))] H hT hX ⟨⟨rfl, ttPk_of rfl⟩, ⟨rfl, ttPi_of (hS.2.2 _ (by omega) (by omega)).1 (Int.le_of_lt_add_one (hS.2.2 _ (by omega) (by omega)).2)⟩, trivial⟩ (fun _ hq => absurd hq List.not_mem_nil) _ (fun rM M MT MX MF _ _ => ?_)
  obtain ⟨mS, m7, -⟩ := lwS_fr MF hS
  have n7 : i + 7 ≤ M.2.2.1 (-1) := by omega
  refine q_pp lp_826 ?_
  refine q_al (i := 2) (x := 183) lp_827 rfl ?_
  refine la_i lp_828 lp_829 lp_830 lp_831 lp_832 mS i0 n7 (by decide) (by decide) ?_
  refine q_iv lp_833 rfl rfl (ttKc MT (a := 183) (κ := 12) (len := 0) ⟨rfl, rfl⟩ (by decide) (by decide)).1 ?_
  refine (hc_223 m8.1) 15 (by decide) [(2, 183), (0, (M.1 (-1) (i + 1)))] M MT MX ⟨⟨rfl, ttPk_of rfl⟩, ⟨rfl, ttPi_of (mS.2.2 _ (by omega) (by omega)).1 (Int.le_of_lt_add_one (mS.2.2 _ (by omega) (by omega)).2)⟩, trivial⟩ (fun _ hq => absurd hq List.not_mem_nil) _ (fun rK K KT KX KF _ _ => ?_)
  refine q_pp lp_834 ?_
  refine q_go lp_835 ?_
  obtain ⟨kS, k7, -⟩ := lwS_fr KF mS
  exact hq K KT KX kS (by omega) (lwRR_fr hN MF KF (by decide) (by decide) hR)
theorem lo_22 {Q : Int → xH → Prop} {H : xH} (hT : ttTI H) (hX : ttXX YY H) (hS : lwS H) {i : Int} (i0 : 0 ≤ i) (i7 : i + 7 ≤ H.2.2.1 (-1))  (hR : lwRR H) (hq : ∀ K, ttTI K → ttXX YY K → lwS K → K.2.2.1 (-1) = H.2.2.1 (-1) → lwRR K → xW 15 cdLaw Q (1615, lwL i, [], K)) : xW 15 cdLaw Q (836, lwL i, [], H) := by
  have hN : 210 ≤ (H.2.2.2.1 : Int) := by have := hT.1; omega
  refine q_al (i := 1) (x := 1) lp_836 rfl ?_
  refine la_i lp_837 lp_838 lp_839 lp_840 lp_841 hS i0 i7 (by decide) (by decide) ?_
  refine la_i lp_842 lp_843 lp_844 lp_845 lp_846 hS i0 i7 (by decide) (by decide) ?_
  refine la_b lp_847 lp_848 lp_849 lp_850 lp_851 lp_852 lp_853 lp_854 lp_855 rfl rfl hS i0 i7 (by decide) (by decide) ?_
  refine q_iv lp_856 rfl rfl (ttKc hT (a := 1) (κ := 11) (len := 0) ⟨rfl, rfl⟩ (by decide) (by decide)).1 ?_
  refine (hc_190 m8.1.1.1.1.1.1) 15 (by decide) [(2, 1), (0, (H.1 (-1) (i + 1))), (0, (H.1 (-1) (i + 2))), (0, (yyBl (H.1 (-1) (i + 3))))] H hT hX ⟨⟨rfl, ttPk_of rfl⟩, ⟨rfl, ttPi_of (hS.2.2 _ (by omega) (by omega)).1 (Int.le_of_lt_add_one (hS.2.2 _ (by omega) (by omega)).2)⟩, ⟨rfl, ttPi_of (hS.2.2 _ (by omega) (by omega)).1 (Int.le_of_lt_add_one (hS.2.2 _ (by omega) (by omega)).2)⟩, ⟨rfl, ttPi_of (yyBl_in _).1 (yyBl_in _).2⟩, trivial⟩ (fun _ hq => absurd hq List.not_mem_nil) _ (fun rM M MT MX MF _ _ => ?_)
  obtain ⟨mS, m7, -⟩ := lwS_fr MF hS
  have n7 : i + 7 ≤ M.2.2.1 (-1) := by omega
  refine q_pp lp_857 ?_
  refine q_al (i := 2) (x := 183) lp_858 rfl ?_
  refine la_i lp_859 lp_860 lp_861 lp_862 lp_863 mS i0 n7 (by decide) (by decide) ?_
  refine la_i lp_864 lp_865 lp_866 lp_867 lp_868 mS i0 n7 (by decide) (by decide) ?_
  refine la_b lp_869 lp_870 lp_871 lp_872 lp_873 lp_874 lp_875 lp_876 lp_877 rfl rfl mS i0 n7 (by decide) (by decide) ?_
  refine q_iv lp_878 rfl rfl (ttKc MT (a := 183) (κ := 12) (len := 0) ⟨rfl, rfl⟩ (by decide) (by decide)).1 ?_
  refine (hc_225 m8.1) 15 (by decide) [(2, 183), (0, (M.1 (-1) (i + 1))), (0, (M.1 (-1) (i + 2))), (0, (yyBl (M.1 (-1) (i + 3))))] M MT MX ⟨⟨rfl, ttPk_of rfl⟩, ⟨rfl, ttPi_of (mS.2.2 _ (by omega) (by omega)).1 (Int.le_of_lt_add_one (mS.2.2 _ (by omega) (by omega)).2)⟩, ⟨rfl, ttPi_of (mS.2.2 _ (by omega) (by omega)).1 (Int.le_of_lt_add_one (mS.2.2 _ (by omega) (by omega)).2)⟩, ⟨rfl, ttPi_of (yyBl_in _).1 (yyBl_in _).2⟩, trivial⟩ (fun _ hq => absurd hq List.not_mem_nil) _ (fun rK K KT KX KF _ _ => ?_)
  refine q_pp lp_879 ?_
  refine q_go lp_880 ?_
  obtain ⟨kS, k7, -⟩ := lwS_fr KF mS
  exact hq K KT KX kS (by omega) (lwRR_fr hN MF KF (by decide) (by decide) hR)
theorem lo_23 {Q : Int → xH → Prop} {H : xH} (hT : ttTI H) (hX : ttXX YY H) (hS : lwS H) {i : Int} (i0 : 0 ≤ i) (i7 : i + 7 ≤ H.2.2.1 (-1))  (hR : lwRR H) (hq : ∀ K, ttTI K → ttXX YY K → lwS K → K.2.2.1 (-1) = H.2.2.1 (-1) → lwRR K → xW 15 cdLaw Q (1615, lwL i, [], K)) : xW 15 cdLaw Q (881, lwL i, [], H) := by
  have hN : 210 ≤ (H.2.2.2.1 : Int) := by have := hT.1; omega
  refine q_al (i := 1) (x := 1) lp_881 rfl ?_
  refine la_i lp_882 lp_883 lp_884 lp_885 lp_886 hS i0 i7 (by decide) (by decide) ?_
  refine la_i lp_887 lp_888 lp_889 lp_890 lp_891 hS i0 i7 (by decide) (by decide) ?_
  refine la_b lp_892 lp_893 lp_894 lp_895 lp_896 lp_897 lp_898 lp_899 lp_900 rfl rfl hS i0 i7 (by decide) (by decide) ?_
  refine q_iv lp_901 rfl rfl (ttKc hT (a := 1) (κ := 11) (len := 0) ⟨rfl, rfl⟩ (by decide) (by decide)).1 ?_
  refine (hc_191 m8.1.1.1.1.1.1) 15 (by decide) [(2, 1), (0, (H.1 (-1) (i + 1))), (0, (H.1 (-1) (i + 2))), (0, (yyBl (H.1 (-1) (i + 3))))] H hT hX ⟨⟨rfl, ttPk_of rfl⟩, ⟨rfl, ttPi_of (hS.2.2 _ (by omega) (by omega)).1 (Int.le_of_lt_add_one (hS.2.2 _ (by omega) (by omega)).2)⟩, ⟨rfl, ttPi_of (hS.2.2 _ (by omega) (by omega)).1 (Int.le_of_lt_add_one (hS.2.2 _ (by omega) (by omega)).2)⟩, ⟨rfl, ttPi_of (yyBl_in _).1 (yyBl_in _).2⟩, trivial⟩ (fun _ hq => absurd hq List.not_mem_nil) _ (fun rM M MT MX MF _ _ => ?_)
  obtain ⟨mS, m7, -⟩ := lwS_fr MF hS
  have n7 : i + 7 ≤ M.2.2.1 (-1) := by omega
  refine q_pp lp_902 ?_
  refine q_al (i := 2) (x := 183) lp_903 rfl ?_
  refine la_i lp_904 lp_905 lp_906 lp_907 lp_908 mS i0 n7 (by decide) (by decide) ?_
  refine la_i lp_909 lp_910 lp_911 lp_912 lp_913 mS i0 n7 (by decide) (by decide) ?_
  refine la_b lp_914 lp_915 lp_916 lp_917 lp_918 lp_919 lp_920 lp_921 lp_922 rfl rfl mS i0 n7 (by decide) (by decide) ?_
  refine q_iv lp_923 rfl rfl (ttKc MT (a := 183) (κ := 12) (len := 0) ⟨rfl, rfl⟩ (by decide) (by decide)).1 ?_
  refine (hc_226 m8.1) 15 (by decide) [(2, 183), (0, (M.1 (-1) (i + 1))), (0, (M.1 (-1) (i + 2))), (0, (yyBl (M.1 (-1) (i + 3))))] M MT MX ⟨⟨rfl, ttPk_of rfl⟩, ⟨rfl, ttPi_of (mS.2.2 _ (by omega) (by omega)).1 (Int.le_of_lt_add_one (mS.2.2 _ (by omega) (by omega)).2)⟩, ⟨rfl, ttPi_of (mS.2.2 _ (by omega) (by omega)).1 (Int.le_of_lt_add_one (mS.2.2 _ (by omega) (by omega)).2)⟩, ⟨rfl, ttPi_of (yyBl_in _).1 (yyBl_in _).2⟩, trivial⟩ (fun _ hq => absurd hq List.not_mem_nil) _ (fun rK K KT KX KF _ _ => ?_)
  refine q_pp lp_924 ?_
  refine q_go lp_925 ?_
  obtain ⟨kS, k7, -⟩ := lwS_fr KF mS
  exact hq K KT KX kS (by omega) (lwRR_fr hN MF KF (by decide) (by decide) hR)
theorem lo_24 {Q : Int → xH → Prop} {H : xH} (hT : ttTI H) (hX : ttXX YY H) (hS : lwS H) {i : Int} (i0 : 0 ≤ i) (i7 : i + 7 ≤ H.2.2.1 (-1))  (hR : lwRR H) (hq : ∀ K, ttTI K → ttXX YY K → lwS K → K.2.2.1 (-1) = H.2.2.1 (-1) → lwRR K → xW 15 cdLaw Q (1615, lwL i, [], K)) : xW 15 cdLaw Q (926, lwL i, [], H) := by
  have hN : 210 ≤ (H.2.2.2.1 : Int) := by have := hT.1; omega
  refine q_al (i := 1) (x := 1) lp_926 rfl ?_
  refine la_i lp_927 lp_928 lp_929 lp_930 lp_931 hS i0 i7 (by decide) (by decide) ?_
  refine la_i lp_932 lp_933 lp_934 lp_935 lp_936 hS i0 i7 (by decide) (by decide) ?_
  refine q_iv lp_937 rfl rfl (ttKc hT (a := 1) (κ := 11) (len := 0) ⟨rfl, rfl⟩ (by decide) (by decide)).1 ?_
  refine (hc_192 m8.1.1.1.1.1.1) 15 (by decide) [(2, 1), (0, (H.1 (-1) (i + 1))), (0, (H.1 (-1) (i + 2)))] H hT hX ⟨⟨rfl, ttPk_of rfl⟩, ⟨rfl, ttPi_of (hS.2.2 _ (by omega) (by omega)).1 (Int.le_of_lt_add_one (hS.2.2 _ (by omega) (by omega)).2)⟩, ⟨rfl, ttPi_of (hS.2.2 _ (by omega) (by omega)).1 (Int.le_of_lt_add_one (hS.2.2 _ (by omega) (by omega)).2)⟩, trivial⟩ (fun _ hq => absurd hq List.not_mem_nil) _ (fun rM M MT MX MF _ _ => ?_)
  obtain ⟨mS, m7, -⟩ := lwS_fr MF hS
  have n7 : i + 7 ≤ M.2.2.1 (-1) := by omega
  refine q_pp lp_938 ?_
  refine q_al (i := 2) (x := 183) lp_939 rfl ?_
  refine la_i lp_940 lp_941 lp_942 lp_943 lp_944 mS i0 n7 (by decide) (by decide) ?_
  refine la_i lp_945 lp_946 lp_947 lp_948 lp_949 mS i0 n7 (by decide) (by decide) ?_
  refine q_iv lp_950 rfl rfl (ttKc MT (a := 183) (κ := 12) (len := 0) ⟨rfl, rfl⟩ (by decide) (by decide)).1 ?_
  refine (hc_227 m8.1) 15 (by decide) [(2, 183), (0, (M.1 (-1) (i + 1))), (0, (M.1 (-1) (i + 2)))] M MT MX ⟨⟨rfl, ttPk_of rfl⟩, ⟨rfl, ttPi_of (mS.2.2 _ (by omega) (by omega)).1 (Int.le_of_lt_add_one (mS.2.2 _ (by omega) (by omega)).2)⟩, ⟨rfl, ttPi_of (mS.2.2 _ (by omega) (by omega)).1 (Int.le_of_lt_add_one (mS.2.2 _ (by omega) (by omega)).2)⟩, trivial⟩ (fun _ hq => absurd hq List.not_mem_nil) _ (fun rK K KT KX KF _ _ => ?_)
  refine q_pp lp_951 ?_
  refine q_go lp_952 ?_
  obtain ⟨kS, k7, -⟩ := lwS_fr KF mS
  exact hq K KT KX kS (by omega) (lwRR_fr hN MF KF (by decide) (by decide) hR)
theorem lo_25 {Q : Int → xH → Prop} {H : xH} (hT : ttTI H) (hX : ttXX YY H) (hS : lwS H) {i : Int} (i0 : 0 ≤ i) (i7 : i + 7 ≤ H.2.2.1 (-1))  (hR : lwRR H) (hq : ∀ K, ttTI K → ttXX YY K → lwS K → K.2.2.1 (-1) = H.2.2.1 (-1) → lwRR K → xW 15 cdLaw Q (1615, lwL i, [], K)) : xW 15 cdLaw Q (953, lwL i, [], H) := by
  have hN : 210 ≤ (H.2.2.2.1 : Int) := by have := hT.1; omega
  refine q_al (i := 1) (x := 1) lp_953 rfl ?_
  refine la_i lp_954 lp_955 lp_956 lp_957 lp_958 hS i0 i7 (by decide) (by decide) ?_
  refine la_i lp_959 lp_960 lp_961 lp_962 lp_963 hS i0 i7 (by decide) (by decide) ?_
  refine la_i lp_964 lp_965 lp_966 lp_967 lp_968 hS i0 i7 (by decide) (by decide) ?_
  refine q_iv lp_969 rfl rfl (ttKc hT (a := 1) (κ := 11) (len := 0) ⟨rfl, rfl⟩ (by decide) (by decide)).1 ?_
  refine (hc_201 m8.1.1.1.1.1) 15 (by decide) [(2, 1), (0, (H.1 (-1) (i + 1))), (0, (H.1 (-1) (i + 2))), (0, (H.1 (-1) (i + 3)))] H hT hX ⟨⟨rfl, ttPk_of rfl⟩, ⟨rfl, ttPi_of (hS.2.2 _ (by omega) (by omega)).1 (Int.le_of_lt_add_one (hS.2.2 _ (by omega) (by omega)).2)⟩, ⟨rfl, ttPi_of (hS.2.2 _ (by omega) (by omega)).1 (Int.le_of_lt_add_one (hS.2.2 _ (by omega) (by omega)).2)⟩, ⟨rfl, ttPi_of (hS.2.2 _ (by omega) (by omega)).1 (Int.le_of_lt_add_one (hS.2.2 _ (by omega) (by omega)).2)⟩, trivial⟩ (fun _ hq => absurd hq List.not_mem_nil) _ (fun rM M MT MX MF _ _ => ?_)
  obtain ⟨mS, m7, -⟩ := lwS_fr MF hS
  have n7 : i + 7 ≤ M.2.2.1 (-1) := by omega
  refine q_pp lp_970 ?_
  refine q_al (i := 2) (x := 183) lp_971 rfl ?_
  refine la_i lp_972 lp_973 lp_974 lp_975 lp_976 mS i0 n7 (by decide) (by decide) ?_
  refine la_i lp_977 lp_978 lp_979 lp_980 lp_981 mS i0 n7 (by decide) (by decide) ?_
  refine la_i lp_982 lp_983 lp_984 lp_985 lp_986 mS i0 n7 (by decide) (by decide) ?_
  refine q_iv lp_987 rfl rfl (ttKc MT (a := 183) (κ := 12) (len := 0) ⟨rfl, rfl⟩ (by decide) (by decide)).1 ?_
  refine (hc_228 m8.1) 15 (by decide) [(2, 183), (0, (M.1 (-1) (i + 1))), (0, (M.1 (-1) (i + 2))), (0, (M.1 (-1) (i + 3)))] M MT MX ⟨⟨rfl, ttPk_of rfl⟩, ⟨rfl, ttPi_of (mS.2.2 _ (by omega) (by omega)).1 (Int.le_of_lt_add_one (mS.2.2 _ (by omega) (by omega)).2)⟩, ⟨rfl, ttPi_of (mS.2.2 _ (by omega) (by omega)).1 (Int.le_of_lt_add_one (mS.2.2 _ (by omega) (by omega)).2)⟩, ⟨rfl, ttPi_of (mS.2.2 _ (by omega) (by omega)).1 (Int.le_of_lt_add_one (mS.2.2 _ (by omega) (by omega)).2)⟩, trivial⟩ (fun _ hq => absurd hq List.not_mem_nil) _ (fun rK K KT KX KF _ _ => ?_)
  refine q_pp lp_988 ?_
  refine q_go lp_989 ?_
  obtain ⟨kS, k7, -⟩ := lwS_fr KF mS
  exact hq K KT KX kS (by omega) (lwRR_fr hN MF KF (by decide) (by decide) hR)
theorem lo_26 {Q : Int → xH → Prop} {H : xH} (hT : ttTI H) (hX : ttXX YY H) (hS : lwS H) {i : Int} (i0 : 0 ≤ i) (i7 : i + 7 ≤ H.2.2.1 (-1))  (hR : lwRR H) (hq : ∀ K, ttTI K → ttXX YY K → lwS K → K.2.2.1 (-1) = H.2.2.1 (-1) → lwRR K → xW 15 cdLaw Q (1615, lwL i, [], K)) : xW 15 cdLaw Q (990, lwL i, [], H) := by
  have hN : 210 ≤ (H.2.2.2.1 : Int) := by have := hT.1; omega
  refine q_al (i := 1) (x := 1) lp_990 rfl ?_
  refine la_i lp_991 lp_992 lp_993 lp_994 lp_995 hS i0 i7 (by decide) (by decide) ?_
  refine la_b lp_996 lp_997 lp_998 lp_999 lp_1000 lp_1001 lp_1002 lp_1003 lp_1004 rfl rfl hS i0 i7 (by decide) (by decide) ?_
  refine q_iv lp_1005 rfl rfl (ttKc hT (a := 1) (κ := 11) (len := 0) ⟨rfl, rfl⟩ (by decide) (by decide)).1 ?_
  refine (hc_193 m8.1.1.1.1.1.1) 15 (by decide) [(2, 1), (0, (H.1 (-1) (i + 1))), (0, (yyBl (H.1 (-1) (i + 2))))] H hT hX ⟨⟨rfl, ttPk_of rfl⟩, ⟨rfl, ttPi_of (hS.2.2 _ (by omega) (by omega)).1 (Int.le_of_lt_add_one (hS.2.2 _ (by omega) (by omega)).2)⟩, ⟨rfl, ttPi_of (yyBl_in _).1 (yyBl_in _).2⟩, trivial⟩ (fun _ hq => absurd hq List.not_mem_nil) _ (fun rM M MT MX MF _ _ => ?_)
  obtain ⟨mS, m7, -⟩ := lwS_fr MF hS
  have n7 : i + 7 ≤ M.2.2.1 (-1) := by omega
  refine q_pp lp_1006 ?_
  refine q_al (i := 2) (x := 183) lp_1007 rfl ?_
  refine la_i lp_1008 lp_1009 lp_1010 lp_1011 lp_1012 mS i0 n7 (by decide) (by decide) ?_
  refine la_b lp_1013 lp_1014 lp_1015 lp_1016 lp_1017 lp_1018 lp_1019 lp_1020 lp_1021 rfl rfl mS i0 n7 (by decide) (by decide) ?_
  refine q_iv lp_1022 rfl rfl (ttKc MT (a := 183) (κ := 12) (len := 0) ⟨rfl, rfl⟩ (by decide) (by decide)).1 ?_
  refine hm_ends 15 (by decide) [(2, 183), (0, (M.1 (-1) (i + 1))), (0, (yyBl (M.1 (-1) (i + 2))))] M MT MX ⟨⟨rfl, ttPk_of rfl⟩, ⟨rfl, ttPi_of (mS.2.2 _ (by omega) (by omega)).1 (Int.le_of_lt_add_one (mS.2.2 _ (by omega) (by omega)).2)⟩, ⟨rfl, ttPi_of (yyBl_in _).1 (yyBl_in _).2⟩, trivial⟩ (fun _ hq => absurd hq List.not_mem_nil) _ (fun rK K KT KX KF _ _ => ?_)
  refine q_pp lp_1023 ?_
  refine q_go lp_1024 ?_
  obtain ⟨kS, k7, -⟩ := lwS_fr KF mS
  exact hq K KT KX kS (by omega) (lwRR_fr hN MF KF (by decide) (by decide) hR)
theorem lo_27 {Q : Int → xH → Prop} {H : xH} (hT : ttTI H) (hX : ttXX YY H) (hS : lwS H) {i : Int} (i0 : 0 ≤ i) (i7 : i + 7 ≤ H.2.2.1 (-1))  (hR : lwRR H) (hq : ∀ K, ttTI K → ttXX YY K → lwS K → K.2.2.1 (-1) = H.2.2.1 (-1) → lwRR K → xW 15 cdLaw Q (1615, lwL i, [], K)) : xW 15 cdLaw Q (1025, lwL i, [], H) := by
  have hN : 210 ≤ (H.2.2.2.1 : Int) := by have := hT.1; omega
  refine q_al (i := 1) (x := 1) lp_1025 rfl ?_
  refine la_i lp_1026 lp_1027 lp_1028 lp_1029 lp_1030 hS i0 i7 (by decide) (by decide) ?_
  refine la_i lp_1031 lp_1032 lp_1033 lp_1034 lp_1035 hS i0 i7 (by decide) (by decide) ?_
  refine la_b lp_1036 lp_1037 lp_1038 lp_1039 lp_1040 lp_1041 lp_1042 lp_1043 lp_1044 rfl rfl hS i0 i7 (by decide) (by decide) ?_
  refine q_iv lp_1045 rfl rfl (ttKc hT (a := 1) (κ := 11) (len := 0) ⟨rfl, rfl⟩ (by decide) (by decide)).1 ?_
  refine (hc_83 m8.1.1.1.1.1.1.1.1) 15 (by decide) [(2, 1), (0, (H.1 (-1) (i + 1))), (0, (H.1 (-1) (i + 2))), (0, (yyBl (H.1 (-1) (i + 3))))] H hT hX ⟨⟨rfl, ttPk_of rfl⟩, ⟨rfl, ttPi_of (hS.2.2 _ (by omega) (by omega)).1 (Int.le_of_lt_add_one (hS.2.2 _ (by omega) (by omega)).2)⟩, ⟨rfl, ttPi_of (hS.2.2 _ (by omega) (by omega)).1 (Int.le_of_lt_add_one (hS.2.2 _ (by omega) (by omega)).2)⟩, ⟨rfl, ttPi_of (yyBl_in _).1 (yyBl_in _).2⟩, trivial⟩ (fun _ hq => absurd hq List.not_mem_nil) _ (fun rM M MT MX MF _ _ => ?_)
  obtain ⟨mS, m7, -⟩ := lwS_fr MF hS
  have n7 : i + 7 ≤ M.2.2.1 (-1) := by omega
  refine q_pp lp_1046 ?_
  refine q_al (i := 2) (x := 183) lp_1047 rfl ?_
  refine la_i lp_1048 lp_1049 lp_1050 lp_1051 lp_1052 mS i0 n7 (by decide) (by decide) ?_
  refine la_i lp_1053 lp_1054 lp_1055 lp_1056 lp_1057 mS i0 n7 (by decide) (by decide) ?_
  refine la_b lp_1058 lp_1059 lp_1060 lp_1061 lp_1062 lp_1063 lp_1064 lp_1065 lp_1066 rfl rfl mS i0 n7 (by decide) (by decide) ?_
  refine q_iv lp_1067 rfl rfl (ttKc MT (a := 183) (κ := 12) (len := 0) ⟨rfl, rfl⟩ (by decide) (by decide)).1 ?_
  refine (hc_216 m8.1.1) 15 (by decide) [(2, 183), (0, (M.1 (-1) (i + 1))), (0, (M.1 (-1) (i + 2))), (0, (yyBl (M.1 (-1) (i + 3))))] M MT MX ⟨⟨rfl, ttPk_of rfl⟩, ⟨rfl, ttPi_of (mS.2.2 _ (by omega) (by omega)).1 (Int.le_of_lt_add_one (mS.2.2 _ (by omega) (by omega)).2)⟩, ⟨rfl, ttPi_of (mS.2.2 _ (by omega) (by omega)).1 (Int.le_of_lt_add_one (mS.2.2 _ (by omega) (by omega)).2)⟩, ⟨rfl, ttPi_of (yyBl_in _).1 (yyBl_in _).2⟩, trivial⟩ (fun _ hq => absurd hq List.not_mem_nil) _ (fun rK K KT KX KF _ _ => ?_)
  refine q_pp lp_1068 ?_
  refine q_go lp_1069 ?_
  obtain ⟨kS, k7, -⟩ := lwS_fr KF mS
  exact hq K KT KX kS (by omega) (lwRR_fr hN MF KF (by decide) (by decide) hR)
theorem lo_28 {Q : Int → xH → Prop} {H : xH} (hT : ttTI H) (hX : ttXX YY H) (hS : lwS H) {i : Int} (i0 : 0 ≤ i) (i7 : i + 7 ≤ H.2.2.1 (-1))  (hR : lwRR H) (hq : ∀ K, ttTI K → ttXX YY K → lwS K → K.2.2.1 (-1) = H.2.2.1 (-1) → lwRR K → xW 15 cdLaw Q (1615, lwL i, [], K)) : xW 15 cdLaw Q (1070, lwL i, [], H) := by
  have hN : 210 ≤ (H.2.2.2.1 : Int) := by have := hT.1; omega
  refine q_al (i := 1) (x := 1) lp_1070 rfl ?_
  refine q_iv lp_1071 rfl rfl (ttKc hT (a := 1) (κ := 11) (len := 0) ⟨rfl, rfl⟩ (by decide) (by decide)).1 ?_
  refine (hc_87 m8.1.1.1.1.1.1.1.1) 15 (by decide) [(2, 1)] H hT hX ⟨⟨rfl, ttPk_of rfl⟩, trivial⟩ (fun _ hq => absurd hq List.not_mem_nil) _ (fun rM M MT MX MF _ _ => ?_)
  obtain ⟨mS, m7, -⟩ := lwS_fr MF hS
  have n7 : i + 7 ≤ M.2.2.1 (-1) := by omega
  refine q_pp lp_1072 ?_
  refine q_al (i := 2) (x := 183) lp_1073 rfl ?_
  refine q_iv lp_1074 rfl rfl (ttKc MT (a := 183) (κ := 12) (len := 0) ⟨rfl, rfl⟩ (by decide) (by decide)).1 ?_
  refine (hc_210 m8.1.1.1) 15 (by decide) [(2, 183)] M MT MX ⟨⟨rfl, ttPk_of rfl⟩, trivial⟩ (fun _ hq => absurd hq List.not_mem_nil) _ (fun rK K KT KX KF _ _ => ?_)
  refine q_pp lp_1075 ?_
  refine q_go lp_1076 ?_
  obtain ⟨kS, k7, -⟩ := lwS_fr KF mS
  exact hq K KT KX kS (by omega) (lwRR_fr hN MF KF (by decide) (by decide) hR)
theorem lo_29 {Q : Int → xH → Prop} {H : xH} (hT : ttTI H) (hX : ttXX YY H) (hS : lwS H) {i : Int} (i0 : 0 ≤ i) (i7 : i + 7 ≤ H.2.2.1 (-1))  (hR : lwRR H) (hq : ∀ K, ttTI K → ttXX YY K → lwS K → K.2.2.1 (-1) = H.2.2.1 (-1) → lwRR K → xW 15 cdLaw Q (1615, lwL i, [], K)) : xW 15 cdLaw Q (1077, lwL i, [], H) := by
  have hN : 210 ≤ (H.2.2.2.1 : Int) := by have := hT.1; omega
  refine q_al (i := 1) (x := 1) lp_1077 rfl ?_
  refine la_i lp_1078 lp_1079 lp_1080 lp_1081 lp_1082 hS i0 i7 (by decide) (by decide) ?_
  refine q_iv lp_1083 rfl rfl (ttKc hT (a := 1) (κ := 11) (len := 0) ⟨rfl, rfl⟩ (by decide) (by decide)).1 ?_
  refine (hc_203 m8.1.1.1.1.1) 15 (by decide) [(2, 1), (0, (H.1 (-1) (i + 1)))] H hT hX ⟨⟨rfl, ttPk_of rfl⟩, ⟨rfl, ttPi_of (hS.2.2 _ (by omega) (by omega)).1 (Int.le_of_lt_add_one (hS.2.2 _ (by omega) (by omega)).2)⟩, trivial⟩ (fun _ hq => absurd hq List.not_mem_nil) _ (fun rM M MT MX MF _ _ => ?_)
  obtain ⟨mS, m7, -⟩ := lwS_fr MF hS
  have n7 : i + 7 ≤ M.2.2.1 (-1) := by omega
  refine q_pp lp_1084 ?_
  refine q_al (i := 2) (x := 183) lp_1085 rfl ?_
  refine la_i lp_1086 lp_1087 lp_1088 lp_1089 lp_1090 mS i0 n7 (by decide) (by decide) ?_
  refine q_iv lp_1091 rfl rfl (ttKc MT (a := 183) (κ := 12) (len := 0) ⟨rfl, rfl⟩ (by decide) (by decide)).1 ?_
  refine (hc_230 m8.1) 15 (by decide) [(2, 183), (0, (M.1 (-1) (i + 1)))] M MT MX ⟨⟨rfl, ttPk_of rfl⟩, ⟨rfl, ttPi_of (mS.2.2 _ (by omega) (by omega)).1 (Int.le_of_lt_add_one (mS.2.2 _ (by omega) (by omega)).2)⟩, trivial⟩ (fun _ hq => absurd hq List.not_mem_nil) _ (fun rK K KT KX KF _ _ => ?_)
  refine q_pp lp_1092 ?_
  refine q_go lp_1093 ?_
  obtain ⟨kS, k7, -⟩ := lwS_fr KF mS
  exact hq K KT KX kS (by omega) (lwRR_fr hN MF KF (by decide) (by decide) hR)
theorem lo_30 {Q : Int → xH → Prop} {H : xH} (hT : ttTI H) (hX : ttXX YY H) (hS : lwS H) {i : Int} (i0 : 0 ≤ i) (i7 : i + 7 ≤ H.2.2.1 (-1))  (hR : lwRR H) (hq : ∀ K, ttTI K → ttXX YY K → lwS K → K.2.2.1 (-1) = H.2.2.1 (-1) → lwRR K → xW 15 cdLaw Q (1615, lwL i, [], K)) : xW 15 cdLaw Q (1094, lwL i, [], H) := by
  have hN : 210 ≤ (H.2.2.2.1 : Int) := by have := hT.1; omega
  refine q_al (i := 1) (x := 1) lp_1094 rfl ?_
  refine la_i lp_1095 lp_1096 lp_1097 lp_1098 lp_1099 hS i0 i7 (by decide) (by decide) ?_
  refine q_iv lp_1100 rfl rfl (ttKc hT (a := 1) (κ := 11) (len := 0) ⟨rfl, rfl⟩ (by decide) (by decide)).1 ?_
  refine (hc_205 m8.1.1.1.1.1) 15 (by decide) [(2, 1), (0, (H.1 (-1) (i + 1)))] H hT hX ⟨⟨rfl, ttPk_of rfl⟩, ⟨rfl, ttPi_of (hS.2.2 _ (by omega) (by omega)).1 (Int.le_of_lt_add_one (hS.2.2 _ (by omega) (by omega)).2)⟩, trivial⟩ (fun _ hq => absurd hq List.not_mem_nil) _ (fun rM M MT MX MF _ _ => ?_)
  obtain ⟨mS, m7, -⟩ := lwS_fr MF hS
  have n7 : i + 7 ≤ M.2.2.1 (-1) := by omega
  refine q_pp lp_1101 ?_
  refine q_al (i := 2) (x := 183) lp_1102 rfl ?_
  refine la_i lp_1103 lp_1104 lp_1105 lp_1106 lp_1107 mS i0 n7 (by decide) (by decide) ?_
  refine q_iv lp_1108 rfl rfl (ttKc MT (a := 183) (κ := 12) (len := 0) ⟨rfl, rfl⟩ (by decide) (by decide)).1 ?_
  refine (hc_232 m8.1) 15 (by decide) [(2, 183), (0, (M.1 (-1) (i + 1)))] M MT MX ⟨⟨rfl, ttPk_of rfl⟩, ⟨rfl, ttPi_of (mS.2.2 _ (by omega) (by omega)).1 (Int.le_of_lt_add_one (mS.2.2 _ (by omega) (by omega)).2)⟩, trivial⟩ (fun _ hq => absurd hq List.not_mem_nil) _ (fun rK K KT KX KF _ _ => ?_)
  refine q_pp lp_1109 ?_
  refine q_go lp_1110 ?_
  obtain ⟨kS, k7, -⟩ := lwS_fr KF mS
  exact hq K KT KX kS (by omega) (lwRR_fr hN MF KF (by decide) (by decide) hR)
theorem lo_31 {Q : Int → xH → Prop} {H : xH} (hT : ttTI H) (hX : ttXX YY H) (hS : lwS H) {i : Int} (i0 : 0 ≤ i) (i7 : i + 7 ≤ H.2.2.1 (-1))  (hR : lwRR H) (hq : ∀ K, ttTI K → ttXX YY K → lwS K → K.2.2.1 (-1) = H.2.2.1 (-1) → lwRR K → xW 15 cdLaw Q (1615, lwL i, [], K)) : xW 15 cdLaw Q (1111, lwL i, [], H) := by
  have hN : 210 ≤ (H.2.2.2.1 : Int) := by have := hT.1; omega
  refine q_al (i := 1) (x := 1) lp_1111 rfl ?_
  refine la_i lp_1112 lp_1113 lp_1114 lp_1115 lp_1116 hS i0 i7 (by decide) (by decide) ?_
  refine q_iv lp_1117 rfl rfl (ttKc hT (a := 1) (κ := 11) (len := 0) ⟨rfl, rfl⟩ (by decide) (by decide)).1 ?_
  refine (hc_207 m8.1.1.1.1.1) 15 (by decide) [(2, 1), (0, (H.1 (-1) (i + 1)))] H hT hX ⟨⟨rfl, ttPk_of rfl⟩, ⟨rfl, ttPi_of (hS.2.2 _ (by omega) (by omega)).1 (Int.le_of_lt_add_one (hS.2.2 _ (by omega) (by omega)).2)⟩, trivial⟩ (fun _ hq => absurd hq List.not_mem_nil) _ (fun rM M MT MX MF _ _ => ?_)
  obtain ⟨mS, m7, -⟩ := lwS_fr MF hS
  have n7 : i + 7 ≤ M.2.2.1 (-1) := by omega
  refine q_pp lp_1118 ?_
  refine q_al (i := 2) (x := 183) lp_1119 rfl ?_
  refine la_i lp_1120 lp_1121 lp_1122 lp_1123 lp_1124 mS i0 n7 (by decide) (by decide) ?_
  refine q_iv lp_1125 rfl rfl (ttKc MT (a := 183) (κ := 12) (len := 0) ⟨rfl, rfl⟩ (by decide) (by decide)).1 ?_
  refine (hc_234 m8.1) 15 (by decide) [(2, 183), (0, (M.1 (-1) (i + 1)))] M MT MX ⟨⟨rfl, ttPk_of rfl⟩, ⟨rfl, ttPi_of (mS.2.2 _ (by omega) (by omega)).1 (Int.le_of_lt_add_one (mS.2.2 _ (by omega) (by omega)).2)⟩, trivial⟩ (fun _ hq => absurd hq List.not_mem_nil) _ (fun rK K KT KX KF _ _ => ?_)
  refine q_pp lp_1126 ?_
  refine q_go lp_1127 ?_
  obtain ⟨kS, k7, -⟩ := lwS_fr KF mS
  exact hq K KT KX kS (by omega) (lwRR_fr hN MF KF (by decide) (by decide) hR)
theorem lo_32 {Q : Int → xH → Prop} {H : xH} (hT : ttTI H) (hX : ttXX YY H) (hS : lwS H) {i : Int} (i0 : 0 ≤ i) (i7 : i + 7 ≤ H.2.2.1 (-1))  (hR : lwRR H) (hq : ∀ K, ttTI K → ttXX YY K → lwS K → K.2.2.1 (-1) = H.2.2.1 (-1) → lwRR K → xW 15 cdLaw Q (1615, lwL i, [], K)) : xW 15 cdLaw Q (1128, lwL i, [], H) := by
  have hN : 210 ≤ (H.2.2.2.1 : Int) := by have := hT.1; omega
  refine q_al (i := 1) (x := 1) lp_1128 rfl ?_
  refine q_iv lp_1129 rfl rfl (ttKc hT (a := 1) (κ := 11) (len := 0) ⟨rfl, rfl⟩ (by decide) (by decide)).1 ?_
  refine (hc_195 m8.1.1.1.1.1.1) 15 (by decide) [(2, 1)] H hT hX ⟨⟨rfl, ttPk_of rfl⟩, trivial⟩ (fun _ hq => absurd hq List.not_mem_nil) _ (fun rM M MT MX MF _ _ => ?_)
  obtain ⟨mS, m7, -⟩ := lwS_fr MF hS
  have n7 : i + 7 ≤ M.2.2.1 (-1) := by omega
  refine q_pp lp_1130 ?_
  refine q_al (i := 2) (x := 183) lp_1131 rfl ?_
  refine q_iv lp_1132 rfl rfl (ttKc MT (a := 183) (κ := 12) (len := 0) ⟨rfl, rfl⟩ (by decide) (by decide)).1 ?_
  refine (hc_235 m8.1) 15 (by decide) [(2, 183)] M MT MX ⟨⟨rfl, ttPk_of rfl⟩, trivial⟩ (fun _ hq => absurd hq List.not_mem_nil) _ (fun rK K KT KX KF _ _ => ?_)
  refine q_pp lp_1133 ?_
  refine q_go lp_1134 ?_
  obtain ⟨kS, k7, -⟩ := lwS_fr KF mS
  exact hq K KT KX kS (by omega) (lwRR_fr hN MF KF (by decide) (by decide) hR)
theorem lo_33 {Q : Int → xH → Prop} {H : xH} (hT : ttTI H) (hX : ttXX YY H) (hS : lwS H) {i : Int} (i0 : 0 ≤ i) (i7 : i + 7 ≤ H.2.2.1 (-1))  (hR : lwRR H) (hq : ∀ K, ttTI K → ttXX YY K → lwS K → K.2.2.1 (-1) = H.2.2.1 (-1) → lwRR K → xW 15 cdLaw Q (1615, lwL i, [], K)) : xW 15 cdLaw Q (1135, lwL i, [], H) := by
  have hN : 210 ≤ (H.2.2.2.1 : Int) := by have := hT.1; omega
  refine q_al (i := 1) (x := 1) lp_1135 rfl ?_
  refine q_iv lp_1136 rfl rfl (ttKc hT (a := 1) (κ := 11) (len := 0) ⟨rfl, rfl⟩ (by decide) (by decide)).1 ?_
  refine (hc_196 m8.1.1.1.1.1.1) 15 (by decide) [(2, 1)] H hT hX ⟨⟨rfl, ttPk_of rfl⟩, trivial⟩ (fun _ hq => absurd hq List.not_mem_nil) _ (fun rM M MT MX MF _ _ => ?_)
  obtain ⟨mS, m7, -⟩ := lwS_fr MF hS
  have n7 : i + 7 ≤ M.2.2.1 (-1) := by omega
  refine q_pp lp_1137 ?_
  refine q_al (i := 2) (x := 183) lp_1138 rfl ?_
  refine q_iv lp_1139 rfl rfl (ttKc MT (a := 183) (κ := 12) (len := 0) ⟨rfl, rfl⟩ (by decide) (by decide)).1 ?_
  refine hm_drop 15 (by decide) [(2, 183)] M MT MX ⟨⟨rfl, ttPk_of rfl⟩, trivial⟩ (fun _ hq => absurd hq List.not_mem_nil) _ (fun rK K KT KX KF _ _ => ?_)
  refine q_pp lp_1140 ?_
  refine q_go lp_1141 ?_
  obtain ⟨kS, k7, -⟩ := lwS_fr KF mS
  exact hq K KT KX kS (by omega) (lwRR_fr hN MF KF (by decide) (by decide) hR)
theorem lo_34 {Q : Int → xH → Prop} {H : xH} (hT : ttTI H) (hX : ttXX YY H) (hS : lwS H) {i : Int} (i0 : 0 ≤ i) (i7 : i + 7 ≤ H.2.2.1 (-1))  (hR : lwRR H) (hq : ∀ K, ttTI K → ttXX YY K → lwS K → K.2.2.1 (-1) = H.2.2.1 (-1) → lwRR K → xW 15 cdLaw Q (1615, lwL i, [], K)) : xW 15 cdLaw Q (1142, lwL i, [], H) := by
  have hN : 210 ≤ (H.2.2.2.1 : Int) := by have := hT.1; omega
  refine q_al (i := 1) (x := 1) lp_1142 rfl ?_
  refine la_i lp_1143 lp_1144 lp_1145 lp_1146 lp_1147 hS i0 i7 (by decide) (by decide) ?_
  refine la_i lp_1148 lp_1149 lp_1150 lp_1151 lp_1152 hS i0 i7 (by decide) (by decide) ?_
  refine q_iv lp_1153 rfl rfl (ttKc hT (a := 1) (κ := 11) (len := 0) ⟨rfl, rfl⟩ (by decide) (by decide)).1 ?_
  refine (hc_197 m8.1.1.1.1.1.1) 15 (by decide) [(2, 1), (0, (H.1 (-1) (i + 1))), (0, (H.1 (-1) (i + 2)))] H hT hX ⟨⟨rfl, ttPk_of rfl⟩, ⟨rfl, ttPi_of (hS.2.2 _ (by omega) (by omega)).1 (Int.le_of_lt_add_one (hS.2.2 _ (by omega) (by omega)).2)⟩, ⟨rfl, ttPi_of (hS.2.2 _ (by omega) (by omega)).1 (Int.le_of_lt_add_one (hS.2.2 _ (by omega) (by omega)).2)⟩, trivial⟩ (fun _ hq => absurd hq List.not_mem_nil) _ (fun rM M MT MX MF _ _ => ?_)
  obtain ⟨mS, m7, -⟩ := lwS_fr MF hS
  have n7 : i + 7 ≤ M.2.2.1 (-1) := by omega
  refine q_pp lp_1154 ?_
  refine q_al (i := 2) (x := 183) lp_1155 rfl ?_
  refine la_i lp_1156 lp_1157 lp_1158 lp_1159 lp_1160 mS i0 n7 (by decide) (by decide) ?_
  refine la_i lp_1161 lp_1162 lp_1163 lp_1164 lp_1165 mS i0 n7 (by decide) (by decide) ?_
  refine q_iv lp_1166 rfl rfl (ttKc MT (a := 183) (κ := 12) (len := 0) ⟨rfl, rfl⟩ (by decide) (by decide)).1 ?_
  refine (hc_237 m8.1) 15 (by decide) [(2, 183), (0, (M.1 (-1) (i + 1))), (0, (M.1 (-1) (i + 2)))] M MT MX ⟨⟨rfl, ttPk_of rfl⟩, ⟨rfl, ttPi_of (mS.2.2 _ (by omega) (by omega)).1 (Int.le_of_lt_add_one (mS.2.2 _ (by omega) (by omega)).2)⟩, ⟨rfl, ttPi_of (mS.2.2 _ (by omega) (by omega)).1 (Int.le_of_lt_add_one (mS.2.2 _ (by omega) (by omega)).2)⟩, trivial⟩ (fun _ hq => absurd hq List.not_mem_nil) _ (fun rK K KT KX KF _ _ => ?_)
  refine q_pp lp_1167 ?_
  refine q_go lp_1168 ?_
  obtain ⟨kS, k7, -⟩ := lwS_fr KF mS
  exact hq K KT KX kS (by omega) (lwRR_fr hN MF KF (by decide) (by decide) hR)
theorem lo_35 {Q : Int → xH → Prop} {H : xH} (hT : ttTI H) (hX : ttXX YY H) (hS : lwS H) {i : Int} (i0 : 0 ≤ i) (i7 : i + 7 ≤ H.2.2.1 (-1))  (hR : lwRR H) (hq : ∀ K, ttTI K → ttXX YY K → lwS K → K.2.2.1 (-1) = H.2.2.1 (-1) → lwRR K → xW 15 cdLaw Q (1615, lwL i, [], K)) : xW 15 cdLaw Q (1169, lwL i, [], H) := by
  have hN : 210 ≤ (H.2.2.2.1 : Int) := by have := hT.1; omega
  refine q_al (i := 1) (x := 1) lp_1169 rfl ?_
  refine la_i lp_1170 lp_1171 lp_1172 lp_1173 lp_1174 hS i0 i7 (by decide) (by decide) ?_
  refine la_i lp_1175 lp_1176 lp_1177 lp_1178 lp_1179 hS i0 i7 (by decide) (by decide) ?_
  refine q_iv lp_1180 rfl rfl (ttKc hT (a := 1) (κ := 11) (len := 0) ⟨rfl, rfl⟩ (by decide) (by decide)).1 ?_
  refine (hc_100 m8.1.1.1.1.1.1.1.1) 15 (by decide) [(2, 1), (0, (H.1 (-1) (i + 1))), (0, (H.1 (-1) (i + 2)))] H hT hX ⟨⟨rfl, ttPk_of rfl⟩, ⟨rfl, ttPi_of (hS.2.2 _ (by omega) (by omega)).1 (Int.le_of_lt_add_one (hS.2.2 _ (by omega) (by omega)).2)⟩, ⟨rfl, ttPi_of (hS.2.2 _ (by omega) (by omega)).1 (Int.le_of_lt_add_one (hS.2.2 _ (by omega) (by omega)).2)⟩, trivial⟩ (fun _ hq => absurd hq List.not_mem_nil) _ (fun rM M MT MX MF _ _ => ?_)
  obtain ⟨mS, m7, -⟩ := lwS_fr MF hS
  have n7 : i + 7 ≤ M.2.2.1 (-1) := by omega
  refine q_pp lp_1181 ?_
  refine q_al (i := 2) (x := 183) lp_1182 rfl ?_
  refine la_i lp_1183 lp_1184 lp_1185 lp_1186 lp_1187 mS i0 n7 (by decide) (by decide) ?_
  refine la_i lp_1188 lp_1189 lp_1190 lp_1191 lp_1192 mS i0 n7 (by decide) (by decide) ?_
  refine q_iv lp_1193 rfl rfl (ttKc MT (a := 183) (κ := 12) (len := 0) ⟨rfl, rfl⟩ (by decide) (by decide)).1 ?_
  refine (hc_151 m8.1.1.1.1.1.1.1.1) 15 (by decide) [(2, 183), (0, (M.1 (-1) (i + 1))), (0, (M.1 (-1) (i + 2)))] M MT MX ⟨⟨rfl, ttPk_of rfl⟩, ⟨rfl, ttPi_of (mS.2.2 _ (by omega) (by omega)).1 (Int.le_of_lt_add_one (mS.2.2 _ (by omega) (by omega)).2)⟩, ⟨rfl, ttPi_of (mS.2.2 _ (by omega) (by omega)).1 (Int.le_of_lt_add_one (mS.2.2 _ (by omega) (by omega)).2)⟩, trivial⟩ (fun _ hq => absurd hq List.not_mem_nil) _ (fun rK K KT KX KF _ _ => ?_)
  refine q_pp lp_1194 ?_
  refine q_go lp_1195 ?_
  obtain ⟨kS, k7, -⟩ := lwS_fr KF mS
  exact hq K KT KX kS (by omega) (lwRR_fr hN MF KF (by decide) (by decide) hR)
theorem lo_36 {Q : Int → xH → Prop} {H : xH} (hT : ttTI H) (hX : ttXX YY H) (hS : lwS H) {i : Int} (i0 : 0 ≤ i) (i7 : i + 7 ≤ H.2.2.1 (-1))  (hR : lwRR H) (hq : ∀ K, ttTI K → ttXX YY K → lwS K → K.2.2.1 (-1) = H.2.2.1 (-1) → lwRR K → xW 15 cdLaw Q (1615, lwL i, [], K)) : xW 15 cdLaw Q (1196, lwL i, [], H) := by
  have hN : 210 ≤ (H.2.2.2.1 : Int) := by have := hT.1; omega
  refine q_al (i := 1) (x := 1) lp_1196 rfl ?_
  refine la_i lp_1197 lp_1198 lp_1199 lp_1200 lp_1201 hS i0 i7 (by decide) (by decide) ?_
  refine q_iv lp_1202 rfl rfl (ttKc hT (a := 1) (κ := 11) (len := 0) ⟨rfl, rfl⟩ (by decide) (by decide)).1 ?_
  refine (hc_101 m8.1.1.1.1.1.1.1.1) 15 (by decide) [(2, 1), (0, (H.1 (-1) (i + 1)))] H hT hX ⟨⟨rfl, ttPk_of rfl⟩, ⟨rfl, ttPi_of (hS.2.2 _ (by omega) (by omega)).1 (Int.le_of_lt_add_one (hS.2.2 _ (by omega) (by omega)).2)⟩, trivial⟩ (fun _ hq => absurd hq List.not_mem_nil) _ (fun rM M MT MX MF _ _ => ?_)
  obtain ⟨mS, m7, -⟩ := lwS_fr MF hS
  have n7 : i + 7 ≤ M.2.2.1 (-1) := by omega
  refine q_pp lp_1203 ?_
  refine q_al (i := 2) (x := 183) lp_1204 rfl ?_
  refine la_i lp_1205 lp_1206 lp_1207 lp_1208 lp_1209 mS i0 n7 (by decide) (by decide) ?_
  refine q_iv lp_1210 rfl rfl (ttKc MT (a := 183) (κ := 12) (len := 0) ⟨rfl, rfl⟩ (by decide) (by decide)).1 ?_
  refine (hc_152 m8.1.1.1.1.1.1.1.1) 15 (by decide) [(2, 183), (0, (M.1 (-1) (i + 1)))] M MT MX ⟨⟨rfl, ttPk_of rfl⟩, ⟨rfl, ttPi_of (mS.2.2 _ (by omega) (by omega)).1 (Int.le_of_lt_add_one (mS.2.2 _ (by omega) (by omega)).2)⟩, trivial⟩ (fun _ hq => absurd hq List.not_mem_nil) _ (fun rK K KT KX KF _ _ => ?_)
  refine q_pp lp_1211 ?_
  refine q_go lp_1212 ?_
  obtain ⟨kS, k7, -⟩ := lwS_fr KF mS
  exact hq K KT KX kS (by omega) (lwRR_fr hN MF KF (by decide) (by decide) hR)
theorem lo_37 {Q : Int → xH → Prop} {H : xH} (hT : ttTI H) (hX : ttXX YY H) (hS : lwS H) {i : Int} (i0 : 0 ≤ i) (i7 : i + 7 ≤ H.2.2.1 (-1))  (hR : lwRR H) (hq : ∀ K, ttTI K → ttXX YY K → lwS K → K.2.2.1 (-1) = H.2.2.1 (-1) → lwRR K → xW 15 cdLaw Q (1615, lwL i, [], K)) : xW 15 cdLaw Q (1213, lwL i, [], H) := by
  have hN : 210 ≤ (H.2.2.2.1 : Int) := by have := hT.1; omega
  refine q_al (i := 1) (x := 1) lp_1213 rfl ?_
  refine la_i lp_1214 lp_1215 lp_1216 lp_1217 lp_1218 hS i0 i7 (by decide) (by decide) ?_
  refine la_i lp_1219 lp_1220 lp_1221 lp_1222 lp_1223 hS i0 i7 (by decide) (by decide) ?_
  refine q_iv lp_1224 rfl rfl (ttKc hT (a := 1) (κ := 11) (len := 0) ⟨rfl, rfl⟩ (by decide) (by decide)).1 ?_
  refine (hc_102 m8.1.1.1.1.1.1.1.1) 15 (by decide) [(2, 1), (0, (H.1 (-1) (i + 1))), (0, (H.1 (-1) (i + 2)))] H hT hX ⟨⟨rfl, ttPk_of rfl⟩, ⟨rfl, ttPi_of (hS.2.2 _ (by omega) (by omega)).1 (Int.le_of_lt_add_one (hS.2.2 _ (by omega) (by omega)).2)⟩, ⟨rfl, ttPi_of (hS.2.2 _ (by omega) (by omega)).1 (Int.le_of_lt_add_one (hS.2.2 _ (by omega) (by omega)).2)⟩, trivial⟩ (fun _ hq => absurd hq List.not_mem_nil) _ (fun rM M MT MX MF _ _ => ?_)
  obtain ⟨mS, m7, -⟩ := lwS_fr MF hS
  have n7 : i + 7 ≤ M.2.2.1 (-1) := by omega
  refine q_pp lp_1225 ?_
  refine q_al (i := 2) (x := 183) lp_1226 rfl ?_
  refine la_i lp_1227 lp_1228 lp_1229 lp_1230 lp_1231 mS i0 n7 (by decide) (by decide) ?_
  refine la_i lp_1232 lp_1233 lp_1234 lp_1235 lp_1236 mS i0 n7 (by decide) (by decide) ?_
  refine q_iv lp_1237 rfl rfl (ttKc MT (a := 183) (κ := 12) (len := 0) ⟨rfl, rfl⟩ (by decide) (by decide)).1 ?_
  refine (hc_211 m8.1.1.1) 15 (by decide) [(2, 183), (0, (M.1 (-1) (i + 1))), (0, (M.1 (-1) (i + 2)))] M MT MX ⟨⟨rfl, ttPk_of rfl⟩, ⟨rfl, ttPi_of (mS.2.2 _ (by omega) (by omega)).1 (Int.le_of_lt_add_one (mS.2.2 _ (by omega) (by omega)).2)⟩, ⟨rfl, ttPi_of (mS.2.2 _ (by omega) (by omega)).1 (Int.le_of_lt_add_one (mS.2.2 _ (by omega) (by omega)).2)⟩, trivial⟩ (fun _ hq => absurd hq List.not_mem_nil) _ (fun rK K KT KX KF _ _ => ?_)
  refine q_pp lp_1238 ?_
  refine q_go lp_1239 ?_
  obtain ⟨kS, k7, -⟩ := lwS_fr KF mS
  exact hq K KT KX kS (by omega) (lwRR_fr hN MF KF (by decide) (by decide) hR)
theorem lo_38 {Q : Int → xH → Prop} {H : xH} (hT : ttTI H) (hX : ttXX YY H) (hS : lwS H) {i : Int} (i0 : 0 ≤ i) (i7 : i + 7 ≤ H.2.2.1 (-1))  (hR : lwRR H) (hq : ∀ K, ttTI K → ttXX YY K → lwS K → K.2.2.1 (-1) = H.2.2.1 (-1) → lwRR K → xW 15 cdLaw Q (1615, lwL i, [], K)) : xW 15 cdLaw Q (1240, lwL i, [], H) := by
  have hN : 210 ≤ (H.2.2.2.1 : Int) := by have := hT.1; omega
  refine q_al (i := 1) (x := 1) lp_1240 rfl ?_
  refine la_i lp_1241 lp_1242 lp_1243 lp_1244 lp_1245 hS i0 i7 (by decide) (by decide) ?_
  refine la_i lp_1246 lp_1247 lp_1248 lp_1249 lp_1250 hS i0 i7 (by decide) (by decide) ?_
  refine la_i lp_1251 lp_1252 lp_1253 lp_1254 lp_1255 hS i0 i7 (by decide) (by decide) ?_
  refine q_iv lp_1256 rfl rfl (ttKc hT (a := 1) (κ := 11) (len := 0) ⟨rfl, rfl⟩ (by decide) (by decide)).1 ?_
  refine (hc_198 m8.1.1.1.1.1.1) 15 (by decide) [(2, 1), (0, (H.1 (-1) (i + 1))), (0, (H.1 (-1) (i + 2))), (0, (H.1 (-1) (i + 3)))] H hT hX ⟨⟨rfl, ttPk_of rfl⟩, ⟨rfl, ttPi_of (hS.2.2 _ (by omega) (by omega)).1 (Int.le_of_lt_add_one (hS.2.2 _ (by omega) (by omega)).2)⟩, ⟨rfl, ttPi_of (hS.2.2 _ (by omega) (by omega)).1 (Int.le_of_lt_add_one (hS.2.2 _ (by omega) (by omega)).2)⟩, ⟨rfl, ttPi_of (hS.2.2 _ (by omega) (by omega)).1 (Int.le_of_lt_add_one (hS.2.2 _ (by omega) (by omega)).2)⟩, trivial⟩ (fun _ hq => absurd hq List.not_mem_nil) _ (fun rM M MT MX MF _ _ => ?_)
  obtain ⟨mS, m7, -⟩ := lwS_fr MF hS
  have n7 : i + 7 ≤ M.2.2.1 (-1) := by omega
  refine q_pp lp_1257 ?_
  refine q_al (i := 2) (x := 183) lp_1258 rfl ?_
  refine la_i lp_1259 lp_1260 lp_1261 lp_1262 lp_1263 mS i0 n7 (by decide) (by decide) ?_
  refine la_i lp_1264 lp_1265 lp_1266 lp_1267 lp_1268 mS i0 n7 (by decide) (by decide) ?_
  refine la_i lp_1269 lp_1270 lp_1271 lp_1272 lp_1273 mS i0 n7 (by decide) (by decide) ?_
  refine q_iv lp_1274 rfl rfl (ttKc MT (a := 183) (κ := 12) (len := 0) ⟨rfl, rfl⟩ (by decide) (by decide)).1 ?_
  refine (hc_240 m8.1) 15 (by decide) [(2, 183), (0, (M.1 (-1) (i + 1))), (0, (M.1 (-1) (i + 2))), (0, (M.1 (-1) (i + 3)))] M MT MX ⟨⟨rfl, ttPk_of rfl⟩, ⟨rfl, ttPi_of (mS.2.2 _ (by omega) (by omega)).1 (Int.le_of_lt_add_one (mS.2.2 _ (by omega) (by omega)).2)⟩, ⟨rfl, ttPi_of (mS.2.2 _ (by omega) (by omega)).1 (Int.le_of_lt_add_one (mS.2.2 _ (by omega) (by omega)).2)⟩, ⟨rfl, ttPi_of (mS.2.2 _ (by omega) (by omega)).1 (Int.le_of_lt_add_one (mS.2.2 _ (by omega) (by omega)).2)⟩, trivial⟩ (fun _ hq => absurd hq List.not_mem_nil) _ (fun rK K KT KX KF _ _ => ?_)
  refine q_pp lp_1275 ?_
  refine q_go lp_1276 ?_
  obtain ⟨kS, k7, -⟩ := lwS_fr KF mS
  exact hq K KT KX kS (by omega) (lwRR_fr hN MF KF (by decide) (by decide) hR)
theorem lo_39 {Q : Int → xH → Prop} {H : xH} (hT : ttTI H) (hX : ttXX YY H) (hS : lwS H) {i : Int} (i0 : 0 ≤ i) (i7 : i + 7 ≤ H.2.2.1 (-1))  (hR : lwRR H) (hq : ∀ K, ttTI K → ttXX YY K → lwS K → K.2.2.1 (-1) = H.2.2.1 (-1) → lwRR K → xW 15 cdLaw Q (1615, lwL i, [], K)) : xW 15 cdLaw Q (1277, lwL i, [], H) := by
  have hN : 210 ≤ (H.2.2.2.1 : Int) := by have := hT.1; omega
  refine q_al (i := 1) (x := 1) lp_1277 rfl ?_
  refine la_i lp_1278 lp_1279 lp_1280 lp_1281 lp_1282 hS i0 i7 (by decide) (by decide) ?_
  refine la_i lp_1283 lp_1284 lp_1285 lp_1286 lp_1287 hS i0 i7 (by decide) (by decide) ?_
  refine la_i lp_1288 lp_1289 lp_1290 lp_1291 lp_1292 hS i0 i7 (by decide) (by decide) ?_
  refine q_iv lp_1293 rfl rfl (ttKc hT (a := 1) (κ := 11) (len := 0) ⟨rfl, rfl⟩ (by decide) (by decide)).1 ?_
  refine (hc_199 m8.1.1.1.1.1.1) 15 (by decide) [(2, 1), (0, (H.1 (-1) (i + 1))), (0, (H.1 (-1) (i + 2))), (0, (H.1 (-1) (i + 3)))] H hT hX ⟨⟨rfl, ttPk_of rfl⟩, ⟨rfl, ttPi_of (hS.2.2 _ (by omega) (by omega)).1 (Int.le_of_lt_add_one (hS.2.2 _ (by omega) (by omega)).2)⟩, ⟨rfl, ttPi_of (hS.2.2 _ (by omega) (by omega)).1 (Int.le_of_lt_add_one (hS.2.2 _ (by omega) (by omega)).2)⟩, ⟨rfl, ttPi_of (hS.2.2 _ (by omega) (by omega)).1 (Int.le_of_lt_add_one (hS.2.2 _ (by omega) (by omega)).2)⟩, trivial⟩ (fun _ hq => absurd hq List.not_mem_nil) _ (fun rM M MT MX MF _ _ => ?_)
  obtain ⟨mS, m7, -⟩ := lwS_fr MF hS
  have n7 : i + 7 ≤ M.2.2.1 (-1) := by omega
  refine q_pp lp_1294 ?_
  refine q_al (i := 2) (x := 183) lp_1295 rfl ?_
  refine la_i lp_1296 lp_1297 lp_1298 lp_1299 lp_1300 mS i0 n7 (by decide) (by decide) ?_
  refine la_i lp_1301 lp_1302 lp_1303 lp_1304 lp_1305 mS i0 n7 (by decide) (by decide) ?_
  refine la_i lp_1306 lp_1307 lp_1308 lp_1309 lp_1310 mS i0 n7 (by decide) (by decide) ?_
  refine q_iv lp_1311 rfl rfl (ttKc MT (a := 183) (κ := 12) (len := 0) ⟨rfl, rfl⟩ (by decide) (by decide)).1 ?_
  refine (hc_241 m8.1) 15 (by decide) [(2, 183), (0, (M.1 (-1) (i + 1))), (0, (M.1 (-1) (i + 2))), (0, (M.1 (-1) (i + 3)))] M MT MX ⟨⟨rfl, ttPk_of rfl⟩, ⟨rfl, ttPi_of (mS.2.2 _ (by omega) (by omega)).1 (Int.le_of_lt_add_one (mS.2.2 _ (by omega) (by omega)).2)⟩, ⟨rfl, ttPi_of (mS.2.2 _ (by omega) (by omega)).1 (Int.le_of_lt_add_one (mS.2.2 _ (by omega) (by omega)).2)⟩, ⟨rfl, ttPi_of (mS.2.2 _ (by omega) (by omega)).1 (Int.le_of_lt_add_one (mS.2.2 _ (by omega) (by omega)).2)⟩, trivial⟩ (fun _ hq => absurd hq List.not_mem_nil) _ (fun rK K KT KX KF _ _ => ?_)
  refine q_pp lp_1312 ?_
  refine q_go lp_1313 ?_
  obtain ⟨kS, k7, -⟩ := lwS_fr KF mS
  exact hq K KT KX kS (by omega) (lwRR_fr hN MF KF (by decide) (by decide) hR)
theorem lo_40 {Q : Int → xH → Prop} {H : xH} (hT : ttTI H) (hX : ttXX YY H) (hS : lwS H) {i : Int} (i0 : 0 ≤ i) (i7 : i + 7 ≤ H.2.2.1 (-1))  (hR : lwRR H) (hq : ∀ K, ttTI K → ttXX YY K → lwS K → K.2.2.1 (-1) = H.2.2.1 (-1) → lwRR K → xW 15 cdLaw Q (1615, lwL i, [], K)) : xW 15 cdLaw Q (1314, lwL i, [], H) := by
  have hN : 210 ≤ (H.2.2.2.1 : Int) := by have := hT.1; omega
  refine q_al (i := 1) (x := 1) lp_1314 rfl ?_
  refine la_i lp_1315 lp_1316 lp_1317 lp_1318 lp_1319 hS i0 i7 (by decide) (by decide) ?_
  refine la_i lp_1320 lp_1321 lp_1322 lp_1323 lp_1324 hS i0 i7 (by decide) (by decide) ?_
  refine la_i lp_1325 lp_1326 lp_1327 lp_1328 lp_1329 hS i0 i7 (by decide) (by decide) ?_
  refine la_i lp_1330 lp_1331 lp_1332 lp_1333 lp_1334 hS i0 i7 (by decide) (by decide) ?_
  refine q_iv lp_1335 rfl rfl (ttKc hT (a := 1) (κ := 11) (len := 0) ⟨rfl, rfl⟩ (by decide) (by decide)).1 ?_
  refine (hc_200 m8.1.1.1.1.1.1) 15 (by decide) [(2, 1), (0, (H.1 (-1) (i + 1))), (0, (H.1 (-1) (i + 2))), (0, (H.1 (-1) (i + 3))), (0, (H.1 (-1) (i + 4)))] H hT hX ⟨⟨rfl, ttPk_of rfl⟩, ⟨rfl, ttPi_of (hS.2.2 _ (by omega) (by omega)).1 (Int.le_of_lt_add_one (hS.2.2 _ (by omega) (by omega)).2)⟩, ⟨rfl, ttPi_of (hS.2.2 _ (by omega) (by omega)).1 (Int.le_of_lt_add_one (hS.2.2 _ (by omega) (by omega)).2)⟩, ⟨rfl, ttPi_of (hS.2.2 _ (by omega) (by omega)).1 (Int.le_of_lt_add_one (hS.2.2 _ (by omega) (by omega)).2)⟩, ⟨rfl, ttPi_of (hS.2.2 _ (by omega) (by omega)).1 (Int.le_of_lt_add_one (hS.2.2 _ (by omega) (by omega)).2)⟩, trivial⟩ (fun _ hq => absurd hq List.not_mem_nil) _ (fun rM M MT MX MF _ _ => ?_)
  obtain ⟨mS, m7, -⟩ := lwS_fr MF hS
  have n7 : i + 7 ≤ M.2.2.1 (-1) := by omega
  refine q_pp lp_1336 ?_
  refine q_al (i := 2) (x := 183) lp_1337 rfl ?_
  refine la_i lp_1338 lp_1339 lp_1340 lp_1341 lp_1342 mS i0 n7 (by decide) (by decide) ?_
  refine la_i lp_1343 lp_1344 lp_1345 lp_1346 lp_1347 mS i0 n7 (by decide) (by decide) ?_
  refine la_i lp_1348 lp_1349 lp_1350 lp_1351 lp_1352 mS i0 n7 (by decide) (by decide) ?_
  refine la_i lp_1353 lp_1354 lp_1355 lp_1356 lp_1357 mS i0 n7 (by decide) (by decide) ?_
  refine q_iv lp_1358 rfl rfl (ttKc MT (a := 183) (κ := 12) (len := 0) ⟨rfl, rfl⟩ (by decide) (by decide)).1 ?_
  refine (hc_242 m8.1) 15 (by decide) [(2, 183), (0, (M.1 (-1) (i + 1))), (0, (M.1 (-1) (i + 2))), (0, (M.1 (-1) (i + 3))), (0, (M.1 (-1) (i + 4)))] M MT MX ⟨⟨rfl, ttPk_of rfl⟩, ⟨rfl, ttPi_of (mS.2.2 _ (by omega) (by omega)).1 (Int.le_of_lt_add_one (mS.2.2 _ (by omega) (by omega)).2)⟩, ⟨rfl, ttPi_of (mS.2.2 _ (by omega) (by omega)).1 (Int.le_of_lt_add_one (mS.2.2 _ (by omega) (by omega)).2)⟩, ⟨rfl, ttPi_of (mS.2.2 _ (by omega) (by omega)).1 (Int.le_of_lt_add_one (mS.2.2 _ (by omega) (by omega)).2)⟩, ⟨rfl, ttPi_of (mS.2.2 _ (by omega) (by omega)).1 (Int.le_of_lt_add_one (mS.2.2 _ (by omega) (by omega)).2)⟩, trivial⟩ (fun _ hq => absurd hq List.not_mem_nil) _ (fun rK K KT KX KF _ _ => ?_)
  refine q_pp lp_1359 ?_
  refine q_go lp_1360 ?_
  obtain ⟨kS, k7, -⟩ := lwS_fr KF mS
  exact hq K KT KX kS (by omega) (lwRR_fr hN MF KF (by decide) (by decide) hR)
theorem lo_41 {Q : Int → xH → Prop} {H : xH} (hT : ttTI H) (hX : ttXX YY H) (hS : lwS H) {i : Int} (i0 : 0 ≤ i) (i7 : i + 7 ≤ H.2.2.1 (-1))  (hR : lwRR H) (hq : ∀ K, ttTI K → ttXX YY K → lwS K → K.2.2.1 (-1) = H.2.2.1 (-1) → lwRR K → xW 15 cdLaw Q (1615, lwL i, [], K)) : xW 15 cdLaw Q (1361, lwL i, [], H) := by
  have hN : 210 ≤ (H.2.2.2.1 : Int) := by have := hT.1; omega
  refine q_al (i := 1) (x := 1) lp_1361 rfl ?_
  refine q_iv lp_1362 rfl rfl (ttKc hT (a := 1) (κ := 11) (len := 0) ⟨rfl, rfl⟩ (by decide) (by decide)).1 ?_
  refine (hc_111 m8.1.1.1.1.1.1.1.1) 15 (by decide) [(2, 1)] H hT hX ⟨⟨rfl, ttPk_of rfl⟩, trivial⟩ (fun _ hq => absurd hq List.not_mem_nil) _ (fun rM M MT MX MF _ _ => ?_)
  obtain ⟨mS, m7, -⟩ := lwS_fr MF hS
  have n7 : i + 7 ≤ M.2.2.1 (-1) := by omega
  refine q_pp lp_1363 ?_
  refine q_al (i := 2) (x := 183) lp_1364 rfl ?_
  refine q_iv lp_1365 rfl rfl (ttKc MT (a := 183) (κ := 12) (len := 0) ⟨rfl, rfl⟩ (by decide) (by decide)).1 ?_
  refine (hc_243 m8) 15 (by decide) [(2, 183)] M MT MX ⟨⟨rfl, ttPk_of rfl⟩, trivial⟩ (fun _ hq => absurd hq List.not_mem_nil) _ (fun rK K KT KX KF _ _ => ?_)
  refine q_pp lp_1366 ?_
  refine q_go lp_1367 ?_
  obtain ⟨kS, k7, -⟩ := lwS_fr KF mS
  exact hq K KT KX kS (by omega) (lwRR_fr hN MF KF (by decide) (by decide) hR)
theorem lo_42 {Q : Int → xH → Prop} {H : xH} (hT : ttTI H) (hX : ttXX YY H) (hS : lwS H) {i : Int} (i0 : 0 ≤ i) (i7 : i + 7 ≤ H.2.2.1 (-1))  (hR : lwRR H) (hq : ∀ K, ttTI K → ttXX YY K → lwS K → K.2.2.1 (-1) = H.2.2.1 (-1) → lwRR K → xW 15 cdLaw Q (1615, lwL i, [], K)) : xW 15 cdLaw Q (1368, lwL i, [], H) := by
  have hN : 210 ≤ (H.2.2.2.1 : Int) := by have := hT.1; omega
  refine q_al (i := 1) (x := 1) lp_1368 rfl ?_
  refine la_i lp_1369 lp_1370 lp_1371 lp_1372 lp_1373 hS i0 i7 (by decide) (by decide) ?_
  refine q_iv lp_1374 rfl rfl (ttKc hT (a := 1) (κ := 11) (len := 0) ⟨rfl, rfl⟩ (by decide) (by decide)).1 ?_
  refine (hc_115 m8.1.1.1.1.1.1.1.1) 15 (by decide) [(2, 1), (0, (H.1 (-1) (i + 1)))] H hT hX ⟨⟨rfl, ttPk_of rfl⟩, ⟨rfl, ttPi_of (hS.2.2 _ (by omega) (by omega)).1 (Int.le_of_lt_add_one (hS.2.2 _ (by omega) (by omega)).2)⟩, trivial⟩ (fun _ hq => absurd hq List.not_mem_nil) _ (fun rM M MT MX MF _ _ => ?_)
  obtain ⟨mS, m7, -⟩ := lwS_fr MF hS
  have n7 : i + 7 ≤ M.2.2.1 (-1) := by omega
  refine q_pp lp_1375 ?_
  refine q_al (i := 2) (x := 183) lp_1376 rfl ?_
  refine la_i lp_1377 lp_1378 lp_1379 lp_1380 lp_1381 mS i0 n7 (by decide) (by decide) ?_
  refine q_iv lp_1382 rfl rfl (ttKc MT (a := 183) (κ := 12) (len := 0) ⟨rfl, rfl⟩ (by decide) (by decide)).1 ?_
  refine hm_way 15 (by decide) [(2, 183), (0, (M.1 (-1) (i + 1)))] M MT MX ⟨⟨rfl, ttPk_of rfl⟩, ⟨rfl, ttPi_of (mS.2.2 _ (by omega) (by omega)).1 (Int.le_of_lt_add_one (mS.2.2 _ (by omega) (by omega)).2)⟩, trivial⟩ (fun _ hq => absurd hq List.not_mem_nil) _ (fun rK K KT KX KF _ _ => ?_)
  refine q_pp lp_1383 ?_
  refine q_go lp_1384 ?_
  obtain ⟨kS, k7, -⟩ := lwS_fr KF mS
  exact hq K KT KX kS (by omega) (lwRR_fr hN MF KF (by decide) (by decide) hR)
theorem lo_43 {Q : Int → xH → Prop} {H : xH} (hT : ttTI H) (hX : ttXX YY H) (hS : lwS H) {i : Int} (i0 : 0 ≤ i) (i7 : i + 7 ≤ H.2.2.1 (-1))  (hR : lwRR H) (hq : ∀ K, ttTI K → ttXX YY K → lwS K → K.2.2.1 (-1) = H.2.2.1 (-1) → lwRR K → xW 15 cdLaw Q (1615, lwL i, [], K)) : xW 15 cdLaw Q (1385, lwL i, [], H) := by
  have hN : 210 ≤ (H.2.2.2.1 : Int) := by have := hT.1; omega
  refine q_al (i := 1) (x := 1) lp_1385 rfl ?_
  refine la_i lp_1386 lp_1387 lp_1388 lp_1389 lp_1390 hS i0 i7 (by decide) (by decide) ?_
  refine q_iv lp_1391 rfl rfl (ttKc hT (a := 1) (κ := 11) (len := 0) ⟨rfl, rfl⟩ (by decide) (by decide)).1 ?_
  refine (hc_116 m8.1.1.1.1.1.1.1.1) 15 (by decide) [(2, 1), (0, (H.1 (-1) (i + 1)))] H hT hX ⟨⟨rfl, ttPk_of rfl⟩, ⟨rfl, ttPi_of (hS.2.2 _ (by omega) (by omega)).1 (Int.le_of_lt_add_one (hS.2.2 _ (by omega) (by omega)).2)⟩, trivial⟩ (fun _ hq => absurd hq List.not_mem_nil) _ (fun rM M MT MX MF _ _ => ?_)
  obtain ⟨mS, m7, -⟩ := lwS_fr MF hS
  have n7 : i + 7 ≤ M.2.2.1 (-1) := by omega
  refine q_pp lp_1392 ?_
  refine q_al (i := 2) (x := 183) lp_1393 rfl ?_
  refine la_i lp_1394 lp_1395 lp_1396 lp_1397 lp_1398 mS i0 n7 (by decide) (by decide) ?_
  refine q_iv lp_1399 rfl rfl (ttKc MT (a := 183) (κ := 12) (len := 0) ⟨rfl, rfl⟩ (by decide) (by decide)).1 ?_
  refine (hc_244 m8) 15 (by decide) [(2, 183), (0, (M.1 (-1) (i + 1)))] M MT MX ⟨⟨rfl, ttPk_of rfl⟩, ⟨rfl, ttPi_of (mS.2.2 _ (by omega) (by omega)).1 (Int.le_of_lt_add_one (mS.2.2 _ (by omega) (by omega)).2)⟩, trivial⟩ (fun _ hq => absurd hq List.not_mem_nil) _ (fun rK K KT KX KF _ _ => ?_)
  refine q_pp lp_1400 ?_
  refine q_go lp_1401 ?_
  obtain ⟨kS, k7, -⟩ := lwS_fr KF mS
  exact hq K KT KX kS (by omega) (lwRR_fr hN MF KF (by decide) (by decide) hR)
theorem lo_44 {Q : Int → xH → Prop} {H : xH} (hT : ttTI H) (hX : ttXX YY H) (hS : lwS H) {i : Int} (i0 : 0 ≤ i) (i7 : i + 7 ≤ H.2.2.1 (-1))  (hR : lwRR H) (hq : ∀ K, ttTI K → ttXX YY K → lwS K → K.2.2.1 (-1) = H.2.2.1 (-1) → lwRR K → xW 15 cdLaw Q (1615, lwL i, [], K)) : xW 15 cdLaw Q (1402, lwL i, [], H) := by
  have hN : 210 ≤ (H.2.2.2.1 : Int) := by have := hT.1; omega
  refine q_al (i := 1) (x := 1) lp_1402 rfl ?_
  refine q_iv lp_1403 rfl rfl (ttKc hT (a := 1) (κ := 11) (len := 0) ⟨rfl, rfl⟩ (by decide) (by decide)).1 ?_
  refine (hc_119 m8.1.1.1.1.1.1.1.1) 15 (by decide) [(2, 1)] H hT hX ⟨⟨rfl, ttPk_of rfl⟩, trivial⟩ (fun _ hq => absurd hq List.not_mem_nil) _ (fun rM M MT MX MF _ _ => ?_)
  obtain ⟨mS, m7, -⟩ := lwS_fr MF hS
  have n7 : i + 7 ≤ M.2.2.1 (-1) := by omega
  refine q_pp lp_1404 ?_
  refine q_al (i := 2) (x := 183) lp_1405 rfl ?_
  refine q_iv lp_1406 rfl rfl (ttKc MT (a := 183) (κ := 12) (len := 0) ⟨rfl, rfl⟩ (by decide) (by decide)).1 ?_
  refine (hc_245 m8) 15 (by decide) [(2, 183)] M MT MX ⟨⟨rfl, ttPk_of rfl⟩, trivial⟩ (fun _ hq => absurd hq List.not_mem_nil) _ (fun rK K KT KX KF _ _ => ?_)
  refine q_pp lp_1407 ?_
  refine q_go lp_1408 ?_
  obtain ⟨kS, k7, -⟩ := lwS_fr KF mS
  exact hq K KT KX kS (by omega) (lwRR_fr hN MF KF (by decide) (by decide) hR)
theorem lo_45 {Q : Int → xH → Prop} {H : xH} (hT : ttTI H) (hX : ttXX YY H) (hS : lwS H) {i : Int} (i0 : 0 ≤ i) (i7 : i + 7 ≤ H.2.2.1 (-1))  (hR : lwRR H) (hq : ∀ K, ttTI K → ttXX YY K → lwS K → K.2.2.1 (-1) = H.2.2.1 (-1) → lwRR K → xW 15 cdLaw Q (1615, lwL i, [], K)) : xW 15 cdLaw Q (1409, lwL i, [], H) := by
  have hN : 210 ≤ (H.2.2.2.1 : Int) := by have := hT.1; omega
  refine q_al (i := 1) (x := 1) lp_1409 rfl ?_
  refine la_i lp_1410 lp_1411 lp_1412 lp_1413 lp_1414 hS i0 i7 (by decide) (by decide) ?_
  refine q_iv lp_1415 rfl rfl (ttKc hT (a := 1) (κ := 11) (len := 0) ⟨rfl, rfl⟩ (by decide) (by decide)).1 ?_
  refine (hc_121 m8.1.1.1.1.1.1.1.1) 15 (by decide) [(2, 1), (0, (H.1 (-1) (i + 1)))] H hT hX ⟨⟨rfl, ttPk_of rfl⟩, ⟨rfl, ttPi_of (hS.2.2 _ (by omega) (by omega)).1 (Int.le_of_lt_add_one (hS.2.2 _ (by omega) (by omega)).2)⟩, trivial⟩ (fun _ hq => absurd hq List.not_mem_nil) _ (fun rM M MT MX MF _ _ => ?_)
  obtain ⟨mS, m7, -⟩ := lwS_fr MF hS
  have n7 : i + 7 ≤ M.2.2.1 (-1) := by omega
  refine q_pp lp_1416 ?_
  refine q_al (i := 2) (x := 183) lp_1417 rfl ?_
  refine la_i lp_1418 lp_1419 lp_1420 lp_1421 lp_1422 mS i0 n7 (by decide) (by decide) ?_
  refine q_iv lp_1423 rfl rfl (ttKc MT (a := 183) (κ := 12) (len := 0) ⟨rfl, rfl⟩ (by decide) (by decide)).1 ?_
  refine (hc_154 m8.1.1.1.1.1.1.1.1) 15 (by decide) [(2, 183), (0, (M.1 (-1) (i + 1)))] M MT MX ⟨⟨rfl, ttPk_of rfl⟩, ⟨rfl, ttPi_of (mS.2.2 _ (by omega) (by omega)).1 (Int.le_of_lt_add_one (mS.2.2 _ (by omega) (by omega)).2)⟩, trivial⟩ (fun _ hq => absurd hq List.not_mem_nil) _ (fun rK K KT KX KF _ _ => ?_)
  refine q_pp lp_1424 ?_
  refine q_go lp_1425 ?_
  obtain ⟨kS, k7, -⟩ := lwS_fr KF mS
  exact hq K KT KX kS (by omega) (lwRR_fr hN MF KF (by decide) (by decide) hR)
theorem lo_46 {Q : Int → xH → Prop} {H : xH} (hT : ttTI H) (hX : ttXX YY H) (hS : lwS H) {i : Int} (i0 : 0 ≤ i) (i7 : i + 7 ≤ H.2.2.1 (-1))  (hR : lwRR H) (hq : ∀ K, ttTI K → ttXX YY K → lwS K → K.2.2.1 (-1) = H.2.2.1 (-1) → lwRR K → xW 15 cdLaw Q (1615, lwL i, [], K)) : xW 15 cdLaw Q (1426, lwL i, [], H) := by
  have hN : 210 ≤ (H.2.2.2.1 : Int) := by have := hT.1; omega
  refine q_al (i := 1) (x := 1) lp_1426 rfl ?_
  refine la_i lp_1427 lp_1428 lp_1429 lp_1430 lp_1431 hS i0 i7 (by decide) (by decide) ?_
  refine q_iv lp_1432 rfl rfl (ttKc hT (a := 1) (κ := 11) (len := 0) ⟨rfl, rfl⟩ (by decide) (by decide)).1 ?_
  refine lz_keep1 (by decide) hT hX (lwRO_5 hR.1) rfl (lwRO_W hR.1 (lwRO_5 hR.1)) (fun k k0 k2 => (hR.2.2 k k0 k2).1) ⟨(hS.2.2 _ (by omega) (by omega)).1, Int.le_of_lt_add_one (hS.2.2 _ (by omega) (by omega)).2⟩ (fun r M Me Mz M1 M2 MT MX MF => ?_)
  obtain ⟨mS, m7, mj⟩ := lwS_fr MF hS
  have n7 : i + 7 ≤ M.2.2.1 (-1) := by omega
  refine q_pp lp_1433 ?_
  refine q_al (i := 2) (x := 183) lp_1434 rfl ?_
  refine la_i lp_1435 lp_1436 lp_1437 lp_1438 lp_1439 mS i0 n7 (by decide) (by decide) ?_
  simp only [mj]
  refine q_iv lp_1440 rfl rfl (ttKc MT (a := 183) (κ := 12) (len := 0) ⟨rfl, rfl⟩ (by decide) (by decide)).1 ?_
  refine lz_keep2 (by decide) MT MX ⟨(hS.2.2 _ (by omega) (by omega)).1, Int.le_of_lt_add_one (hS.2.2 _ (by omega) (by omega)).2⟩ (fun r2 K Ke Kz K1 K2 KT KX KF => ?_)
  obtain ⟨kS, k7, -⟩ := lwS_fr KF mS
  have kR : lwRR K := rs_keep hN hR MF KF Mz Kz M1 M2 K1 K2
  refine q_pp lp_1441 ?_
  refine q_go lp_1442 ?_
  exact hq K KT KX kS (by omega) kR
theorem lo_47 {Q : Int → xH → Prop} {H : xH} (hT : ttTI H) (hX : ttXX YY H) (hS : lwS H) {i : Int} (i0 : 0 ≤ i) (i7 : i + 7 ≤ H.2.2.1 (-1))  (hR : lwRR H) (hq : ∀ K, ttTI K → ttXX YY K → lwS K → K.2.2.1 (-1) = H.2.2.1 (-1) → lwRR K → xW 15 cdLaw Q (1615, lwL i, [], K)) : xW 15 cdLaw Q (1443, lwL i, [], H) := by
  have hN : 210 ≤ (H.2.2.2.1 : Int) := by have := hT.1; omega
  refine q_al (i := 1) (x := 1) lp_1443 rfl ?_
  refine la_i lp_1444 lp_1445 lp_1446 lp_1447 lp_1448 hS i0 i7 (by decide) (by decide) ?_
  refine q_iv lp_1449 rfl rfl (ttKc hT (a := 1) (κ := 11) (len := 0) ⟨rfl, rfl⟩ (by decide) (by decide)).1 ?_
  refine lz_back1 (by decide) hT hX (lwRO_5 hR.1) rfl (lwRO_W hR.1 (lwRO_5 hR.1)) (fun k k0 k2 => (hR.2.2 k k0 k2).1) ⟨(hS.2.2 _ (by omega) (by omega)).1, Int.le_of_lt_add_one (hS.2.2 _ (by omega) (by omega)).2⟩ (fun r M Me M1 M2 MT MX MF => ?_)
  obtain ⟨mS, m7, mj⟩ := lwS_fr MF hS
  have n7 : i + 7 ≤ M.2.2.1 (-1) := by omega
  refine q_pp lp_1450 ?_
  refine q_al (i := 2) (x := 183) lp_1451 rfl ?_
  refine la_i lp_1452 lp_1453 lp_1454 lp_1455 lp_1456 mS i0 n7 (by decide) (by decide) ?_
  simp only [mj]
  refine q_iv lp_1457 rfl rfl (ttKc MT (a := 183) (κ := 12) (len := 0) ⟨rfl, rfl⟩ (by decide) (by decide)).1 ?_
  refine lz_back2 (by decide) MT MX ⟨(hS.2.2 _ (by omega) (by omega)).1, Int.le_of_lt_add_one (hS.2.2 _ (by omega) (by omega)).2⟩ (fun r2 K Ke K1 K2 KT KX KF => ?_)
  obtain ⟨kS, k7, -⟩ := lwS_fr KF mS
  have kR : lwRR K := rs_back hN hR MF KF M1 M2 K1 K2
  refine q_pp lp_1458 ?_
  refine q_go lp_1459 ?_
  exact hq K KT KX kS (by omega) kR
theorem lo_48 {Q : Int → xH → Prop} {H : xH} (hT : ttTI H) (hX : ttXX YY H) (hS : lwS H) {i : Int} (i0 : 0 ≤ i) (i7 : i + 7 ≤ H.2.2.1 (-1))  (hR : lwRR H) (hq : ∀ K, ttTI K → ttXX YY K → lwS K → K.2.2.1 (-1) = H.2.2.1 (-1) → lwRR K → xW 15 cdLaw Q (1615, lwL i, [], K)) : xW 15 cdLaw Q (1460, lwL i, [], H) := by
  have hN : 210 ≤ (H.2.2.2.1 : Int) := by have := hT.1; omega
  refine q_al (i := 1) (x := 1) lp_1460 rfl ?_
  refine la_i lp_1461 lp_1462 lp_1463 lp_1464 lp_1465 hS i0 i7 (by decide) (by decide) ?_
  refine la_i lp_1466 lp_1467 lp_1468 lp_1469 lp_1470 hS i0 i7 (by decide) (by decide) ?_
  refine la_i lp_1471 lp_1472 lp_1473 lp_1474 lp_1475 hS i0 i7 (by decide) (by decide) ?_
  refine q_iv lp_1476 rfl rfl (ttKc hT (a := 1) (κ := 11) (len := 0) ⟨rfl, rfl⟩ (by decide) (by decide)).1 ?_
  refine (hc_126 m8.1.1.1.1.1.1.1.1) 15 (by decide) [(2, 1), (0, (H.1 (-1) (i + 1))), (0, (H.1 (-1) (i + 2))), (0, (H.1 (-1) (i + 3)))] H hT hX ⟨⟨rfl, ttPk_of rfl⟩, ⟨rfl, ttPi_of (hS.2.2 _ (by omega) (by omega)).1 (Int.le_of_lt_add_one (hS.2.2 _ (by omega) (by omega)).2)⟩, ⟨rfl, ttPi_of (hS.2.2 _ (by omega) (by omega)).1 (Int.le_of_lt_add_one (hS.2.2 _ (by omega) (by omega)).2)⟩, ⟨rfl, ttPi_of (hS.2.2 _ (by omega) (by omega)).1 (Int.le_of_lt_add_one (hS.2.2 _ (by omega) (by omega)).2)⟩, trivial⟩ (fun _ hq => absurd hq List.not_mem_nil) _ (fun rM M MT MX MF _ _ => ?_)
  obtain ⟨mS, m7, -⟩ := lwS_fr MF hS
  have n7 : i + 7 ≤ M.2.2.1 (-1) := by omega
  refine q_pp lp_1477 ?_
  refine q_al (i := 2) (x := 183) lp_1478 rfl ?_
  refine la_i lp_1479 lp_1480 lp_1481 lp_1482 lp_1483 mS i0 n7 (by decide) (by decide) ?_
  refine la_i lp_1484 lp_1485 lp_1486 lp_1487 lp_1488 mS i0 n7 (by decide) (by decide) ?_
  refine la_i lp_1489 lp_1490 lp_1491 lp_1492 lp_1493 mS i0 n7 (by decide) (by decide) ?_
  refine q_iv lp_1494 rfl rfl (ttKc MT (a := 183) (κ := 12) (len := 0) ⟨rfl, rfl⟩ (by decide) (by decide)).1 ?_
  refine (hc_155 m8.1.1.1.1.1.1.1.1) 15 (by decide) [(2, 183), (0, (M.1 (-1) (i + 1))), (0, (M.1 (-1) (i + 2))), (0, (M.1 (-1) (i + 3)))] M MT MX ⟨⟨rfl, ttPk_of rfl⟩, ⟨rfl, ttPi_of (mS.2.2 _ (by omega) (by omega)).1 (Int.le_of_lt_add_one (mS.2.2 _ (by omega) (by omega)).2)⟩, ⟨rfl, ttPi_of (mS.2.2 _ (by omega) (by omega)).1 (Int.le_of_lt_add_one (mS.2.2 _ (by omega) (by omega)).2)⟩, ⟨rfl, ttPi_of (mS.2.2 _ (by omega) (by omega)).1 (Int.le_of_lt_add_one (mS.2.2 _ (by omega) (by omega)).2)⟩, trivial⟩ (fun _ hq => absurd hq List.not_mem_nil) _ (fun rK K KT KX KF _ _ => ?_)
  refine q_pp lp_1495 ?_
  refine q_go lp_1496 ?_
  obtain ⟨kS, k7, -⟩ := lwS_fr KF mS
  exact hq K KT KX kS (by omega) (lwRR_fr hN MF KF (by decide) (by decide) hR)
theorem lo_49 {Q : Int → xH → Prop} {H : xH} (hT : ttTI H) (hX : ttXX YY H) (hS : lwS H) {i : Int} (i0 : 0 ≤ i) (i7 : i + 7 ≤ H.2.2.1 (-1))  (hR : lwRR H) (hq : ∀ K, ttTI K → ttXX YY K → lwS K → K.2.2.1 (-1) = H.2.2.1 (-1) → lwRR K → xW 15 cdLaw Q (1615, lwL i, [], K)) : xW 15 cdLaw Q (1497, lwL i, [], H) := by
  have hN : 210 ≤ (H.2.2.2.1 : Int) := by have := hT.1; omega
  refine q_al (i := 1) (x := 1) lp_1497 rfl ?_
  refine la_i lp_1498 lp_1499 lp_1500 lp_1501 lp_1502 hS i0 i7 (by decide) (by decide) ?_
  refine la_i lp_1503 lp_1504 lp_1505 lp_1506 lp_1507 hS i0 i7 (by decide) (by decide) ?_
  refine la_i lp_1508 lp_1509 lp_1510 lp_1511 lp_1512 hS i0 i7 (by decide) (by decide) ?_
  refine q_2l lp_1513 ?_
  refine q_ic lp_1514 ?_
  refine q_zl lp_1515 ?_
  refine la_i lp_1516 lp_1517 lp_1518 lp_1519 lp_1520 hS i0 i7 (by decide) (by decide) ?_
  refine q_2l lp_1521 ?_
  refine q_lc lp_1522 ?_
  refine q_zn lp_1523 ?_
  refine q_zo lp_1524 ?_
  refine q_iv lp_1525 rfl rfl (ttKc hT (a := 1) (κ := 11) (len := 0) ⟨rfl, rfl⟩ (by decide) (by decide)).1 ?_
  refine (hc_127 m8.1.1.1.1.1.1.1.1) 15 (by decide) [(2, 1), (0, (H.1 (-1) (i + 1))), (0, (H.1 (-1) (i + 2))), (1, (xLor (xLshl (H.1 (-1) (i + 3)) 32) (xLand (H.1 (-1) (i + 4)) 4294967295)))] H hT hX ⟨⟨rfl, ttPk_of rfl⟩, ⟨rfl, ttPi_of (hS.2.2 _ (by omega) (by omega)).1 (Int.le_of_lt_add_one (hS.2.2 _ (by omega) (by omega)).2)⟩, ⟨rfl, ttPi_of (hS.2.2 _ (by omega) (by omega)).1 (Int.le_of_lt_add_one (hS.2.2 _ (by omega) (by omega)).2)⟩, ⟨rfl, ttPi_of (lor_in _ _).1 (Int.le_of_lt_add_one (lor_in _ _).2)⟩, trivial⟩ (fun _ hq => absurd hq List.not_mem_nil) _ (fun rM M MT MX MF _ _ => ?_)
  obtain ⟨mS, m7, -⟩ := lwS_fr MF hS
  have n7 : i + 7 ≤ M.2.2.1 (-1) := by omega
  refine q_pp lp_1526 ?_
  refine q_al (i := 2) (x := 183) lp_1527 rfl ?_
  refine la_i lp_1528 lp_1529 lp_1530 lp_1531 lp_1532 mS i0 n7 (by decide) (by decide) ?_
  refine la_i lp_1533 lp_1534 lp_1535 lp_1536 lp_1537 mS i0 n7 (by decide) (by decide) ?_
  refine la_i lp_1538 lp_1539 lp_1540 lp_1541 lp_1542 mS i0 n7 (by decide) (by decide) ?_
  refine q_2l lp_1543 ?_
  refine q_ic lp_1544 ?_
  refine q_zl lp_1545 ?_
  refine la_i lp_1546 lp_1547 lp_1548 lp_1549 lp_1550 mS i0 n7 (by decide) (by decide) ?_
  refine q_2l lp_1551 ?_
  refine q_lc lp_1552 ?_
  refine q_zn lp_1553 ?_
  refine q_zo lp_1554 ?_
  refine q_iv lp_1555 rfl rfl (ttKc MT (a := 183) (κ := 12) (len := 0) ⟨rfl, rfl⟩ (by decide) (by decide)).1 ?_
  refine (hc_156 m8.1.1.1.1.1.1.1.1) 15 (by decide) [(2, 183), (0, (M.1 (-1) (i + 1))), (0, (M.1 (-1) (i + 2))), (1, (xLor (xLshl (M.1 (-1) (i + 3)) 32) (xLand (M.1 (-1) (i + 4)) 4294967295)))] M MT MX ⟨⟨rfl, ttPk_of rfl⟩, ⟨rfl, ttPi_of (mS.2.2 _ (by omega) (by omega)).1 (Int.le_of_lt_add_one (mS.2.2 _ (by omega) (by omega)).2)⟩, ⟨rfl, ttPi_of (mS.2.2 _ (by omega) (by omega)).1 (Int.le_of_lt_add_one (mS.2.2 _ (by omega) (by omega)).2)⟩, ⟨rfl, ttPi_of (lor_in _ _).1 (Int.le_of_lt_add_one (lor_in _ _).2)⟩, trivial⟩ (fun _ hq => absurd hq List.not_mem_nil) _ (fun rK K KT KX KF _ _ => ?_)
  refine q_pp lp_1556 ?_
  refine q_go lp_1557 ?_
  obtain ⟨kS, k7, -⟩ := lwS_fr KF mS
  exact hq K KT KX kS (by omega) (lwRR_fr hN MF KF (by decide) (by decide) hR)
theorem lo_50 {Q : Int → xH → Prop} {H : xH} (hT : ttTI H) (hX : ttXX YY H) (hS : lwS H) {i : Int} (i0 : 0 ≤ i) (i7 : i + 7 ≤ H.2.2.1 (-1))  (hR : lwRR H) (hq : ∀ K, ttTI K → ttXX YY K → lwS K → K.2.2.1 (-1) = H.2.2.1 (-1) → lwRR K → xW 15 cdLaw Q (1615, lwL i, [], K)) : xW 15 cdLaw Q (1558, lwL i, [], H) := by
  have hN : 210 ≤ (H.2.2.2.1 : Int) := by have := hT.1; omega
  refine q_al (i := 1) (x := 1) lp_1558 rfl ?_
  refine la_i lp_1559 lp_1560 lp_1561 lp_1562 lp_1563 hS i0 i7 (by decide) (by decide) ?_
  refine la_i lp_1564 lp_1565 lp_1566 lp_1567 lp_1568 hS i0 i7 (by decide) (by decide) ?_
  refine la_i lp_1569 lp_1570 lp_1571 lp_1572 lp_1573 hS i0 i7 (by decide) (by decide) ?_
  refine la_i lp_1574 lp_1575 lp_1576 lp_1577 lp_1578 hS i0 i7 (by decide) (by decide) ?_
  refine la_i lp_1579 lp_1580 lp_1581 lp_1582 lp_1583 hS i0 i7 (by decide) (by decide) ?_
  refine q_iv lp_1584 rfl rfl (ttKc hT (a := 1) (κ := 11) (len := 0) ⟨rfl, rfl⟩ (by decide) (by decide)).1 ?_
  refine (hm_paste (ttXX_out yyStab (fun _ _ => trivial))) 15 (by decide) [(2, 1), (0, (H.1 (-1) (i + 1))), (0, (H.1 (-1) (i + 2))), (0, (H.1 (-1) (i + 3))), (0, (H.1 (-1) (i + 4))), (0, (H.1 (-1) (i + 5)))] H hT hX ⟨⟨rfl, ttPk_of rfl⟩, ⟨rfl, ttPi_of (hS.2.2 _ (by omega) (by omega)).1 (Int.le_of_lt_add_one (hS.2.2 _ (by omega) (by omega)).2)⟩, ⟨rfl, ttPi_of (hS.2.2 _ (by omega) (by omega)).1 (Int.le_of_lt_add_one (hS.2.2 _ (by omega) (by omega)).2)⟩, ⟨rfl, ttPi_of (hS.2.2 _ (by omega) (by omega)).1 (Int.le_of_lt_add_one (hS.2.2 _ (by omega) (by omega)).2)⟩, ⟨rfl, ttPi_of (hS.2.2 _ (by omega) (by omega)).1 (Int.le_of_lt_add_one (hS.2.2 _ (by omega) (by omega)).2)⟩, ⟨rfl, ttPi_of (hS.2.2 _ (by omega) (by omega)).1 (Int.le_of_lt_add_one (hS.2.2 _ (by omega) (by omega)).2)⟩, trivial⟩ (fun _ hq => absurd hq List.not_mem_nil) _ (fun rM M MT MX MF _ _ => ?_)
  obtain ⟨mS, m7, -⟩ := lwS_fr MF hS
  have n7 : i + 7 ≤ M.2.2.1 (-1) := by omega
  refine q_pp lp_1585 ?_
  refine q_al (i := 2) (x := 183) lp_1586 rfl ?_
  refine la_i lp_1587 lp_1588 lp_1589 lp_1590 lp_1591 mS i0 n7 (by decide) (by decide) ?_
  refine la_i lp_1592 lp_1593 lp_1594 lp_1595 lp_1596 mS i0 n7 (by decide) (by decide) ?_
  refine la_i lp_1597 lp_1598 lp_1599 lp_1600 lp_1601 mS i0 n7 (by decide) (by decide) ?_
  refine la_i lp_1602 lp_1603 lp_1604 lp_1605 lp_1606 mS i0 n7 (by decide) (by decide) ?_
  refine la_i lp_1607 lp_1608 lp_1609 lp_1610 lp_1611 mS i0 n7 (by decide) (by decide) ?_
  refine q_iv lp_1612 rfl rfl (ttKc MT (a := 183) (κ := 12) (len := 0) ⟨rfl, rfl⟩ (by decide) (by decide)).1 ?_
  refine (hm_paste2 (ttXX_out yyStab (fun _ _ => trivial))) 15 (by decide) [(2, 183), (0, (M.1 (-1) (i + 1))), (0, (M.1 (-1) (i + 2))), (0, (M.1 (-1) (i + 3))), (0, (M.1 (-1) (i + 4))), (0, (M.1 (-1) (i + 5)))] M MT MX ⟨⟨rfl, ttPk_of rfl⟩, ⟨rfl, ttPi_of (mS.2.2 _ (by omega) (by omega)).1 (Int.le_of_lt_add_one (mS.2.2 _ (by omega) (by omega)).2)⟩, ⟨rfl, ttPi_of (mS.2.2 _ (by omega) (by omega)).1 (Int.le_of_lt_add_one (mS.2.2 _ (by omega) (by omega)).2)⟩, ⟨rfl, ttPi_of (mS.2.2 _ (by omega) (by omega)).1 (Int.le_of_lt_add_one (mS.2.2 _ (by omega) (by omega)).2)⟩, ⟨rfl, ttPi_of (mS.2.2 _ (by omega) (by omega)).1 (Int.le_of_lt_add_one (mS.2.2 _ (by omega) (by omega)).2)⟩, ⟨rfl, ttPi_of (mS.2.2 _ (by omega) (by omega)).1 (Int.le_of_lt_add_one (mS.2.2 _ (by omega) (by omega)).2)⟩, trivial⟩ (fun _ hq => absurd hq List.not_mem_nil) _ (fun rK K KT KX KF _ _ => ?_)
  refine q_pp lp_1613 ?_
  refine q_go lp_1614 ?_
  obtain ⟨kS, k7, -⟩ := lwS_fr KF mS
  exact hq K KT KX kS (by omega) (lwRR_fr hN MF KF (by decide) (by decide) hR)
