set_option maxHeartbeats 4000000 in
theorem l_law {L : Nat} (hL : L ≤ 2560) : ∀ (n : Nat) (i T : Int) (m : zmem), Sim T m m → 0 ≤ i → T ≤ 2 * i → i ≤ 2560 → (L : Int) - 5 < i + 5 * n → zR 9 132 18 [some (.inr (.inl (some (-1)))), some (.inr (.inl (some 0))), some (.inr (.inl (some 264))), some (.inl i)] [] (zem L m) (fun r M => r = some (.inl 1) ∧ ∃ m2, M = zem L m2)
  | 0, i, T, m, hs, i0, hT, i1, hn => by
    refine r_iload_n f132_18 rfl ?_
    refine r_aload_n f132_19 rfl ?_
    refine r_alen f132_20 kdm1 ?_
    refine r_iconst f132_21 rfl ?_
    refine r_isub f132_22 (e := (L : Int) - 5) (by omega) (by omega) (by omega) ?_
    refine r_cgt f132_23 (t := 923) (by decide) (fun _ => ?_) (fun h => absurd (by omega) h)
    refine r_iconst f132_923 rfl ?_
    exact r_zret f132_924 v132 (by omega) ⟨rfl, _, rfl⟩
  | n + 1, i, T, m, hs, i0, hT, i1, hn => by
    refine r_iload_n f132_18 rfl ?_
    refine r_aload_n f132_19 rfl ?_
    refine r_alen f132_20 kdm1 ?_
    refine r_iconst f132_21 rfl ?_
    refine r_isub f132_22 (e := (L : Int) - 5) (by omega) (by omega) (by omega) ?_
    refine r_cgt f132_23 (t := 923) (by decide) (fun q1 => ?_) (fun q1 => ?_)
    · refine r_iconst f132_923 rfl ?_
      exact r_zret f132_924 v132 (by omega) ⟨rfl, _, rfl⟩
    · refine r_aload_n f132_26 rfl ?_
      refine r_iload_n f132_27 rfl ?_
      refine r_iald f132_28 kdm1 (by omega) (by omega) ?_
      refine r_bipush f132_29 (by decide) ?_
      obtain ⟨e, he⟩ : ∃ e, (Int32.ofInt (m (-1) i) &&& Int32.ofInt 31).toInt = e := ⟨_, rfl⟩
      refine r_iand f132_31 (e := e) he ?_
      rcases (show (e < 0 ∨ 23 < e) ∨ e = 0 ∨ e = 1 ∨ e = 2 ∨ e = 3 ∨ e = 4 ∨ e = 5 ∨ e = 6 ∨ e = 7 ∨ e = 8 ∨ e = 9 ∨ e = 10 ∨ e = 11 ∨ e = 12 ∨ e = 13 ∨ e = 14 ∨ e = 15 ∨ e = 16 ∨ e = 17 ∨ e = 18 ∨ e = 19 ∨ e = 20 ∨ e = 21 ∨ e = 22 ∨ e = 23 by omega) with q2 | q2 | q2 | q2 | q2 | q2 | q2 | q2 | q2 | q2 | q2 | q2 | q2 | q2 | q2 | q2 | q2 | q2 | q2 | q2 | q2 | q2 | q2 | q2 | q2
      · refine r_swout f132_32 q2 (t := 917) (by decide) ?_
        refine r_iinc f132_917 rfl rfl rfl (e := i + 5) (by omega) (by omega) (by omega) (ls' := [some (.inr (.inl (some (-1)))), some (.inr (.inl (some 0))), some (.inr (.inl (some 264))), some (.inl (i + 5))]) rfl ?_
        refine r_goto f132_920 (t := 18) (by decide) ?_
        exact l_law hL n (i + 5) T m hs (by omega) (by omega) (by omega) (by omega)
      · refine r_swin f132_32 (by omega) (by omega) (o := 112) (by rw [q2]; rfl) (t := 144) (by decide) ?_
        refine r_aload_n f132_144 rfl ?_
        refine r_aload_n f132_145 rfl ?_
        refine r_iload_n f132_146 rfl ?_
        refine r_iconst f132_147 rfl ?_
        refine r_iadd f132_148 (e := i + 1) (by omega) (by omega) (by omega) ?_
        refine r_iald f132_149 kdm1 (by omega) (by omega) ?_
        refine r_aload_n f132_150 rfl ?_
        refine r_iload_n f132_151 rfl ?_
        refine r_iconst f132_152 rfl ?_
        refine r_iadd f132_153 (e := i + 2) (by omega) (by omega) (by omega) ?_
        refine r_iald f132_154 kdm1 (by omega) (by omega) ?_
        refine r_aload_n f132_155 rfl ?_
        refine r_iload_n f132_156 rfl ?_
        refine r_iconst f132_157 rfl ?_
        refine r_iadd f132_158 (e := i + 3) (by omega) (by omega) (by omega) ?_
        refine r_iald f132_159 kdm1 (by omega) (by omega) ?_
        refine r_aload_n f132_160 rfl ?_
        refine r_iload_n f132_161 rfl ?_
        refine r_iconst f132_162 rfl ?_
        refine r_iadd f132_163 (e := i + 4) (by omega) (by omega) (by omega) ?_
        refine r_iald f132_164 kdm1 (by omega) (by omega) ?_
        obtain ⟨v, m1, m2, hx, hm, hs2⟩ := pr_house (L := L) hs (m (-1) (i + 1)) (m (-1) (i + 2)) (m (-1) (i + 3)) (m (-1) (i + 4))
        have hk1 := zF_k hx
        obtain ⟨x, ex⟩ := zF_i v43 hx
        subst ex
        refine r_callv4i (m' := m1) (v := x) f132_165 o132 M8_13 p43 o43 kd0 rfl (by simp) hx ?_
        refine r_aload_n f132_168 rfl ?_
        refine r_aload_n f132_169 rfl ?_
        refine r_iload_n f132_170 rfl ?_
        refine r_iconst f132_171 rfl ?_
        refine r_iadd f132_172 (e := i + 1) (by omega) (by omega) (by omega) ?_
        refine r_iald f132_173 kdm1 (by omega) (by omega) ?_
        refine r_top (e := m (-1) (i + 1)) (congrFun hk1 _) ?_
        refine r_aload_n f132_174 rfl ?_
        refine r_iload_n f132_175 rfl ?_
        refine r_iconst f132_176 rfl ?_
        refine r_iadd f132_177 (e := i + 2) (by omega) (by omega) (by omega) ?_
        refine r_iald f132_178 kdm1 (by omega) (by omega) ?_
        refine r_top (e := m (-1) (i + 2)) (congrFun hk1 _) ?_
        refine r_aload_n f132_179 rfl ?_
        refine r_iload_n f132_180 rfl ?_
        refine r_iconst f132_181 rfl ?_
        refine r_iadd f132_182 (e := i + 3) (by omega) (by omega) (by omega) ?_
        refine r_iald f132_183 kdm1 (by omega) (by omega) ?_
        refine r_top (e := m (-1) (i + 3)) (congrFun hk1 _) ?_
        refine r_aload_n f132_184 rfl ?_
        refine r_iload_n f132_185 rfl ?_
        refine r_iconst f132_186 rfl ?_
        refine r_iadd f132_187 (e := i + 4) (by omega) (by omega) (by omega) ?_
        refine r_iald f132_188 kdm1 (by omega) (by omega) ?_
        refine r_top (e := m (-1) (i + 4)) (congrFun hk1 _) ?_
        refine r_callv4i (m' := m2) (v := x) f132_189 o132 M8_17 p89 o89 kd264 rfl (by simp) hm ?_
        refine r_ceq f132_192 (t := 917) (by decide) (fun _ => ?_) (fun h => absurd (by omega) h)
        refine r_iinc f132_917 rfl rfl rfl (e := i + 5) (by omega) (by omega) (by omega) (ls' := [some (.inr (.inl (some (-1)))), some (.inr (.inl (some 0))), some (.inr (.inl (some 264))), some (.inl (i + 5))]) rfl ?_
        refine r_goto f132_920 (t := 18) (by decide) ?_
        exact l_law hL n (i + 5) (T + 9) m2 hs2 (by omega) (by omega) (by omega) (by omega)
      · refine r_swin f132_32 (by omega) (by omega) (o := 165) (by rw [q2]; rfl) (t := 197) (by decide) ?_
        refine r_aload_n f132_197 rfl ?_
        refine r_aload_n f132_198 rfl ?_
        refine r_iload_n f132_199 rfl ?_
        refine r_iconst f132_200 rfl ?_
        refine r_iadd f132_201 (e := i + 1) (by omega) (by omega) (by omega) ?_
        refine r_iald f132_202 kdm1 (by omega) (by omega) ?_
        refine r_aload_n f132_203 rfl ?_
        refine r_iload_n f132_204 rfl ?_
        refine r_iconst f132_205 rfl ?_
        refine r_iadd f132_206 (e := i + 2) (by omega) (by omega) (by omega) ?_
        refine r_iald f132_207 kdm1 (by omega) (by omega) ?_
        refine r_aload_n f132_208 rfl ?_
        refine r_iload_n f132_209 rfl ?_
        refine r_iconst f132_210 rfl ?_
        refine r_iadd f132_211 (e := i + 3) (by omega) (by omega) (by omega) ?_
        refine r_iald f132_212 kdm1 (by omega) (by omega) ?_
        obtain ⟨v, m1, m2, hx, hm, hs2⟩ := pr_stage (L := L) hs (m (-1) (i + 1)) (m (-1) (i + 2)) (m (-1) (i + 3))
        have hk1 := zF_k hx
        obtain ⟨x, ex⟩ := zF_i v44 hx
        subst ex
        refine r_callv3i (m' := m1) (v := x) f132_213 o132 M8_18 p44 o44 kd0 rfl (by simp) hx ?_
        refine r_aload_n f132_216 rfl ?_
        refine r_aload_n f132_217 rfl ?_
        refine r_iload_n f132_218 rfl ?_
        refine r_iconst f132_219 rfl ?_
        refine r_iadd f132_220 (e := i + 1) (by omega) (by omega) (by omega) ?_
        refine r_iald f132_221 kdm1 (by omega) (by omega) ?_
        refine r_top (e := m (-1) (i + 1)) (congrFun hk1 _) ?_
        refine r_aload_n f132_222 rfl ?_
        refine r_iload_n f132_223 rfl ?_
        refine r_iconst f132_224 rfl ?_
        refine r_iadd f132_225 (e := i + 2) (by omega) (by omega) (by omega) ?_
        refine r_iald f132_226 kdm1 (by omega) (by omega) ?_
        refine r_top (e := m (-1) (i + 2)) (congrFun hk1 _) ?_
        refine r_aload_n f132_227 rfl ?_
        refine r_iload_n f132_228 rfl ?_
        refine r_iconst f132_229 rfl ?_
        refine r_iadd f132_230 (e := i + 3) (by omega) (by omega) (by omega) ?_
        refine r_iald f132_231 kdm1 (by omega) (by omega) ?_
        refine r_top (e := m (-1) (i + 3)) (congrFun hk1 _) ?_
        refine r_callv3i (m' := m2) (v := x) f132_232 o132 M8_22 p90 o90 kd264 rfl (by simp) hm ?_
        refine r_ceq f132_235 (t := 917) (by decide) (fun _ => ?_) (fun h => absurd (by omega) h)
        refine r_iinc f132_917 rfl rfl rfl (e := i + 5) (by omega) (by omega) (by omega) (ls' := [some (.inr (.inl (some (-1)))), some (.inr (.inl (some 0))), some (.inr (.inl (some 264))), some (.inl (i + 5))]) rfl ?_
        refine r_goto f132_920 (t := 18) (by decide) ?_
        exact l_law hL n (i + 5) (T + 9) m2 hs2 (by omega) (by omega) (by omega) (by omega)
      · refine r_swin f132_32 (by omega) (by omega) (o := 208) (by rw [q2]; rfl) (t := 240) (by decide) ?_
        refine r_aload_n f132_240 rfl ?_
        refine r_aload_n f132_241 rfl ?_
        refine r_iload_n f132_242 rfl ?_
        refine r_iconst f132_243 rfl ?_
        refine r_iadd f132_244 (e := i + 1) (by omega) (by omega) (by omega) ?_
        refine r_iald f132_245 kdm1 (by omega) (by omega) ?_
        refine r_aload_n f132_246 rfl ?_
        refine r_iload_n f132_247 rfl ?_
        refine r_iconst f132_248 rfl ?_
        refine r_iadd f132_249 (e := i + 2) (by omega) (by omega) (by omega) ?_
        refine r_iald f132_250 kdm1 (by omega) (by omega) ?_
        obtain ⟨v, m1, m2, hx, hm, hs2⟩ := pr_chores (L := L) hs (m (-1) (i + 1)) (m (-1) (i + 2))
        have hk1 := zF_k hx
        obtain ⟨x, ex⟩ := zF_i v45 hx
        subst ex
        refine r_callv2i (m' := m1) (v := x) f132_251 o132 M8_23 p45 o45 kd0 rfl (by simp) hx ?_
        refine r_aload_n f132_254 rfl ?_
        refine r_aload_n f132_255 rfl ?_
        refine r_iload_n f132_256 rfl ?_
        refine r_iconst f132_257 rfl ?_
        refine r_iadd f132_258 (e := i + 1) (by omega) (by omega) (by omega) ?_
        refine r_iald f132_259 kdm1 (by omega) (by omega) ?_
        refine r_top (e := m (-1) (i + 1)) (congrFun hk1 _) ?_
        refine r_aload_n f132_260 rfl ?_
        refine r_iload_n f132_261 rfl ?_
        refine r_iconst f132_262 rfl ?_
        refine r_iadd f132_263 (e := i + 2) (by omega) (by omega) (by omega) ?_
        refine r_iald f132_264 kdm1 (by omega) (by omega) ?_
        refine r_top (e := m (-1) (i + 2)) (congrFun hk1 _) ?_
        refine r_callv2i (m' := m2) (v := x) f132_265 o132 M8_27 p91 o91 kd264 rfl (by simp) hm ?_
        refine r_ceq f132_268 (t := 917) (by decide) (fun _ => ?_) (fun h => absurd (by omega) h)
        refine r_iinc f132_917 rfl rfl rfl (e := i + 5) (by omega) (by omega) (by omega) (ls' := [some (.inr (.inl (some (-1)))), some (.inr (.inl (some 0))), some (.inr (.inl (some 264))), some (.inl (i + 5))]) rfl ?_
        refine r_goto f132_920 (t := 18) (by decide) ?_
        exact l_law hL n (i + 5) (T + 9) m2 hs2 (by omega) (by omega) (by omega) (by omega)
      · refine r_swin f132_32 (by omega) (by omega) (o := 241) (by rw [q2]; rfl) (t := 273) (by decide) ?_
        refine r_aload_n f132_273 rfl ?_
        refine r_aload_n f132_274 rfl ?_
        refine r_iload_n f132_275 rfl ?_
        refine r_iconst f132_276 rfl ?_
        refine r_iadd f132_277 (e := i + 1) (by omega) (by omega) (by omega) ?_
        refine r_iald f132_278 kdm1 (by omega) (by omega) ?_
        refine r_aload_n f132_279 rfl ?_
        refine r_iload_n f132_280 rfl ?_
        refine r_iconst f132_281 rfl ?_
        refine r_iadd f132_282 (e := i + 2) (by omega) (by omega) (by omega) ?_
        refine r_iald f132_283 kdm1 (by omega) (by omega) ?_
        refine r_aload_n f132_284 rfl ?_
        refine r_iload_n f132_285 rfl ?_
        refine r_iconst f132_286 rfl ?_
        refine r_iadd f132_287 (e := i + 3) (by omega) (by omega) (by omega) ?_
        refine r_iald f132_288 kdm1 (by omega) (by omega) ?_
        obtain ⟨v, m1, m2, hx, hm, hs2⟩ := pr_free (L := L) hs (m (-1) (i + 1)) (m (-1) (i + 2)) (m (-1) (i + 3))
        have hk1 := zF_k hx
        obtain ⟨x, ex⟩ := zF_i v46 hx
        subst ex
        refine r_callv3i (m' := m1) (v := x) f132_289 o132 M8_28 p46 o46 kd0 rfl (by simp) hx ?_
        refine r_aload_n f132_292 rfl ?_
        refine r_aload_n f132_293 rfl ?_
        refine r_iload_n f132_294 rfl ?_
        refine r_iconst f132_295 rfl ?_
        refine r_iadd f132_296 (e := i + 1) (by omega) (by omega) (by omega) ?_
        refine r_iald f132_297 kdm1 (by omega) (by omega) ?_
        refine r_top (e := m (-1) (i + 1)) (congrFun hk1 _) ?_
        refine r_aload_n f132_298 rfl ?_
        refine r_iload_n f132_299 rfl ?_
        refine r_iconst f132_300 rfl ?_
        refine r_iadd f132_301 (e := i + 2) (by omega) (by omega) (by omega) ?_
        refine r_iald f132_302 kdm1 (by omega) (by omega) ?_
        refine r_top (e := m (-1) (i + 2)) (congrFun hk1 _) ?_
        refine r_aload_n f132_303 rfl ?_
        refine r_iload_n f132_304 rfl ?_
        refine r_iconst f132_305 rfl ?_
        refine r_iadd f132_306 (e := i + 3) (by omega) (by omega) (by omega) ?_
        refine r_iald f132_307 kdm1 (by omega) (by omega) ?_
        refine r_top (e := m (-1) (i + 3)) (congrFun hk1 _) ?_
        refine r_callv3i (m' := m2) (v := x) f132_308 o132 M8_31 p95 o95 kd264 rfl (by simp) hm ?_
        refine r_ceq f132_311 (t := 917) (by decide) (fun _ => ?_) (fun h => absurd (by omega) h)
        refine r_iinc f132_917 rfl rfl rfl (e := i + 5) (by omega) (by omega) (by omega) (ls' := [some (.inr (.inl (some (-1)))), some (.inr (.inl (some 0))), some (.inr (.inl (some 264))), some (.inl (i + 5))]) rfl ?_
        refine r_goto f132_920 (t := 18) (by decide) ?_
        exact l_law hL n (i + 5) (T + 9) m2 hs2 (by omega) (by omega) (by omega) (by omega)
      · refine r_swin f132_32 (by omega) (by omega) (o := 284) (by rw [q2]; rfl) (t := 316) (by decide) ?_
        refine r_aload_n f132_316 rfl ?_
        refine r_aload_n f132_317 rfl ?_
        refine r_iload_n f132_318 rfl ?_
        refine r_iconst f132_319 rfl ?_
        refine r_iadd f132_320 (e := i + 1) (by omega) (by omega) (by omega) ?_
        refine r_iald f132_321 kdm1 (by omega) (by omega) ?_
        refine r_aload_n f132_322 rfl ?_
        refine r_iload_n f132_323 rfl ?_
        refine r_iconst f132_324 rfl ?_
        refine r_iadd f132_325 (e := i + 2) (by omega) (by omega) (by omega) ?_
        refine r_iald f132_326 kdm1 (by omega) (by omega) ?_
        obtain ⟨v, m1, m2, hx, hm, hs2⟩ := pr_isShut (L := L) hs (m (-1) (i + 1)) (m (-1) (i + 2))
        have hk1 := zF_k hx
        obtain ⟨x, ex⟩ := zF_i v47 hx
        subst ex
        refine r_callv2i (m' := m1) (v := x) f132_327 o132 M8_32 p47 o47 kd0 rfl (by simp) hx ?_
        refine r_aload_n f132_330 rfl ?_
        refine r_aload_n f132_331 rfl ?_
        refine r_iload_n f132_332 rfl ?_
        refine r_iconst f132_333 rfl ?_
        refine r_iadd f132_334 (e := i + 1) (by omega) (by omega) (by omega) ?_
        refine r_iald f132_335 kdm1 (by omega) (by omega) ?_
        refine r_top (e := m (-1) (i + 1)) (congrFun hk1 _) ?_
        refine r_aload_n f132_336 rfl ?_
        refine r_iload_n f132_337 rfl ?_
        refine r_iconst f132_338 rfl ?_
        refine r_iadd f132_339 (e := i + 2) (by omega) (by omega) (by omega) ?_
        refine r_iald f132_340 kdm1 (by omega) (by omega) ?_
        refine r_top (e := m (-1) (i + 2)) (congrFun hk1 _) ?_
        refine r_callv2i (m' := m2) (v := x) f132_341 o132 M8_35 p96 o96 kd264 rfl (by simp) hm ?_
        refine r_ceq f132_344 (t := 917) (by decide) (fun _ => ?_) (fun h => absurd (by omega) h)
        refine r_iinc f132_917 rfl rfl rfl (e := i + 5) (by omega) (by omega) (by omega) (ls' := [some (.inr (.inl (some (-1)))), some (.inr (.inl (some 0))), some (.inr (.inl (some 264))), some (.inl (i + 5))]) rfl ?_
        refine r_goto f132_920 (t := 18) (by decide) ?_
        exact l_law hL n (i + 5) (T + 9) m2 hs2 (by omega) (by omega) (by omega) (by omega)
      · refine r_swin f132_32 (by omega) (by omega) (o := 317) (by rw [q2]; rfl) (t := 349) (by decide) ?_
        refine r_aload_n f132_349 rfl ?_
        refine r_aload_n f132_350 rfl ?_
        refine r_iload_n f132_351 rfl ?_
        refine r_iconst f132_352 rfl ?_
        refine r_iadd f132_353 (e := i + 1) (by omega) (by omega) (by omega) ?_
        refine r_iald f132_354 kdm1 (by omega) (by omega) ?_
        refine r_aload_n f132_355 rfl ?_
        refine r_iload_n f132_356 rfl ?_
        refine r_iconst f132_357 rfl ?_
        refine r_iadd f132_358 (e := i + 2) (by omega) (by omega) (by omega) ?_
        refine r_iald f132_359 kdm1 (by omega) (by omega) ?_
        refine r_aload_n f132_360 rfl ?_
        refine r_iload_n f132_361 rfl ?_
        refine r_iconst f132_362 rfl ?_
        refine r_iadd f132_363 (e := i + 3) (by omega) (by omega) (by omega) ?_
        refine r_iald f132_364 kdm1 (by omega) (by omega) ?_
        obtain ⟨v, m1, m2, hx, hm, hs2⟩ := pr_shut (L := L) hs (m (-1) (i + 1)) (m (-1) (i + 2)) (m (-1) (i + 3))
        have hk1 := zF_k hx
        obtain ⟨x, ex⟩ := zF_i v48 hx
        subst ex
        refine r_callv3i (m' := m1) (v := x) f132_365 o132 M8_36 p48 o48 kd0 rfl (by simp) hx ?_
        refine r_aload_n f132_368 rfl ?_
        refine r_aload_n f132_369 rfl ?_
        refine r_iload_n f132_370 rfl ?_
        refine r_iconst f132_371 rfl ?_
        refine r_iadd f132_372 (e := i + 1) (by omega) (by omega) (by omega) ?_
        refine r_iald f132_373 kdm1 (by omega) (by omega) ?_
        refine r_top (e := m (-1) (i + 1)) (congrFun hk1 _) ?_
        refine r_aload_n f132_374 rfl ?_
        refine r_iload_n f132_375 rfl ?_
        refine r_iconst f132_376 rfl ?_
        refine r_iadd f132_377 (e := i + 2) (by omega) (by omega) (by omega) ?_
        refine r_iald f132_378 kdm1 (by omega) (by omega) ?_
        refine r_top (e := m (-1) (i + 2)) (congrFun hk1 _) ?_
        refine r_aload_n f132_379 rfl ?_
        refine r_iload_n f132_380 rfl ?_
        refine r_iconst f132_381 rfl ?_
        refine r_iadd f132_382 (e := i + 3) (by omega) (by omega) (by omega) ?_
        refine r_iald f132_383 kdm1 (by omega) (by omega) ?_
        refine r_top (e := m (-1) (i + 3)) (congrFun hk1 _) ?_
        refine r_callv3i (m' := m2) (v := x) f132_384 o132 M8_39 p116 o116 kd264 rfl (by simp) hm ?_
        refine r_ceq f132_387 (t := 917) (by decide) (fun _ => ?_) (fun h => absurd (by omega) h)
        refine r_iinc f132_917 rfl rfl rfl (e := i + 5) (by omega) (by omega) (by omega) (ls' := [some (.inr (.inl (some (-1)))), some (.inr (.inl (some 0))), some (.inr (.inl (some 264))), some (.inl (i + 5))]) rfl ?_
        refine r_goto f132_920 (t := 18) (by decide) ?_
        exact l_law hL n (i + 5) (T + 9) m2 hs2 (by omega) (by omega) (by omega) (by omega)
      · refine r_swin f132_32 (by omega) (by omega) (o := 360) (by rw [q2]; rfl) (t := 392) (by decide) ?_
        refine r_aload_n f132_392 rfl ?_
        refine r_aload_n f132_393 rfl ?_
        refine r_iload_n f132_394 rfl ?_
        refine r_iconst f132_395 rfl ?_
        refine r_iadd f132_396 (e := i + 1) (by omega) (by omega) (by omega) ?_
        refine r_iald f132_397 kdm1 (by omega) (by omega) ?_
        refine r_aload_n f132_398 rfl ?_
        refine r_iload_n f132_399 rfl ?_
        refine r_iconst f132_400 rfl ?_
        refine r_iadd f132_401 (e := i + 2) (by omega) (by omega) (by omega) ?_
        refine r_iald f132_402 kdm1 (by omega) (by omega) ?_
        refine r_aload_n f132_403 rfl ?_
        refine r_iload_n f132_404 rfl ?_
        refine r_iconst f132_405 rfl ?_
        refine r_iadd f132_406 (e := i + 3) (by omega) (by omega) (by omega) ?_
        refine r_iald f132_407 kdm1 (by omega) (by omega) ?_
        obtain ⟨v, m1, m2, hx, hm, hs2⟩ := pr_chain (L := L) hs (m (-1) (i + 1)) (m (-1) (i + 2)) (m (-1) (i + 3))
        have hk1 := zF_k hx
        obtain ⟨x, ex⟩ := zF_i v49 hx
        subst ex
        refine r_callv3i (m' := m1) (v := x) f132_408 o132 M8_40 p49 o49 kd0 rfl (by simp) hx ?_
        refine r_aload_n f132_411 rfl ?_
        refine r_aload_n f132_412 rfl ?_
        refine r_iload_n f132_413 rfl ?_
        refine r_iconst f132_414 rfl ?_
        refine r_iadd f132_415 (e := i + 1) (by omega) (by omega) (by omega) ?_
        refine r_iald f132_416 kdm1 (by omega) (by omega) ?_
        refine r_top (e := m (-1) (i + 1)) (congrFun hk1 _) ?_
        refine r_aload_n f132_417 rfl ?_
        refine r_iload_n f132_418 rfl ?_
        refine r_iconst f132_419 rfl ?_
        refine r_iadd f132_420 (e := i + 2) (by omega) (by omega) (by omega) ?_
        refine r_iald f132_421 kdm1 (by omega) (by omega) ?_
        refine r_top (e := m (-1) (i + 2)) (congrFun hk1 _) ?_
        refine r_aload_n f132_422 rfl ?_
        refine r_iload_n f132_423 rfl ?_
        refine r_iconst f132_424 rfl ?_
        refine r_iadd f132_425 (e := i + 3) (by omega) (by omega) (by omega) ?_
        refine r_iald f132_426 kdm1 (by omega) (by omega) ?_
        refine r_top (e := m (-1) (i + 3)) (congrFun hk1 _) ?_
        refine r_callv3i (m' := m2) (v := x) f132_427 o132 M8_43 p100 o100 kd264 rfl (by simp) hm ?_
        refine r_ceq f132_430 (t := 917) (by decide) (fun _ => ?_) (fun h => absurd (by omega) h)
        refine r_iinc f132_917 rfl rfl rfl (e := i + 5) (by omega) (by omega) (by omega) (ls' := [some (.inr (.inl (some (-1)))), some (.inr (.inl (some 0))), some (.inr (.inl (some 264))), some (.inl (i + 5))]) rfl ?_
        refine r_goto f132_920 (t := 18) (by decide) ?_
        exact l_law hL n (i + 5) (T + 9) m2 hs2 (by omega) (by omega) (by omega) (by omega)
      · refine r_swin f132_32 (by omega) (by omega) (o := 403) (by rw [q2]; rfl) (t := 435) (by decide) ?_
        refine r_aload_n f132_435 rfl ?_
        refine r_aload_n f132_436 rfl ?_
        refine r_iload_n f132_437 rfl ?_
        refine r_iconst f132_438 rfl ?_
        refine r_iadd f132_439 (e := i + 1) (by omega) (by omega) (by omega) ?_
        refine r_iald f132_440 kdm1 (by omega) (by omega) ?_
        refine r_aload_n f132_441 rfl ?_
        refine r_iload_n f132_442 rfl ?_
        refine r_iconst f132_443 rfl ?_
        refine r_iadd f132_444 (e := i + 2) (by omega) (by omega) (by omega) ?_
        refine r_iald f132_445 kdm1 (by omega) (by omega) ?_
        obtain ⟨v, m1, m2, hx, hm, hs2⟩ := pr_add (L := L) hs (m (-1) (i + 1)) (m (-1) (i + 2))
        have hk1 := zF_k hx
        obtain ⟨x, ex⟩ := zF_i v50 hx
        subst ex
        refine r_callv2i (m' := m1) (v := x) f132_446 o132 M8_44 p50 o50 kd0 rfl (by simp) hx ?_
        refine r_aload_n f132_449 rfl ?_
        refine r_aload_n f132_450 rfl ?_
        refine r_iload_n f132_451 rfl ?_
        refine r_iconst f132_452 rfl ?_
        refine r_iadd f132_453 (e := i + 1) (by omega) (by omega) (by omega) ?_
        refine r_iald f132_454 kdm1 (by omega) (by omega) ?_
        refine r_top (e := m (-1) (i + 1)) (congrFun hk1 _) ?_
        refine r_aload_n f132_455 rfl ?_
        refine r_iload_n f132_456 rfl ?_
        refine r_iconst f132_457 rfl ?_
        refine r_iadd f132_458 (e := i + 2) (by omega) (by omega) (by omega) ?_
        refine r_iald f132_459 kdm1 (by omega) (by omega) ?_
        refine r_top (e := m (-1) (i + 2)) (congrFun hk1 _) ?_
        refine r_callv2i (m' := m2) (v := x) f132_460 o132 M8_47 p101 o101 kd264 rfl (by simp) hm ?_
        refine r_ceq f132_463 (t := 917) (by decide) (fun _ => ?_) (fun h => absurd (by omega) h)
        refine r_iinc f132_917 rfl rfl rfl (e := i + 5) (by omega) (by omega) (by omega) (ls' := [some (.inr (.inl (some (-1)))), some (.inr (.inl (some 0))), some (.inr (.inl (some 264))), some (.inl (i + 5))]) rfl ?_
        refine r_goto f132_920 (t := 18) (by decide) ?_
        exact l_law hL n (i + 5) (T + 9) m2 hs2 (by omega) (by omega) (by omega) (by omega)
      · refine r_swin f132_32 (by omega) (by omega) (o := 436) (by rw [q2]; rfl) (t := 468) (by decide) ?_
        refine r_aload_n f132_468 rfl ?_
        refine r_aload_n f132_469 rfl ?_
        refine r_iload_n f132_470 rfl ?_
        refine r_iconst f132_471 rfl ?_
        refine r_iadd f132_472 (e := i + 1) (by omega) (by omega) (by omega) ?_
        refine r_iald f132_473 kdm1 (by omega) (by omega) ?_
        obtain ⟨v, m1, m2, hx, hm, hs2⟩ := pr_give (L := L) hs (m (-1) (i + 1))
        have hk1 := zF_k hx
        obtain ⟨x, ex⟩ := zF_i v51 hx
        subst ex
        refine r_callv1i (m' := m1) (v := x) f132_474 o132 M8_48 p51 o51 kd0 rfl (by simp) hx ?_
        refine r_aload_n f132_477 rfl ?_
        refine r_aload_n f132_478 rfl ?_
        refine r_iload_n f132_479 rfl ?_
        refine r_iconst f132_480 rfl ?_
        refine r_iadd f132_481 (e := i + 1) (by omega) (by omega) (by omega) ?_
        refine r_iald f132_482 kdm1 (by omega) (by omega) ?_
        refine r_top (e := m (-1) (i + 1)) (congrFun hk1 _) ?_
        refine r_callv1i (m' := m2) (v := x) f132_483 o132 M8_52 p107 o107 kd264 rfl (by simp) hm ?_
        refine r_ceq f132_486 (t := 917) (by decide) (fun _ => ?_) (fun h => absurd (by omega) h)
        refine r_iinc f132_917 rfl rfl rfl (e := i + 5) (by omega) (by omega) (by omega) (ls' := [some (.inr (.inl (some (-1)))), some (.inr (.inl (some 0))), some (.inr (.inl (some 264))), some (.inl (i + 5))]) rfl ?_
        refine r_goto f132_920 (t := 18) (by decide) ?_
        exact l_law hL n (i + 5) (T + 9) m2 hs2 (by omega) (by omega) (by omega) (by omega)
      · refine r_swin f132_32 (by omega) (by omega) (o := 459) (by rw [q2]; rfl) (t := 491) (by decide) ?_
        refine r_aload_n f132_491 rfl ?_
        refine r_aload_n f132_492 rfl ?_
        refine r_iload_n f132_493 rfl ?_
        refine r_iconst f132_494 rfl ?_
        refine r_iadd f132_495 (e := i + 1) (by omega) (by omega) (by omega) ?_
        refine r_iald f132_496 kdm1 (by omega) (by omega) ?_
        obtain ⟨v, m1, m2, hx, hm, hs2⟩ := pr_other (L := L) hs (m (-1) (i + 1))
        have hk1 := zF_k hx
        obtain ⟨x, ex⟩ := zF_i v52 hx
        subst ex
        refine r_callv1i (m' := m1) (v := x) f132_497 o132 M8_53 p52 o52 kd0 rfl (by simp) hx ?_
        refine r_aload_n f132_500 rfl ?_
        refine r_aload_n f132_501 rfl ?_
        refine r_iload_n f132_502 rfl ?_
        refine r_iconst f132_503 rfl ?_
        refine r_iadd f132_504 (e := i + 1) (by omega) (by omega) (by omega) ?_
        refine r_iald f132_505 kdm1 (by omega) (by omega) ?_
        refine r_top (e := m (-1) (i + 1)) (congrFun hk1 _) ?_
        refine r_callv1i (m' := m2) (v := x) f132_506 o132 M8_56 p109 o109 kd264 rfl (by simp) hm ?_
        refine r_ceq f132_509 (t := 917) (by decide) (fun _ => ?_) (fun h => absurd (by omega) h)
        refine r_iinc f132_917 rfl rfl rfl (e := i + 5) (by omega) (by omega) (by omega) (ls' := [some (.inr (.inl (some (-1)))), some (.inr (.inl (some 0))), some (.inr (.inl (some 264))), some (.inl (i + 5))]) rfl ?_
        refine r_goto f132_920 (t := 18) (by decide) ?_
        exact l_law hL n (i + 5) (T + 9) m2 hs2 (by omega) (by omega) (by omega) (by omega)
      · refine r_swin f132_32 (by omega) (by omega) (o := 482) (by rw [q2]; rfl) (t := 514) (by decide) ?_
        refine r_aload_n f132_514 rfl ?_
        refine r_aload_n f132_515 rfl ?_
        refine r_iload_n f132_516 rfl ?_
        refine r_iconst f132_517 rfl ?_
        refine r_iadd f132_518 (e := i + 1) (by omega) (by omega) (by omega) ?_
        refine r_iald f132_519 kdm1 (by omega) (by omega) ?_
        refine r_aload_n f132_520 rfl ?_
        refine r_iload_n f132_521 rfl ?_
        refine r_iconst f132_522 rfl ?_
        refine r_iadd f132_523 (e := i + 2) (by omega) (by omega) (by omega) ?_
        refine r_iald f132_524 kdm1 (by omega) (by omega) ?_
        obtain ⟨v, m1, m2, hx, hm, hs2⟩ := pr_offered (L := L) hs (m (-1) (i + 1)) (m (-1) (i + 2))
        have hk1 := zF_k hx
        obtain ⟨x, ex⟩ := zF_i v53 hx
        subst ex
        refine r_callv2i (m' := m1) (v := x) f132_525 o132 M8_57 p53 o53 kd0 rfl (by simp) hx ?_
        refine r_aload_n f132_528 rfl ?_
        refine r_aload_n f132_529 rfl ?_
        refine r_iload_n f132_530 rfl ?_
        refine r_iconst f132_531 rfl ?_
        refine r_iadd f132_532 (e := i + 1) (by omega) (by omega) (by omega) ?_
        refine r_iald f132_533 kdm1 (by omega) (by omega) ?_
        refine r_top (e := m (-1) (i + 1)) (congrFun hk1 _) ?_
        refine r_aload_n f132_534 rfl ?_
        refine r_iload_n f132_535 rfl ?_
        refine r_iconst f132_536 rfl ?_
        refine r_iadd f132_537 (e := i + 2) (by omega) (by omega) (by omega) ?_
        refine r_iald f132_538 kdm1 (by omega) (by omega) ?_
        refine r_top (e := m (-1) (i + 2)) (congrFun hk1 _) ?_
        refine r_callv2i (m' := m2) (v := x) f132_539 o132 M8_60 p110 o110 kd264 rfl (by simp) hm ?_
        refine r_ceq f132_542 (t := 917) (by decide) (fun _ => ?_) (fun h => absurd (by omega) h)
        refine r_iinc f132_917 rfl rfl rfl (e := i + 5) (by omega) (by omega) (by omega) (ls' := [some (.inr (.inl (some (-1)))), some (.inr (.inl (some 0))), some (.inr (.inl (some 264))), some (.inl (i + 5))]) rfl ?_
        refine r_goto f132_920 (t := 18) (by decide) ?_
        exact l_law hL n (i + 5) (T + 9) m2 hs2 (by omega) (by omega) (by omega) (by omega)
      · refine r_swin f132_32 (by omega) (by omega) (o := 515) (by rw [q2]; rfl) (t := 547) (by decide) ?_
        refine r_aload_n f132_547 rfl ?_
        refine r_aload_n f132_548 rfl ?_
        refine r_iload_n f132_549 rfl ?_
        refine r_iconst f132_550 rfl ?_
        refine r_iadd f132_551 (e := i + 1) (by omega) (by omega) (by omega) ?_
        refine r_iald f132_552 kdm1 (by omega) (by omega) ?_
        obtain ⟨v, m1, m2, hx, hm, hs2⟩ := pr_take (L := L) hs (m (-1) (i + 1))
        have hk1 := zF_k hx
        obtain ⟨x, ex⟩ := zF_i v54 hx
        subst ex
        refine r_callv1i (m' := m1) (v := x) f132_553 o132 M8_61 p54 o54 kd0 rfl (by simp) hx ?_
        refine r_aload_n f132_556 rfl ?_
        refine r_aload_n f132_557 rfl ?_
        refine r_iload_n f132_558 rfl ?_
        refine r_iconst f132_559 rfl ?_
        refine r_iadd f132_560 (e := i + 1) (by omega) (by omega) (by omega) ?_
        refine r_iald f132_561 kdm1 (by omega) (by omega) ?_
        refine r_top (e := m (-1) (i + 1)) (congrFun hk1 _) ?_
        refine r_callv1i (m' := m2) (v := x) f132_562 o132 M8_64 p111 o111 kd264 rfl (by simp) hm ?_
        refine r_ceq f132_565 (t := 917) (by decide) (fun _ => ?_) (fun h => absurd (by omega) h)
        refine r_iinc f132_917 rfl rfl rfl (e := i + 5) (by omega) (by omega) (by omega) (ls' := [some (.inr (.inl (some (-1)))), some (.inr (.inl (some 0))), some (.inr (.inl (some 264))), some (.inl (i + 5))]) rfl ?_
        refine r_goto f132_920 (t := 18) (by decide) ?_
        exact l_law hL n (i + 5) (T + 9) m2 hs2 (by omega) (by omega) (by omega) (by omega)
      · refine r_swin f132_32 (by omega) (by omega) (o := 538) (by rw [q2]; rfl) (t := 570) (by decide) ?_
        refine r_aload_n f132_570 rfl ?_
        refine r_aload_n f132_571 rfl ?_
        refine r_iload_n f132_572 rfl ?_
        refine r_iconst f132_573 rfl ?_
        refine r_iadd f132_574 (e := i + 1) (by omega) (by omega) (by omega) ?_
        refine r_iald f132_575 kdm1 (by omega) (by omega) ?_
        obtain ⟨v, m1, m2, hx, hm, hs2⟩ := pr_giveUp (L := L) hs (m (-1) (i + 1))
        have hk1 := zF_k hx
        obtain ⟨x, ex⟩ := zF_i v55 hx
        subst ex
        refine r_callv1i (m' := m1) (v := x) f132_576 o132 M8_65 p55 o55 kd0 rfl (by simp) hx ?_
        refine r_aload_n f132_579 rfl ?_
        refine r_aload_n f132_580 rfl ?_
        refine r_iload_n f132_581 rfl ?_
        refine r_iconst f132_582 rfl ?_
        refine r_iadd f132_583 (e := i + 1) (by omega) (by omega) (by omega) ?_
        refine r_iald f132_584 kdm1 (by omega) (by omega) ?_
        refine r_top (e := m (-1) (i + 1)) (congrFun hk1 _) ?_
        refine r_callv1i (m' := m2) (v := x) f132_585 o132 M8_68 p113 o113 kd264 rfl (by simp) hm ?_
        refine r_ceq f132_588 (t := 917) (by decide) (fun _ => ?_) (fun h => absurd (by omega) h)
        refine r_iinc f132_917 rfl rfl rfl (e := i + 5) (by omega) (by omega) (by omega) (ls' := [some (.inr (.inl (some (-1)))), some (.inr (.inl (some 0))), some (.inr (.inl (some 264))), some (.inl (i + 5))]) rfl ?_
        refine r_goto f132_920 (t := 18) (by decide) ?_
        exact l_law hL n (i + 5) (T + 9) m2 hs2 (by omega) (by omega) (by omega) (by omega)
      · refine r_swin f132_32 (by omega) (by omega) (o := 561) (by rw [q2]; rfl) (t := 593) (by decide) ?_
        refine r_aload_n f132_593 rfl ?_
        refine r_aload_n f132_594 rfl ?_
        refine r_iload_n f132_595 rfl ?_
        refine r_iconst f132_596 rfl ?_
        refine r_iadd f132_597 (e := i + 1) (by omega) (by omega) (by omega) ?_
        refine r_iald f132_598 kdm1 (by omega) (by omega) ?_
        refine r_aload_n f132_599 rfl ?_
        refine r_iload_n f132_600 rfl ?_
        refine r_iconst f132_601 rfl ?_
        refine r_iadd f132_602 (e := i + 2) (by omega) (by omega) (by omega) ?_
        refine r_iald f132_603 kdm1 (by omega) (by omega) ?_
        obtain ⟨v, m1, m2, hx, hm, hs2⟩ := pr_about (L := L) hs (m (-1) (i + 1)) (m (-1) (i + 2))
        have hk1 := zF_k hx
        obtain ⟨x, ex⟩ := zF_i v56 hx
        subst ex
        refine r_callv2i (m' := m1) (v := x) f132_604 o132 M8_69 p56 o56 kd0 rfl (by simp) hx ?_
        refine r_aload_n f132_607 rfl ?_
        refine r_aload_n f132_608 rfl ?_
        refine r_iload_n f132_609 rfl ?_
        refine r_iconst f132_610 rfl ?_
        refine r_iadd f132_611 (e := i + 1) (by omega) (by omega) (by omega) ?_
        refine r_iald f132_612 kdm1 (by omega) (by omega) ?_
        refine r_top (e := m (-1) (i + 1)) (congrFun hk1 _) ?_
        refine r_aload_n f132_613 rfl ?_
        refine r_iload_n f132_614 rfl ?_
        refine r_iconst f132_615 rfl ?_
        refine r_iadd f132_616 (e := i + 2) (by omega) (by omega) (by omega) ?_
        refine r_iald f132_617 kdm1 (by omega) (by omega) ?_
        refine r_top (e := m (-1) (i + 2)) (congrFun hk1 _) ?_
        refine r_callv2i (m' := m2) (v := x) f132_618 o132 M8_72 p119 o119 kd264 rfl (by simp) hm ?_
        refine r_ceq f132_621 (t := 917) (by decide) (fun _ => ?_) (fun h => absurd (by omega) h)
        refine r_iinc f132_917 rfl rfl rfl (e := i + 5) (by omega) (by omega) (by omega) (ls' := [some (.inr (.inl (some (-1)))), some (.inr (.inl (some 0))), some (.inr (.inl (some 264))), some (.inl (i + 5))]) rfl ?_
        refine r_goto f132_920 (t := 18) (by decide) ?_
        exact l_law hL n (i + 5) (T + 9) m2 hs2 (by omega) (by omega) (by omega) (by omega)
      · refine r_swin f132_32 (by omega) (by omega) (o := 594) (by rw [q2]; rfl) (t := 626) (by decide) ?_
        refine r_aload_n f132_626 rfl ?_
        refine r_aload_n f132_627 rfl ?_
        refine r_iload_n f132_628 rfl ?_
        refine r_iconst f132_629 rfl ?_
        refine r_iadd f132_630 (e := i + 1) (by omega) (by omega) (by omega) ?_
        refine r_iald f132_631 kdm1 (by omega) (by omega) ?_
        refine r_aload_n f132_632 rfl ?_
        refine r_iload_n f132_633 rfl ?_
        refine r_iconst f132_634 rfl ?_
        refine r_iadd f132_635 (e := i + 2) (by omega) (by omega) (by omega) ?_
        refine r_iald f132_636 kdm1 (by omega) (by omega) ?_
        refine r_aload_n f132_637 rfl ?_
        refine r_iload_n f132_638 rfl ?_
        refine r_iconst f132_639 rfl ?_
        refine r_iadd f132_640 (e := i + 3) (by omega) (by omega) (by omega) ?_
        refine r_iald f132_641 kdm1 (by omega) (by omega) ?_
        obtain ⟨v, m1, m2, hx, hm, hs2⟩ := pr_laid (L := L) hs (m (-1) (i + 1)) (m (-1) (i + 2)) (m (-1) (i + 3))
        have hk1 := zF_k hx
        obtain ⟨x, ex⟩ := zF_i v57 hx
        subst ex
        refine r_callv3i (m' := m1) (v := x) f132_642 o132 M8_73 p57 o57 kd0 rfl (by simp) hx ?_
        refine r_aload_n f132_645 rfl ?_
        refine r_aload_n f132_646 rfl ?_
        refine r_iload_n f132_647 rfl ?_
        refine r_iconst f132_648 rfl ?_
        refine r_iadd f132_649 (e := i + 1) (by omega) (by omega) (by omega) ?_
        refine r_iald f132_650 kdm1 (by omega) (by omega) ?_
        refine r_top (e := m (-1) (i + 1)) (congrFun hk1 _) ?_
        refine r_aload_n f132_651 rfl ?_
        refine r_iload_n f132_652 rfl ?_
        refine r_iconst f132_653 rfl ?_
        refine r_iadd f132_654 (e := i + 2) (by omega) (by omega) (by omega) ?_
        refine r_iald f132_655 kdm1 (by omega) (by omega) ?_
        refine r_top (e := m (-1) (i + 2)) (congrFun hk1 _) ?_
        refine r_aload_n f132_656 rfl ?_
        refine r_iload_n f132_657 rfl ?_
        refine r_iconst f132_658 rfl ?_
        refine r_iadd f132_659 (e := i + 3) (by omega) (by omega) (by omega) ?_
        refine r_iald f132_660 kdm1 (by omega) (by omega) ?_
        refine r_top (e := m (-1) (i + 3)) (congrFun hk1 _) ?_
        refine r_callv3i (m' := m2) (v := x) f132_661 o132 M8_76 p120 o120 kd264 rfl (by simp) hm ?_
        refine r_ceq f132_664 (t := 917) (by decide) (fun _ => ?_) (fun h => absurd (by omega) h)
        refine r_iinc f132_917 rfl rfl rfl (e := i + 5) (by omega) (by omega) (by omega) (ls' := [some (.inr (.inl (some (-1)))), some (.inr (.inl (some 0))), some (.inr (.inl (some 264))), some (.inl (i + 5))]) rfl ?_
        refine r_goto f132_920 (t := 18) (by decide) ?_
        exact l_law hL n (i + 5) (T + 9) m2 hs2 (by omega) (by omega) (by omega) (by omega)
      · refine r_swin f132_32 (by omega) (by omega) (o := 637) (by rw [q2]; rfl) (t := 669) (by decide) ?_
        refine r_aload_n f132_669 rfl ?_
        refine r_aload_n f132_670 rfl ?_
        refine r_iload_n f132_671 rfl ?_
        refine r_iconst f132_672 rfl ?_
        refine r_iadd f132_673 (e := i + 1) (by omega) (by omega) (by omega) ?_
        refine r_iald f132_674 kdm1 (by omega) (by omega) ?_
        refine r_aload_n f132_675 rfl ?_
        refine r_iload_n f132_676 rfl ?_
        refine r_iconst f132_677 rfl ?_
        refine r_iadd f132_678 (e := i + 2) (by omega) (by omega) (by omega) ?_
        refine r_iald f132_679 kdm1 (by omega) (by omega) ?_
        refine r_aload_n f132_680 rfl ?_
        refine r_iload_n f132_681 rfl ?_
        refine r_iconst f132_682 rfl ?_
        refine r_iadd f132_683 (e := i + 3) (by omega) (by omega) (by omega) ?_
        refine r_iald f132_684 kdm1 (by omega) (by omega) ?_
        obtain ⟨v, m1, m2, hx, hm, hs2⟩ := pr_letter (L := L) hs (m (-1) (i + 1)) (m (-1) (i + 2)) (m (-1) (i + 3))
        have hk1 := zF_k hx
        obtain ⟨x, ex⟩ := zF_i v58 hx
        subst ex
        refine r_callv3i (m' := m1) (v := x) f132_685 o132 M8_77 p58 o58 kd0 rfl (by simp) hx ?_
        refine r_aload_n f132_688 rfl ?_
        refine r_aload_n f132_689 rfl ?_
        refine r_iload_n f132_690 rfl ?_
        refine r_iconst f132_691 rfl ?_
        refine r_iadd f132_692 (e := i + 1) (by omega) (by omega) (by omega) ?_
        refine r_iald f132_693 kdm1 (by omega) (by omega) ?_
        refine r_top (e := m (-1) (i + 1)) (congrFun hk1 _) ?_
        refine r_aload_n f132_694 rfl ?_
        refine r_iload_n f132_695 rfl ?_
        refine r_iconst f132_696 rfl ?_
        refine r_iadd f132_697 (e := i + 2) (by omega) (by omega) (by omega) ?_
        refine r_iald f132_698 kdm1 (by omega) (by omega) ?_
        refine r_top (e := m (-1) (i + 2)) (congrFun hk1 _) ?_
        refine r_aload_n f132_699 rfl ?_
        refine r_iload_n f132_700 rfl ?_
        refine r_iconst f132_701 rfl ?_
        refine r_iadd f132_702 (e := i + 3) (by omega) (by omega) (by omega) ?_
        refine r_iald f132_703 kdm1 (by omega) (by omega) ?_
        refine r_top (e := m (-1) (i + 3)) (congrFun hk1 _) ?_
        refine r_callv3i (m' := m2) (v := x) f132_704 o132 M8_80 p121 o121 kd264 rfl (by simp) hm ?_
        refine r_ceq f132_707 (t := 917) (by decide) (fun _ => ?_) (fun h => absurd (by omega) h)
        refine r_iinc f132_917 rfl rfl rfl (e := i + 5) (by omega) (by omega) (by omega) (ls' := [some (.inr (.inl (some (-1)))), some (.inr (.inl (some 0))), some (.inr (.inl (some 264))), some (.inl (i + 5))]) rfl ?_
        refine r_goto f132_920 (t := 18) (by decide) ?_
        exact l_law hL n (i + 5) (T + 9) m2 hs2 (by omega) (by omega) (by omega) (by omega)
      · refine r_swin f132_32 (by omega) (by omega) (o := 680) (by rw [q2]; rfl) (t := 712) (by decide) ?_
        refine r_aload_n f132_712 rfl ?_
        refine r_aload_n f132_713 rfl ?_
        refine r_iload_n f132_714 rfl ?_
        refine r_iconst f132_715 rfl ?_
        refine r_iadd f132_716 (e := i + 1) (by omega) (by omega) (by omega) ?_
        refine r_iald f132_717 kdm1 (by omega) (by omega) ?_
        obtain ⟨v, m1, m2, hx, hm, hs2⟩ := pr_open (L := L) hs (m (-1) (i + 1))
        have hk1 := zF_k hx
        obtain ⟨x, ex⟩ := zF_i v59 hx
        subst ex
        refine r_callv1i (m' := m1) (v := x) f132_718 o132 M8_81 p59 o59 kd0 rfl (by simp) hx ?_
        refine r_aload_n f132_721 rfl ?_
        refine r_aload_n f132_722 rfl ?_
        refine r_iload_n f132_723 rfl ?_
        refine r_iconst f132_724 rfl ?_
        refine r_iadd f132_725 (e := i + 1) (by omega) (by omega) (by omega) ?_
        refine r_iald f132_726 kdm1 (by omega) (by omega) ?_
        refine r_top (e := m (-1) (i + 1)) (congrFun hk1 _) ?_
        refine r_callv1i (m' := m2) (v := x) f132_727 o132 M8_84 p122 o122 kd264 rfl (by simp) hm ?_
        refine r_ceq f132_730 (t := 917) (by decide) (fun _ => ?_) (fun h => absurd (by omega) h)
        refine r_iinc f132_917 rfl rfl rfl (e := i + 5) (by omega) (by omega) (by omega) (ls' := [some (.inr (.inl (some (-1)))), some (.inr (.inl (some 0))), some (.inr (.inl (some 264))), some (.inl (i + 5))]) rfl ?_
        refine r_goto f132_920 (t := 18) (by decide) ?_
        exact l_law hL n (i + 5) (T + 9) m2 hs2 (by omega) (by omega) (by omega) (by omega)
      · refine r_swin f132_32 (by omega) (by omega) (o := 703) (by rw [q2]; rfl) (t := 735) (by decide) ?_
        refine r_aload_n f132_735 rfl ?_
        refine r_aload_n f132_736 rfl ?_
        refine r_iload_n f132_737 rfl ?_
        refine r_iconst f132_738 rfl ?_
        refine r_iadd f132_739 (e := i + 1) (by omega) (by omega) (by omega) ?_
        refine r_iald f132_740 kdm1 (by omega) (by omega) ?_
        obtain ⟨v, m1, m2, hx, hm, hs2⟩ := pr_arrive (L := L) hs (m (-1) (i + 1))
        have hk1 := zF_k hx
        obtain ⟨x, ex⟩ := zF_i v60 hx
        subst ex
        refine r_callv1i (m' := m1) (v := x) f132_741 o132 M8_85 p60 o60 kd0 rfl (by simp) hx ?_
        refine r_aload_n f132_744 rfl ?_
        refine r_aload_n f132_745 rfl ?_
        refine r_iload_n f132_746 rfl ?_
        refine r_iconst f132_747 rfl ?_
        refine r_iadd f132_748 (e := i + 1) (by omega) (by omega) (by omega) ?_
        refine r_iald f132_749 kdm1 (by omega) (by omega) ?_
        refine r_top (e := m (-1) (i + 1)) (congrFun hk1 _) ?_
        refine r_callv1i (m' := m2) (v := x) f132_750 o132 M8_88 p123 o123 kd264 rfl (by simp) hm ?_
        refine r_ceq f132_753 (t := 917) (by decide) (fun _ => ?_) (fun h => absurd (by omega) h)
        refine r_iinc f132_917 rfl rfl rfl (e := i + 5) (by omega) (by omega) (by omega) (ls' := [some (.inr (.inl (some (-1)))), some (.inr (.inl (some 0))), some (.inr (.inl (some 264))), some (.inl (i + 5))]) rfl ?_
        refine r_goto f132_920 (t := 18) (by decide) ?_
        exact l_law hL n (i + 5) (T + 9) m2 hs2 (by omega) (by omega) (by omega) (by omega)
      · refine r_swin f132_32 (by omega) (by omega) (o := 726) (by rw [q2]; rfl) (t := 758) (by decide) ?_
        refine r_aload_n f132_758 rfl ?_
        refine r_aload_n f132_759 rfl ?_
        refine r_iload_n f132_760 rfl ?_
        refine r_iconst f132_761 rfl ?_
        refine r_iadd f132_762 (e := i + 1) (by omega) (by omega) (by omega) ?_
        refine r_iald f132_763 kdm1 (by omega) (by omega) ?_
        refine r_aload_n f132_764 rfl ?_
        refine r_iload_n f132_765 rfl ?_
        refine r_iconst f132_766 rfl ?_
        refine r_iadd f132_767 (e := i + 2) (by omega) (by omega) (by omega) ?_
        refine r_iald f132_768 kdm1 (by omega) (by omega) ?_
        refine r_aload_n f132_769 rfl ?_
        refine r_iload_n f132_770 rfl ?_
        refine r_iconst f132_771 rfl ?_
        refine r_iadd f132_772 (e := i + 3) (by omega) (by omega) (by omega) ?_
        refine r_iald f132_773 kdm1 (by omega) (by omega) ?_
        obtain ⟨v, m1, m2, hx, hm, hs2⟩ := pr_door (L := L) hs (by omega) (m (-1) (i + 1)) (m (-1) (i + 2)) (m (-1) (i + 3))
        have hk1 := zF_k hx
        obtain ⟨x, ex⟩ := zF_i v61 hx
        subst ex
        refine r_callv3i (m' := m1) (v := x) f132_774 o132 M8_89 p61 o61 kd0 rfl (by simp) hx ?_
        refine r_aload_n f132_777 rfl ?_
        refine r_aload_n f132_778 rfl ?_
        refine r_iload_n f132_779 rfl ?_
        refine r_iconst f132_780 rfl ?_
        refine r_iadd f132_781 (e := i + 1) (by omega) (by omega) (by omega) ?_
        refine r_iald f132_782 kdm1 (by omega) (by omega) ?_
        refine r_top (e := m (-1) (i + 1)) (congrFun hk1 _) ?_
        refine r_aload_n f132_783 rfl ?_
        refine r_iload_n f132_784 rfl ?_
        refine r_iconst f132_785 rfl ?_
        refine r_iadd f132_786 (e := i + 2) (by omega) (by omega) (by omega) ?_
        refine r_iald f132_787 kdm1 (by omega) (by omega) ?_
        refine r_top (e := m (-1) (i + 2)) (congrFun hk1 _) ?_
        refine r_aload_n f132_788 rfl ?_
        refine r_iload_n f132_789 rfl ?_
        refine r_iconst f132_790 rfl ?_
        refine r_iadd f132_791 (e := i + 3) (by omega) (by omega) (by omega) ?_
        refine r_iald f132_792 kdm1 (by omega) (by omega) ?_
        refine r_top (e := m (-1) (i + 3)) (congrFun hk1 _) ?_
        refine r_callv3i (m' := m2) (v := x) f132_793 o132 M8_92 p125 o125 kd264 rfl (by simp) hm ?_
        refine r_ceq f132_796 (t := 917) (by decide) (fun _ => ?_) (fun h => absurd (by omega) h)
        refine r_iinc f132_917 rfl rfl rfl (e := i + 5) (by omega) (by omega) (by omega) (ls' := [some (.inr (.inl (some (-1)))), some (.inr (.inl (some 0))), some (.inr (.inl (some 264))), some (.inl (i + 5))]) rfl ?_
        refine r_goto f132_920 (t := 18) (by decide) ?_
        exact l_law hL n (i + 5) (T + 9) m2 hs2 (by omega) (by omega) (by omega) (by omega)
      · refine r_swin f132_32 (by omega) (by omega) (o := 769) (by rw [q2]; rfl) (t := 801) (by decide) ?_
        refine r_aload_n f132_801 rfl ?_
        obtain ⟨v, m1, m2, hx, hm, hs2⟩ := pr_pass (L := L) hs
        have hk1 := zF_k hx
        obtain ⟨x, ex⟩ := zF_i v62 hx
        subst ex
        refine r_callv0i (m' := m1) (v := x) f132_802 o132 M8_93 p62 o62 kd0 rfl (by simp) hx ?_
        refine r_aload_n f132_805 rfl ?_
        refine r_callv0i (m' := m2) (v := x) f132_806 o132 M8_97 p127 o127 kd264 rfl (by simp) hm ?_
        refine r_ceq f132_809 (t := 917) (by decide) (fun _ => ?_) (fun h => absurd (by omega) h)
        refine r_iinc f132_917 rfl rfl rfl (e := i + 5) (by omega) (by omega) (by omega) (ls' := [some (.inr (.inl (some (-1)))), some (.inr (.inl (some 0))), some (.inr (.inl (some 264))), some (.inl (i + 5))]) rfl ?_
        refine r_goto f132_920 (t := 18) (by decide) ?_
        exact l_law hL n (i + 5) (T + 9) m2 hs2 (by omega) (by omega) (by omega) (by omega)
      · refine r_swin f132_32 (by omega) (by omega) (o := 782) (by rw [q2]; rfl) (t := 814) (by decide) ?_
        refine r_aload_n f132_814 rfl ?_
        refine r_aload_n f132_815 rfl ?_
        refine r_iload_n f132_816 rfl ?_
        refine r_iconst f132_817 rfl ?_
        refine r_iadd f132_818 (e := i + 1) (by omega) (by omega) (by omega) ?_
        refine r_iald f132_819 kdm1 (by omega) (by omega) ?_
        refine r_aload_n f132_820 rfl ?_
        refine r_iload_n f132_821 rfl ?_
        refine r_iconst f132_822 rfl ?_
        refine r_iadd f132_823 (e := i + 2) (by omega) (by omega) (by omega) ?_
        refine r_iald f132_824 kdm1 (by omega) (by omega) ?_
        obtain ⟨v, m1, m2, hx, hm, hs2⟩ := pr_suppers (L := L) hs (m (-1) (i + 1)) (m (-1) (i + 2))
        have hk1 := zF_k hx
        obtain ⟨x, ex⟩ := zF_i v63 hx
        subst ex
        refine r_callv2i (m' := m1) (v := x) f132_825 o132 M8_98 p63 o63 kd0 rfl (by simp) hx ?_
        refine r_aload_n f132_828 rfl ?_
        refine r_aload_n f132_829 rfl ?_
        refine r_iload_n f132_830 rfl ?_
        refine r_iconst f132_831 rfl ?_
        refine r_iadd f132_832 (e := i + 1) (by omega) (by omega) (by omega) ?_
        refine r_iald f132_833 kdm1 (by omega) (by omega) ?_
        refine r_top (e := m (-1) (i + 1)) (congrFun hk1 _) ?_
        refine r_aload_n f132_834 rfl ?_
        refine r_iload_n f132_835 rfl ?_
        refine r_iconst f132_836 rfl ?_
        refine r_iadd f132_837 (e := i + 2) (by omega) (by omega) (by omega) ?_
        refine r_iald f132_838 kdm1 (by omega) (by omega) ?_
        refine r_top (e := m (-1) (i + 2)) (congrFun hk1 _) ?_
        refine r_callv2i (m' := m2) (v := x) f132_839 o132 M8_101 p128 o128 kd264 rfl (by simp) hm ?_
        refine r_ceq f132_842 (t := 917) (by decide) (fun _ => ?_) (fun h => absurd (by omega) h)
        refine r_iinc f132_917 rfl rfl rfl (e := i + 5) (by omega) (by omega) (by omega) (ls' := [some (.inr (.inl (some (-1)))), some (.inr (.inl (some 0))), some (.inr (.inl (some 264))), some (.inl (i + 5))]) rfl ?_
        refine r_goto f132_920 (t := 18) (by decide) ?_
        exact l_law hL n (i + 5) (T + 9) m2 hs2 (by omega) (by omega) (by omega) (by omega)
      · refine r_swin f132_32 (by omega) (by omega) (o := 815) (by rw [q2]; rfl) (t := 847) (by decide) ?_
        refine r_aload_n f132_847 rfl ?_
        refine r_aload_n f132_848 rfl ?_
        refine r_iload_n f132_849 rfl ?_
        refine r_iconst f132_850 rfl ?_
        refine r_iadd f132_851 (e := i + 1) (by omega) (by omega) (by omega) ?_
        refine r_iald f132_852 kdm1 (by omega) (by omega) ?_
        refine r_aload_n f132_853 rfl ?_
        refine r_iload_n f132_854 rfl ?_
        refine r_iconst f132_855 rfl ?_
        refine r_iadd f132_856 (e := i + 2) (by omega) (by omega) (by omega) ?_
        refine r_iald f132_857 kdm1 (by omega) (by omega) ?_
        obtain ⟨v, m1, m2, hx, hm, hs2⟩ := pr_list (L := L) hs (m (-1) (i + 1)) (m (-1) (i + 2))
        have hk1 := zF_k hx
        obtain ⟨x, ex⟩ := zF_i v64 hx
        subst ex
        refine r_callv2i (m' := m1) (v := x) f132_858 o132 M8_102 p64 o64 kd0 rfl (by simp) hx ?_
        refine r_aload_n f132_861 rfl ?_
        refine r_aload_n f132_862 rfl ?_
        refine r_iload_n f132_863 rfl ?_
        refine r_iconst f132_864 rfl ?_
        refine r_iadd f132_865 (e := i + 1) (by omega) (by omega) (by omega) ?_
        refine r_iald f132_866 kdm1 (by omega) (by omega) ?_
        refine r_top (e := m (-1) (i + 1)) (congrFun hk1 _) ?_
        refine r_aload_n f132_867 rfl ?_
        refine r_iload_n f132_868 rfl ?_
        refine r_iconst f132_869 rfl ?_
        refine r_iadd f132_870 (e := i + 2) (by omega) (by omega) (by omega) ?_
        refine r_iald f132_871 kdm1 (by omega) (by omega) ?_
        refine r_top (e := m (-1) (i + 2)) (congrFun hk1 _) ?_
        refine r_callv2i (m' := m2) (v := x) f132_872 o132 M8_105 p112 o112 kd264 rfl (by simp) hm ?_
        refine r_ceq f132_875 (t := 917) (by decide) (fun _ => ?_) (fun h => absurd (by omega) h)
        refine r_iinc f132_917 rfl rfl rfl (e := i + 5) (by omega) (by omega) (by omega) (ls' := [some (.inr (.inl (some (-1)))), some (.inr (.inl (some 0))), some (.inr (.inl (some 264))), some (.inl (i + 5))]) rfl ?_
        refine r_goto f132_920 (t := 18) (by decide) ?_
        exact l_law hL n (i + 5) (T + 9) m2 hs2 (by omega) (by omega) (by omega) (by omega)
      · refine r_swin f132_32 (by omega) (by omega) (o := 848) (by rw [q2]; rfl) (t := 880) (by decide) ?_
        refine r_aload_n f132_880 rfl ?_
        refine r_aload_n f132_881 rfl ?_
        refine r_iload_n f132_882 rfl ?_
        refine r_iconst f132_883 rfl ?_
        refine r_iadd f132_884 (e := i + 1) (by omega) (by omega) (by omega) ?_
        refine r_iald f132_885 kdm1 (by omega) (by omega) ?_
        obtain ⟨v, m1, m2, hx, hm, hs2⟩ := pr_count (L := L) hs (m (-1) (i + 1))
        have hk1 := zF_k hx
        obtain ⟨x, ex⟩ := zF_i v65 hx
        subst ex
        refine r_callv1i (m' := m1) (v := x) f132_886 o132 M8_106 p65 o65 kd0 rfl (by simp) hx ?_
        refine r_aload_n f132_889 rfl ?_
        refine r_aload_n f132_890 rfl ?_
        refine r_iload_n f132_891 rfl ?_
        refine r_iconst f132_892 rfl ?_
        refine r_iadd f132_893 (e := i + 1) (by omega) (by omega) (by omega) ?_
        refine r_iald f132_894 kdm1 (by omega) (by omega) ?_
        refine r_top (e := m (-1) (i + 1)) (congrFun hk1 _) ?_
        refine r_callv1i (m' := m2) (v := x) f132_895 o132 M8_109 p130 o130 kd264 rfl (by simp) hm ?_
        refine r_ceq f132_898 (t := 917) (by decide) (fun _ => ?_) (fun h => absurd (by omega) h)
        refine r_iinc f132_917 rfl rfl rfl (e := i + 5) (by omega) (by omega) (by omega) (ls' := [some (.inr (.inl (some (-1)))), some (.inr (.inl (some 0))), some (.inr (.inl (some 264))), some (.inl (i + 5))]) rfl ?_
        refine r_goto f132_920 (t := 18) (by decide) ?_
        exact l_law hL n (i + 5) (T + 9) m2 hs2 (by omega) (by omega) (by omega) (by omega)
      · refine r_swin f132_32 (by omega) (by omega) (o := 871) (by rw [q2]; rfl) (t := 903) (by decide) ?_
        refine r_aload_n f132_903 rfl ?_
        obtain ⟨v, m1, m2, hx, hm, hs2⟩ := pr_digest (L := L) hs
        have hk1 := zF_k hx
        obtain ⟨x, ex⟩ := zF_l v66 hx
        subst ex
        refine r_callv0l (m' := m1) (v := x) f132_904 o132 M8_110 p66 o66 kd0 rfl (by simp) hx ?_
        refine r_aload_n f132_907 rfl ?_
        refine r_callv0l (m' := m2) (v := x) f132_908 o132 M8_114 p131 o131 kd264 rfl (by simp) hm ?_
        refine r_lcmp0 f132_911 ?_
        refine r_zeq f132_912 (t := 917) (by decide) (fun _ => ?_) (fun h => absurd (by omega) h)
        refine r_iinc f132_917 rfl rfl rfl (e := i + 5) (by omega) (by omega) (by omega) (ls' := [some (.inr (.inl (some (-1)))), some (.inr (.inl (some 0))), some (.inr (.inl (some 264))), some (.inl (i + 5))]) rfl ?_
        refine r_goto f132_920 (t := 18) (by decide) ?_
        exact l_law hL n (i + 5) (T + 9) m2 hs2 (by omega) (by omega) (by omega) (by omega)
theorem zlaw_runs (L : Nat) (hL : L ≤ 2560) (xs : Nat → Int32) : ∃ (n : Nat) (M' : zM), zrun n 9 zlaw 0 (zent zlaw [.inr (.inl (some (-1)))]) [] (zM0 L xs) = some (some (.inl 1), M') ∧ M'.1 ≤ 600000 ∧ M'.2.1 ≤ 7302250 := by
  have h : zR 9 132 0 (zent 132 [.inr (.inl (some (-1)))]) [] (zM0 L xs) (fun r M => r = some (.inl 1) ∧ ∃ m2, M = zem L m2) := by
    refine law_start ?_
    refine r_iconst f132_16 rfl ?_
    refine r_istore_n f132_17 rfl (ls' := [some (.inr (.inl (some (-1)))), some (.inr (.inl (some 0))), some (.inr (.inl (some 264))), some (.inl 0)]) rfl ?_
    exact l_law hL 513 0 0 _ Sim_0 (by omega) (by omega) (by omega) (by omega)
  obtain ⟨n, ⟨r, M⟩, hr, h1, m2, h2⟩ := h
  have e1 : r = some (.inl 1) := h1
  have e2 : M = zem L m2 := h2
  subst e1 e2
  exact ⟨n, _, hr, by show 290 ≤ 600000; omega, by show 8927 ≤ 7302250; omega⟩
