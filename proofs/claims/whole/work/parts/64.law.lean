set_option maxRecDepth 20000 in
set_option maxHeartbeats 4000000 in
theorem zlaw {E : zEv} {Γ : zCx} {L : Nat} {xs : Nat → Int32} (hC : zCok E Γ RL cL_law 4 12) (hX : zSc E Γ L xs) (hend : ∀ ls M, zG E Γ 4 982 ls [] M) : ∀ M, Rl M M → zG E Γ 4 18 [(4, 0), (2, 2533), (2, 3000), (0, 0)] [] M := by
  have lqa : ∀ (k : Nat) (i : Int) (M : zMem), (L : Int) - i + 1 < (k : Int) → 0 ≤ i → i ≤ (L : Int) → Rl M M → zG E Γ 4 18 [(4, 0), (2, 2533), (2, 3000), (0, i)] [] M := by
    intro k
    induction k with
    | zero =>
      intro i M hk q0 q1 hRl
      exfalso; omega
    | succ k ih =>
      intro i M hk q0 q1 hRl
      have hL := hX.2.2.2
      refine zg_iload_n hC dL_law_18 rfl ?_
      refine zg_sload_n hC dL_law_19 rfl ?_
      refine zg_slen hC hX dL_law_20 ?_
      refine zg_iconst hC dL_law_21 ?_
      refine zg_isub hC dL_law_22 ?_
      refine zg_icmp_gt hC 982 dL_law_23 (fun h23 => ?_) (fun h23 => ?_)
      · exact hend _ _
      · refine zg_sload_n hC dL_law_26 rfl ?_
        refine zg_iload_n hC dL_law_27 rfl ?_
        refine zg_sald2 hC hX dL_law_28 (by omega) (by omega) ?_
        refine zg_bipush hC dL_law_29 ?_
        refine zg_iand hC dL_law_31 ?_
        rcases (show zand (xs i.toNat).toInt 31 = 0 ∨ zand (xs i.toNat).toInt 31 = 1 ∨ zand (xs i.toNat).toInt 31 = 2 ∨ zand (xs i.toNat).toInt 31 = 3 ∨ zand (xs i.toNat).toInt 31 = 4 ∨ zand (xs i.toNat).toInt 31 = 5 ∨ zand (xs i.toNat).toInt 31 = 6 ∨ zand (xs i.toNat).toInt 31 = 7 ∨ zand (xs i.toNat).toInt 31 = 8 ∨ zand (xs i.toNat).toInt 31 = 9 ∨ zand (xs i.toNat).toInt 31 = 10 ∨ zand (xs i.toNat).toInt 31 = 11 ∨ zand (xs i.toNat).toInt 31 = 12 ∨ zand (xs i.toNat).toInt 31 = 13 ∨ zand (xs i.toNat).toInt 31 = 14 ∨ zand (xs i.toNat).toInt 31 = 15 ∨ zand (xs i.toNat).toInt 31 = 16 ∨ zand (xs i.toNat).toInt 31 = 17 ∨ zand (xs i.toNat).toInt 31 = 18 ∨ zand (xs i.toNat).toInt 31 = 19 ∨ zand (xs i.toNat).toInt 31 = 20 ∨ zand (xs i.toNat).toInt 31 = 21 ∨ zand (xs i.toNat).toInt 31 = 22 ∨ zand (xs i.toNat).toInt 31 = 23 ∨ (zand (xs i.toNat).toInt 31 < 0 ∨ 23 < zand (xs i.toNat).toInt 31) by omega) with e32 | e32 | e32 | e32 | e32 | e32 | e32 | e32 | e32 | e32 | e32 | e32 | e32 | e32 | e32 | e32 | e32 | e32 | e32 | e32 | e32 | e32 | e32 | e32 | e32
        · refine zg_rw e32 ?_
          refine zg_tswIn hC 144 dL_law_32 (by decide) (by decide) rfl (by decide) ?_
          refine zg_aload_n hC dL_law_144 rfl ?_
          refine zg_sload_n hC dL_law_145 rfl ?_
          refine zg_iload_n hC dL_law_146 rfl ?_
          refine zg_iconst hC dL_law_147 ?_
          refine zg_iadd hC dL_law_148 ?_
          refine zg_sald2 hC hX dL_law_149 (by omega) (by omega) ?_
          refine zg_ci1 hC lk_RL_13 dL_law_150 (ci := 5) rfl ob5 (q_feed hRl.2.2.2.1.2.1) (fun x1 M1 hM1 => ?_)
          refine zg_aload_n hC dL_law_153 rfl ?_
          refine zg_sload_n hC dL_law_154 rfl ?_
          refine zg_iload_n hC dL_law_155 rfl ?_
          refine zg_iconst hC dL_law_156 ?_
          refine zg_iadd hC dL_law_157 ?_
          refine zg_sald2 hC hX dL_law_158 (by omega) (by omega) ?_
          have cf := cf_feed hRl hM1
          have h1 := rl_r hRl cf
          have hok1 := h1.1.2.ok h1.1.1
          have hs1 : 0 ≤ M1 3000 ∧ M1 3000 ≤ 12 := by rw [h1.2.2.1.1]; exact h1.2.2.1.2.1
          refine zg_ci1 hC lk_RL_17 dL_law_159 (ci := 6) rfl ob6 (m_feed (by rw [h1.2.2.2.1.1]; exact h1.2.2.2.1.2.1)) (fun x2 M2 hM2 => ?_)
          have hh := st_feed hRl hM1 hM2
          refine zg_icmp_eq hC 976 dL_law_162 (fun h162 => ?_) (fun h162 => ?_)
          · refine zg_iinc hC dL_law_976 rfl ?_
            refine zg_goto hC 18 dL_law_979 ?_
            exact ih (i + 5) M2 (by omega) (by omega) (by omega) hh.2
          · exact absurd hh.1 h162
        · refine zg_rw e32 ?_
          refine zg_tswIn hC 167 dL_law_32 (by decide) (by decide) rfl (by decide) ?_
          refine zg_aload_n hC dL_law_167 rfl ?_
          obtain ⟨T1, T2, T3, pA, pW, pE, ht⟩ : ∃ T1 T2 T3 pA pW pE, s_tot (fun i => M (2541 + i)) (M 2537) T1 T2 T3 pA pW pE := ⟨_, _, _, _, _, _, rfl, rfl, rfl, rfl, rfl, rfl⟩
          refine zg_ci0 hC lk_RL_18 dL_law_168 (ci := 5) rfl ob5 (q_rights (nB := 0) (tB := 149) rfl rfl ht hRl.2.2.2.1.2.1 rfl (fun _ _ _ => rfl) (fun i i0 i1 => (hRl.2.2.2.1.2.2 i i0 i1).2)) (fun x1 M1 hM1 => ?_)
          refine zg_aload_n hC dL_law_171 rfl ?_
          have cf := cf_rights ht hM1
          have h1 := rl_r hRl cf
          have hok1 := h1.1.2.ok h1.1.1
          have hs1 : 0 ≤ M1 3000 ∧ M1 3000 ≤ 12 := by rw [h1.2.2.1.1]; exact h1.2.2.1.2.1
          refine zg_ci0 hC lk_RL_22 dL_law_172 (ci := 6) rfl ob6 (m_rights (mB := 3100) rfl ht hRl.2.2.2.1.2.1 h1.2.2.2.1.1 (fun i i0 i1 => (h1.2.2.2.1.2.2 i i0 i1).1) (fun i i0 i1 => (hRl.2.2.2.1.2.2 i i0 i1).2)) (fun x2 M2 hM2 => ?_)
          have hh := st_rights ht hRl hM1 hM2
          refine zg_icmp_eq hC 976 dL_law_175 (fun h175 => ?_) (fun h175 => ?_)
          · refine zg_iinc hC dL_law_976 rfl ?_
            refine zg_goto hC 18 dL_law_979 ?_
            exact ih (i + 5) M2 (by omega) (by omega) (by omega) hh.2
          · exact absurd hh.1 h175
        · refine zg_rw e32 ?_
          refine zg_tswIn hC 180 dL_law_32 (by decide) (by decide) rfl (by decide) ?_
          refine zg_aload_n hC dL_law_180 rfl ?_
          refine zg_ci0 hC lk_RL_23 dL_law_181 (ci := 5) rfl ob5 (q_fault) (fun x1 M1 hM1 => ?_)
          refine zg_aload_n hC dL_law_184 rfl ?_
          have cf : ∀ x, 3000 ≤ x → M1 x = M x := fun x _ => by rw [hM1.1]
          have h1 := rl_r hRl cf
          have hok1 := h1.1.2.ok h1.1.1
          have hs1 : 0 ≤ M1 3000 ∧ M1 3000 ≤ 12 := by rw [h1.2.2.1.1]; exact h1.2.2.1.2.1
          refine zg_ci0 hC lk_RL_26 dL_law_185 (ci := 6) rfl ob6 (m_fault) (fun x2 M2 hM2 => ?_)
          have hh : x1 = x2 ∧ Rl M2 M2 := ⟨by rw [hM1.2, hM2.2]; exact h1.2.2.2.2.symm, by rw [hM2.1, hM1.1]; exact hRl⟩
          refine zg_icmp_eq hC 976 dL_law_188 (fun h188 => ?_) (fun h188 => ?_)
          · refine zg_iinc hC dL_law_976 rfl ?_
            refine zg_goto hC 18 dL_law_979 ?_
            exact ih (i + 5) M2 (by omega) (by omega) (by omega) hh.2
          · exact absurd hh.1 h188
        · refine zg_rw e32 ?_
          refine zg_tswIn hC 193 dL_law_32 (by decide) (by decide) rfl (by decide) ?_
          refine zg_aload_n hC dL_law_193 rfl ?_
          refine zg_ci0 hC lk_RL_27 dL_law_194 (ci := 5) rfl ob5 (q_undo (nB := 0) (tB := 149) rfl rfl hRl.1.1 hRl.2.2.1.2.1 hRl.2.2.1.2.2.1) (fun x1 M1 hM1 => ?_)
          refine zg_aload_n hC dL_law_197 rfl ?_
          have cf := cf_undo hRl hM1
          have h1 := rl_r hRl cf
          have hok1 := h1.1.2.ok h1.1.1
          have hs1 : 0 ≤ M1 3000 ∧ M1 3000 ≤ 12 := by rw [h1.2.2.1.1]; exact h1.2.2.1.2.1
          refine zg_ci0 hC lk_RL_30 dL_law_198 (ci := 6) rfl ob6 (m_undo (mB := 3100) rfl hs1) (fun x2 M2 hM2 => ?_)
          have hh := st_undo hRl hM1 hM2
          refine zg_icmp_eq hC 976 dL_law_201 (fun h201 => ?_) (fun h201 => ?_)
          · refine zg_iinc hC dL_law_976 rfl ?_
            refine zg_goto hC 18 dL_law_979 ?_
            exact ih (i + 5) M2 (by omega) (by omega) (by omega) hh.2
          · exact absurd hh.1 h201
        · refine zg_rw e32 ?_
          refine zg_tswIn hC 206 dL_law_32 (by decide) (by decide) rfl (by decide) ?_
          refine zg_aload_n hC dL_law_206 rfl ?_
          refine zg_sload_n hC dL_law_207 rfl ?_
          refine zg_iload_n hC dL_law_208 rfl ?_
          refine zg_iconst hC dL_law_209 ?_
          refine zg_iadd hC dL_law_210 ?_
          refine zg_sald2 hC hX dL_law_211 (by omega) (by omega) ?_
          refine zg_sload_n hC dL_law_212 rfl ?_
          refine zg_iload_n hC dL_law_213 rfl ?_
          refine zg_iconst hC dL_law_214 ?_
          refine zg_iadd hC dL_law_215 ?_
          refine zg_sald2 hC hX dL_law_216 (by omega) (by omega) ?_
          refine zg_sload_n hC dL_law_217 rfl ?_
          refine zg_iload_n hC dL_law_218 rfl ?_
          refine zg_iconst hC dL_law_219 ?_
          refine zg_iadd hC dL_law_220 ?_
          refine zg_sald2 hC hX dL_law_221 (by omega) (by omega) ?_
          refine zg_sload_n hC dL_law_222 rfl ?_
          refine zg_iload_n hC dL_law_223 rfl ?_
          refine zg_iconst hC dL_law_224 ?_
          refine zg_iadd hC dL_law_225 ?_
          refine zg_sald2 hC hX dL_law_226 (by omega) (by omega) ?_
          refine zg_ci4 hC lk_RL_31 dL_law_227 (ci := 5) rfl ob5 (q_enact (nB := 0) (tB := 149) rfl rfl hRl.1.1 hRl.2.2.1.2.1 hRl.2.2.1.2.2.1) (fun x1 M1 hM1 => ?_)
          refine zg_aload_n hC dL_law_230 rfl ?_
          refine zg_sload_n hC dL_law_231 rfl ?_
          refine zg_iload_n hC dL_law_232 rfl ?_
          refine zg_iconst hC dL_law_233 ?_
          refine zg_iadd hC dL_law_234 ?_
          refine zg_sald2 hC hX dL_law_235 (by omega) (by omega) ?_
          refine zg_sload_n hC dL_law_236 rfl ?_
          refine zg_iload_n hC dL_law_237 rfl ?_
          refine zg_iconst hC dL_law_238 ?_
          refine zg_iadd hC dL_law_239 ?_
          refine zg_sald2 hC hX dL_law_240 (by omega) (by omega) ?_
          refine zg_sload_n hC dL_law_241 rfl ?_
          refine zg_iload_n hC dL_law_242 rfl ?_
          refine zg_iconst hC dL_law_243 ?_
          refine zg_iadd hC dL_law_244 ?_
          refine zg_sald2 hC hX dL_law_245 (by omega) (by omega) ?_
          refine zg_sload_n hC dL_law_246 rfl ?_
          refine zg_iload_n hC dL_law_247 rfl ?_
          refine zg_iconst hC dL_law_248 ?_
          refine zg_iadd hC dL_law_249 ?_
          refine zg_sald2 hC hX dL_law_250 (by omega) (by omega) ?_
          have cf := cf_enact hRl hM1
          have h1 := rl_r hRl cf
          have hok1 := h1.1.2.ok h1.1.1
          have hs1 : 0 ≤ M1 3000 ∧ M1 3000 ≤ 12 := by rw [h1.2.2.1.1]; exact h1.2.2.1.2.1
          refine zg_ci4 hC lk_RL_35 dL_law_251 (ci := 6) rfl ob6 (m_enact (mB := 3100) rfl hok1 hs1) (fun x2 M2 hM2 => ?_)
          have hh := st_enact hRl hM1 hM2
          refine zg_icmp_eq hC 976 dL_law_254 (fun h254 => ?_) (fun h254 => ?_)
          · refine zg_iinc hC dL_law_976 rfl ?_
            refine zg_goto hC 18 dL_law_979 ?_
            exact ih (i + 5) M2 (by omega) (by omega) (by omega) hh.2
          · exact absurd hh.1 h254
        · refine zg_rw e32 ?_
          refine zg_tswIn hC 259 dL_law_32 (by decide) (by decide) rfl (by decide) ?_
          refine zg_aload_n hC dL_law_259 rfl ?_
          refine zg_sload_n hC dL_law_260 rfl ?_
          refine zg_iload_n hC dL_law_261 rfl ?_
          refine zg_iconst hC dL_law_262 ?_
          refine zg_iadd hC dL_law_263 ?_
          refine zg_sald2 hC hX dL_law_264 (by omega) (by omega) ?_
          refine zg_ci1 hC lk_RL_36 dL_law_265 (ci := 5) rfl ob5 (q_repeal (nB := 0) (tB := 149) rfl rfl hRl.1.1 hRl.2.2.1.2.1 hRl.2.2.1.2.2.1) (fun x1 M1 hM1 => ?_)
          refine zg_aload_n hC dL_law_268 rfl ?_
          refine zg_sload_n hC dL_law_269 rfl ?_
          refine zg_iload_n hC dL_law_270 rfl ?_
          refine zg_iconst hC dL_law_271 ?_
          refine zg_iadd hC dL_law_272 ?_
          refine zg_sald2 hC hX dL_law_273 (by omega) (by omega) ?_
          have cf := cf_repeal hRl hM1
          have h1 := rl_r hRl cf
          have hok1 := h1.1.2.ok h1.1.1
          have hs1 : 0 ≤ M1 3000 ∧ M1 3000 ≤ 12 := by rw [h1.2.2.1.1]; exact h1.2.2.1.2.1
          refine zg_ci1 hC lk_RL_39 dL_law_274 (ci := 6) rfl ob6 (m_repeal (mB := 3100) rfl hok1 hs1) (fun x2 M2 hM2 => ?_)
          have hh := st_repeal hRl hM1 hM2
          refine zg_icmp_eq hC 976 dL_law_277 (fun h277 => ?_) (fun h277 => ?_)
          · refine zg_iinc hC dL_law_976 rfl ?_
            refine zg_goto hC 18 dL_law_979 ?_
            exact ih (i + 5) M2 (by omega) (by omega) (by omega) hh.2
          · exact absurd hh.1 h277
        · refine zg_rw e32 ?_
          refine zg_tswIn hC 282 dL_law_32 (by decide) (by decide) rfl (by decide) ?_
          refine zg_aload_n hC dL_law_282 rfl ?_
          refine zg_sload_n hC dL_law_283 rfl ?_
          refine zg_iload_n hC dL_law_284 rfl ?_
          refine zg_iconst hC dL_law_285 ?_
          refine zg_iadd hC dL_law_286 ?_
          refine zg_sald2 hC hX dL_law_287 (by omega) (by omega) ?_
          refine zg_sload_n hC dL_law_288 rfl ?_
          refine zg_iload_n hC dL_law_289 rfl ?_
          refine zg_iconst hC dL_law_290 ?_
          refine zg_iadd hC dL_law_291 ?_
          refine zg_sald2 hC hX dL_law_292 (by omega) (by omega) ?_
          refine zg_sload_n hC dL_law_293 rfl ?_
          refine zg_iload_n hC dL_law_294 rfl ?_
          refine zg_iconst hC dL_law_295 ?_
          refine zg_iadd hC dL_law_296 ?_
          refine zg_sald2 hC hX dL_law_297 (by omega) (by omega) ?_
          refine zg_sload_n hC dL_law_298 rfl ?_
          refine zg_iload_n hC dL_law_299 rfl ?_
          refine zg_iconst hC dL_law_300 ?_
          refine zg_iadd hC dL_law_301 ?_
          refine zg_sald2 hC hX dL_law_302 (by omega) (by omega) ?_
          refine zg_ci4 hC lk_RL_40 dL_law_303 (ci := 5) rfl ob5 (q_alter (nB := 0) (tB := 149) rfl rfl hRl.1.1 hRl.2.2.1.2.1 hRl.2.2.1.2.2.1) (fun x1 M1 hM1 => ?_)
          refine zg_aload_n hC dL_law_306 rfl ?_
          refine zg_sload_n hC dL_law_307 rfl ?_
          refine zg_iload_n hC dL_law_308 rfl ?_
          refine zg_iconst hC dL_law_309 ?_
          refine zg_iadd hC dL_law_310 ?_
          refine zg_sald2 hC hX dL_law_311 (by omega) (by omega) ?_
          refine zg_sload_n hC dL_law_312 rfl ?_
          refine zg_iload_n hC dL_law_313 rfl ?_
          refine zg_iconst hC dL_law_314 ?_
          refine zg_iadd hC dL_law_315 ?_
          refine zg_sald2 hC hX dL_law_316 (by omega) (by omega) ?_
          refine zg_sload_n hC dL_law_317 rfl ?_
          refine zg_iload_n hC dL_law_318 rfl ?_
          refine zg_iconst hC dL_law_319 ?_
          refine zg_iadd hC dL_law_320 ?_
          refine zg_sald2 hC hX dL_law_321 (by omega) (by omega) ?_
          refine zg_sload_n hC dL_law_322 rfl ?_
          refine zg_iload_n hC dL_law_323 rfl ?_
          refine zg_iconst hC dL_law_324 ?_
          refine zg_iadd hC dL_law_325 ?_
          refine zg_sald2 hC hX dL_law_326 (by omega) (by omega) ?_
          have cf := cf_alter hRl hM1
          have h1 := rl_r hRl cf
          have hok1 := h1.1.2.ok h1.1.1
          have hs1 : 0 ≤ M1 3000 ∧ M1 3000 ≤ 12 := by rw [h1.2.2.1.1]; exact h1.2.2.1.2.1
          refine zg_ci4 hC lk_RL_43 dL_law_327 (ci := 6) rfl ob6 (m_alter (mB := 3100) rfl hok1 hs1) (fun x2 M2 hM2 => ?_)
          have hh := st_alter hRl hM1 hM2
          refine zg_icmp_eq hC 976 dL_law_330 (fun h330 => ?_) (fun h330 => ?_)
          · refine zg_iinc hC dL_law_976 rfl ?_
            refine zg_goto hC 18 dL_law_979 ?_
            exact ih (i + 5) M2 (by omega) (by omega) (by omega) hh.2
          · exact absurd hh.1 h330
        · refine zg_rw e32 ?_
          refine zg_tswIn hC 335 dL_law_32 (by decide) (by decide) rfl (by decide) ?_
          refine zg_aload_n hC dL_law_335 rfl ?_
          refine zg_sload_n hC dL_law_336 rfl ?_
          refine zg_iload_n hC dL_law_337 rfl ?_
          refine zg_iconst hC dL_law_338 ?_
          refine zg_iadd hC dL_law_339 ?_
          refine zg_sald2 hC hX dL_law_340 (by omega) (by omega) ?_
          refine zg_sload_n hC dL_law_341 rfl ?_
          refine zg_iload_n hC dL_law_342 rfl ?_
          refine zg_iconst hC dL_law_343 ?_
          refine zg_iadd hC dL_law_344 ?_
          refine zg_sald2 hC hX dL_law_345 (by omega) (by omega) ?_
          refine zg_sload_n hC dL_law_346 rfl ?_
          refine zg_iload_n hC dL_law_347 rfl ?_
          refine zg_iconst hC dL_law_348 ?_
          refine zg_iadd hC dL_law_349 ?_
          refine zg_sald2 hC hX dL_law_350 (by omega) (by omega) ?_
          refine zg_ci3 hC lk_RL_44 dL_law_351 (ci := 5) rfl ob5 (q_die (nB := 0) (tB := 149) rfl rfl hRl.1.1 hRl.2.2.1.2.1 hRl.2.2.1.2.2.1) (fun x1 M1 hM1 => ?_)
          refine zg_aload_n hC dL_law_354 rfl ?_
          refine zg_sload_n hC dL_law_355 rfl ?_
          refine zg_iload_n hC dL_law_356 rfl ?_
          refine zg_iconst hC dL_law_357 ?_
          refine zg_iadd hC dL_law_358 ?_
          refine zg_sald2 hC hX dL_law_359 (by omega) (by omega) ?_
          refine zg_sload_n hC dL_law_360 rfl ?_
          refine zg_iload_n hC dL_law_361 rfl ?_
          refine zg_iconst hC dL_law_362 ?_
          refine zg_iadd hC dL_law_363 ?_
          refine zg_sald2 hC hX dL_law_364 (by omega) (by omega) ?_
          refine zg_sload_n hC dL_law_365 rfl ?_
          refine zg_iload_n hC dL_law_366 rfl ?_
          refine zg_iconst hC dL_law_367 ?_
          refine zg_iadd hC dL_law_368 ?_
          refine zg_sald2 hC hX dL_law_369 (by omega) (by omega) ?_
          have cf := cf_die hRl hM1
          have h1 := rl_r hRl cf
          have hok1 := h1.1.2.ok h1.1.1
          have hs1 : 0 ≤ M1 3000 ∧ M1 3000 ≤ 12 := by rw [h1.2.2.1.1]; exact h1.2.2.1.2.1
          refine zg_ci3 hC lk_RL_48 dL_law_370 (ci := 6) rfl ob6 (m_die (mB := 3100) rfl hok1 hs1) (fun x2 M2 hM2 => ?_)
          have hh := st_die hRl hM1 hM2
          refine zg_icmp_eq hC 976 dL_law_373 (fun h373 => ?_) (fun h373 => ?_)
          · refine zg_iinc hC dL_law_976 rfl ?_
            refine zg_goto hC 18 dL_law_979 ?_
            exact ih (i + 5) M2 (by omega) (by omega) (by omega) hh.2
          · exact absurd hh.1 h373
        · refine zg_rw e32 ?_
          refine zg_tswIn hC 378 dL_law_32 (by decide) (by decide) rfl (by decide) ?_
          refine zg_aload_n hC dL_law_378 rfl ?_
          refine zg_sload_n hC dL_law_379 rfl ?_
          refine zg_iload_n hC dL_law_380 rfl ?_
          refine zg_iconst hC dL_law_381 ?_
          refine zg_iadd hC dL_law_382 ?_
          refine zg_sald2 hC hX dL_law_383 (by omega) (by omega) ?_
          refine zg_sload_n hC dL_law_384 rfl ?_
          refine zg_iload_n hC dL_law_385 rfl ?_
          refine zg_iconst hC dL_law_386 ?_
          refine zg_iadd hC dL_law_387 ?_
          refine zg_sald2 hC hX dL_law_388 (by omega) (by omega) ?_
          refine zg_sload_n hC dL_law_389 rfl ?_
          refine zg_iload_n hC dL_law_390 rfl ?_
          refine zg_iconst hC dL_law_391 ?_
          refine zg_iadd hC dL_law_392 ?_
          refine zg_sald2 hC hX dL_law_393 (by omega) (by omega) ?_
          refine zg_ci3 hC lk_RL_49 dL_law_394 (ci := 5) rfl ob5 (q_change (nB := 0) (tB := 149) rfl rfl hRl.1.1 hRl.2.2.1.2.1 hRl.2.2.1.2.2.1) (fun x1 M1 hM1 => ?_)
          refine zg_aload_n hC dL_law_397 rfl ?_
          refine zg_sload_n hC dL_law_398 rfl ?_
          refine zg_iload_n hC dL_law_399 rfl ?_
          refine zg_iconst hC dL_law_400 ?_
          refine zg_iadd hC dL_law_401 ?_
          refine zg_sald2 hC hX dL_law_402 (by omega) (by omega) ?_
          refine zg_sload_n hC dL_law_403 rfl ?_
          refine zg_iload_n hC dL_law_404 rfl ?_
          refine zg_iconst hC dL_law_405 ?_
          refine zg_iadd hC dL_law_406 ?_
          refine zg_sald2 hC hX dL_law_407 (by omega) (by omega) ?_
          refine zg_sload_n hC dL_law_408 rfl ?_
          refine zg_iload_n hC dL_law_409 rfl ?_
          refine zg_iconst hC dL_law_410 ?_
          refine zg_iadd hC dL_law_411 ?_
          refine zg_sald2 hC hX dL_law_412 (by omega) (by omega) ?_
          have cf := cf_change hRl hM1
          have h1 := rl_r hRl cf
          have hok1 := h1.1.2.ok h1.1.1
          have hs1 : 0 ≤ M1 3000 ∧ M1 3000 ≤ 12 := by rw [h1.2.2.1.1]; exact h1.2.2.1.2.1
          refine zg_ci3 hC lk_RL_52 dL_law_413 (ci := 6) rfl ob6 (m_change (mB := 3100) rfl hok1 hs1) (fun x2 M2 hM2 => ?_)
          have hh := st_change hRl hM1 hM2
          refine zg_icmp_eq hC 976 dL_law_416 (fun h416 => ?_) (fun h416 => ?_)
          · refine zg_iinc hC dL_law_976 rfl ?_
            refine zg_goto hC 18 dL_law_979 ?_
            exact ih (i + 5) M2 (by omega) (by omega) (by omega) hh.2
          · exact absurd hh.1 h416
        · refine zg_rw e32 ?_
          refine zg_tswIn hC 421 dL_law_32 (by decide) (by decide) rfl (by decide) ?_
          refine zg_aload_n hC dL_law_421 rfl ?_
          refine zg_sload_n hC dL_law_422 rfl ?_
          refine zg_iload_n hC dL_law_423 rfl ?_
          refine zg_iconst hC dL_law_424 ?_
          refine zg_iadd hC dL_law_425 ?_
          refine zg_sald2 hC hX dL_law_426 (by omega) (by omega) ?_
          refine zg_sload_n hC dL_law_427 rfl ?_
          refine zg_iload_n hC dL_law_428 rfl ?_
          refine zg_iconst hC dL_law_429 ?_
          refine zg_iadd hC dL_law_430 ?_
          refine zg_sald2 hC hX dL_law_431 (by omega) (by omega) ?_
          refine zg_sload_n hC dL_law_432 rfl ?_
          refine zg_iload_n hC dL_law_433 rfl ?_
          refine zg_iconst hC dL_law_434 ?_
          refine zg_iadd hC dL_law_435 ?_
          refine zg_sald2 hC hX dL_law_436 (by omega) (by omega) ?_
          refine zg_ci3 hC lk_RL_53 dL_law_437 (ci := 5) rfl ob5 (q_act (nB := 0) (tB := 149) rfl rfl hRl.1.1) (fun x1 M1 hM1 => ?_)
          refine zg_aload_n hC dL_law_440 rfl ?_
          refine zg_sload_n hC dL_law_441 rfl ?_
          refine zg_iload_n hC dL_law_442 rfl ?_
          refine zg_iconst hC dL_law_443 ?_
          refine zg_iadd hC dL_law_444 ?_
          refine zg_sald2 hC hX dL_law_445 (by omega) (by omega) ?_
          refine zg_sload_n hC dL_law_446 rfl ?_
          refine zg_iload_n hC dL_law_447 rfl ?_
          refine zg_iconst hC dL_law_448 ?_
          refine zg_iadd hC dL_law_449 ?_
          refine zg_sald2 hC hX dL_law_450 (by omega) (by omega) ?_
          refine zg_sload_n hC dL_law_451 rfl ?_
          refine zg_iload_n hC dL_law_452 rfl ?_
          refine zg_iconst hC dL_law_453 ?_
          refine zg_iadd hC dL_law_454 ?_
          refine zg_sald2 hC hX dL_law_455 (by omega) (by omega) ?_
          have cf : ∀ x, 3000 ≤ x → M1 x = M x := fun x _ => by rw [hM1.1]
          have h1 := rl_r hRl cf
          have hok1 := h1.1.2.ok h1.1.1
          have hs1 : 0 ≤ M1 3000 ∧ M1 3000 ≤ 12 := by rw [h1.2.2.1.1]; exact h1.2.2.1.2.1
          refine zg_ci3 hC lk_RL_56 dL_law_456 (ci := 6) rfl ob6 (m_act (mB := 3100) rfl hok1) (fun x2 M2 hM2 => ?_)
          have hh : x1 = x2 ∧ Rl M2 M2 := ⟨by rw [hM1.2, hM2.2]; exact (an_act h1.1.2 h1.1.1).symm, by rw [hM2.1, hM1.1]; exact hRl⟩
          refine zg_icmp_eq hC 976 dL_law_459 (fun h459 => ?_) (fun h459 => ?_)
          · refine zg_iinc hC dL_law_976 rfl ?_
            refine zg_goto hC 18 dL_law_979 ?_
            exact ih (i + 5) M2 (by omega) (by omega) (by omega) hh.2
          · exact absurd hh.1 h459
        · refine zg_rw e32 ?_
          refine zg_tswIn hC 464 dL_law_32 (by decide) (by decide) rfl (by decide) ?_
          refine zg_aload_n hC dL_law_464 rfl ?_
          refine zg_sload_n hC dL_law_465 rfl ?_
          refine zg_iload_n hC dL_law_466 rfl ?_
          refine zg_iconst hC dL_law_467 ?_
          refine zg_iadd hC dL_law_468 ?_
          refine zg_sald2 hC hX dL_law_469 (by omega) (by omega) ?_
          refine zg_sload_n hC dL_law_470 rfl ?_
          refine zg_iload_n hC dL_law_471 rfl ?_
          refine zg_iconst hC dL_law_472 ?_
          refine zg_iadd hC dL_law_473 ?_
          refine zg_sald2 hC hX dL_law_474 (by omega) (by omega) ?_
          refine zg_ci2 hC lk_RL_57 dL_law_475 (ci := 5) rfl ob5 (q_author (nB := 0) (tB := 149) rfl rfl hRl.1.1) (fun x1 M1 hM1 => ?_)
          refine zg_aload_n hC dL_law_478 rfl ?_
          refine zg_sload_n hC dL_law_479 rfl ?_
          refine zg_iload_n hC dL_law_480 rfl ?_
          refine zg_iconst hC dL_law_481 ?_
          refine zg_iadd hC dL_law_482 ?_
          refine zg_sald2 hC hX dL_law_483 (by omega) (by omega) ?_
          refine zg_sload_n hC dL_law_484 rfl ?_
          refine zg_iload_n hC dL_law_485 rfl ?_
          refine zg_iconst hC dL_law_486 ?_
          refine zg_iadd hC dL_law_487 ?_
          refine zg_sald2 hC hX dL_law_488 (by omega) (by omega) ?_
          have cf : ∀ x, 3000 ≤ x → M1 x = M x := fun x hx => hM1.2 x (by omega) (by omega)
          have h1 := rl_r hRl cf
          have hok1 := h1.1.2.ok h1.1.1
          have hs1 : 0 ≤ M1 3000 ∧ M1 3000 ≤ 12 := by rw [h1.2.2.1.1]; exact h1.2.2.1.2.1
          refine zg_ci2 hC lk_RL_61 dL_law_489 (ci := 6) rfl ob6 (m_author (mB := 3100) rfl hok1) (fun x2 M2 hM2 => ?_)
          have hh : x1 = x2 ∧ Rl M2 M2 := ⟨by rw [hM1.1, hM2.1]; exact (an_author h1.1.2 h1.1.1).symm, rl_q hRl hM1.2 (fun x hx => hM2.2 x (by omega))⟩
          refine zg_icmp_eq hC 976 dL_law_492 (fun h492 => ?_) (fun h492 => ?_)
          · refine zg_iinc hC dL_law_976 rfl ?_
            refine zg_goto hC 18 dL_law_979 ?_
            exact ih (i + 5) M2 (by omega) (by omega) (by omega) hh.2
          · exact absurd hh.1 h492
        · refine zg_rw e32 ?_
          refine zg_tswIn hC 497 dL_law_32 (by decide) (by decide) rfl (by decide) ?_
          refine zg_aload_n hC dL_law_497 rfl ?_
          refine zg_sload_n hC dL_law_498 rfl ?_
          refine zg_iload_n hC dL_law_499 rfl ?_
          refine zg_iconst hC dL_law_500 ?_
          refine zg_iadd hC dL_law_501 ?_
          refine zg_sald2 hC hX dL_law_502 (by omega) (by omega) ?_
          refine zg_sload_n hC dL_law_503 rfl ?_
          refine zg_iload_n hC dL_law_504 rfl ?_
          refine zg_iconst hC dL_law_505 ?_
          refine zg_iadd hC dL_law_506 ?_
          refine zg_sald2 hC hX dL_law_507 (by omega) (by omega) ?_
          refine zg_ci2 hC lk_RL_62 dL_law_508 (ci := 5) rfl ob5 (q_work (nB := 0) (tB := 149) rfl rfl hRl.1.1) (fun x1 M1 hM1 => ?_)
          refine zg_aload_n hC dL_law_511 rfl ?_
          refine zg_sload_n hC dL_law_512 rfl ?_
          refine zg_iload_n hC dL_law_513 rfl ?_
          refine zg_iconst hC dL_law_514 ?_
          refine zg_iadd hC dL_law_515 ?_
          refine zg_sald2 hC hX dL_law_516 (by omega) (by omega) ?_
          refine zg_sload_n hC dL_law_517 rfl ?_
          refine zg_iload_n hC dL_law_518 rfl ?_
          refine zg_iconst hC dL_law_519 ?_
          refine zg_iadd hC dL_law_520 ?_
          refine zg_sald2 hC hX dL_law_521 (by omega) (by omega) ?_
          have cf : ∀ x, 3000 ≤ x → M1 x = M x := fun x _ => by rw [hM1.1]
          have h1 := rl_r hRl cf
          have hok1 := h1.1.2.ok h1.1.1
          have hs1 : 0 ≤ M1 3000 ∧ M1 3000 ≤ 12 := by rw [h1.2.2.1.1]; exact h1.2.2.1.2.1
          refine zg_ci2 hC lk_RL_65 dL_law_522 (ci := 6) rfl ob6 (m_work (mB := 3100) rfl hok1) (fun x2 M2 hM2 => ?_)
          have hh : x1 = x2 ∧ Rl M2 M2 := ⟨by rw [hM1.2, hM2.2]; exact (an_work h1.1.2 h1.1.1).symm, by rw [hM2.1, hM1.1]; exact hRl⟩
          refine zg_icmp_eq hC 976 dL_law_525 (fun h525 => ?_) (fun h525 => ?_)
          · refine zg_iinc hC dL_law_976 rfl ?_
            refine zg_goto hC 18 dL_law_979 ?_
            exact ih (i + 5) M2 (by omega) (by omega) (by omega) hh.2
          · exact absurd hh.1 h525
        · refine zg_rw e32 ?_
          refine zg_tswIn hC 530 dL_law_32 (by decide) (by decide) rfl (by decide) ?_
          refine zg_aload_n hC dL_law_530 rfl ?_
          refine zg_sload_n hC dL_law_531 rfl ?_
          refine zg_iload_n hC dL_law_532 rfl ?_
          refine zg_iconst hC dL_law_533 ?_
          refine zg_iadd hC dL_law_534 ?_
          refine zg_sald2 hC hX dL_law_535 (by omega) (by omega) ?_
          refine zg_sload_n hC dL_law_536 rfl ?_
          refine zg_iload_n hC dL_law_537 rfl ?_
          refine zg_iconst hC dL_law_538 ?_
          refine zg_iadd hC dL_law_539 ?_
          refine zg_sald2 hC hX dL_law_540 (by omega) (by omega) ?_
          refine zg_ci2 hC lk_RL_66 dL_law_541 (ci := 5) rfl ob5 (q_as (nB := 0) (tB := 149) rfl rfl hRl.1.1) (fun x1 M1 hM1 => ?_)
          refine zg_aload_n hC dL_law_544 rfl ?_
          refine zg_sload_n hC dL_law_545 rfl ?_
          refine zg_iload_n hC dL_law_546 rfl ?_
          refine zg_iconst hC dL_law_547 ?_
          refine zg_iadd hC dL_law_548 ?_
          refine zg_sald2 hC hX dL_law_549 (by omega) (by omega) ?_
          refine zg_sload_n hC dL_law_550 rfl ?_
          refine zg_iload_n hC dL_law_551 rfl ?_
          refine zg_iconst hC dL_law_552 ?_
          refine zg_iadd hC dL_law_553 ?_
          refine zg_sald2 hC hX dL_law_554 (by omega) (by omega) ?_
          have cf : ∀ x, 3000 ≤ x → M1 x = M x := fun x _ => by rw [hM1.1]
          have h1 := rl_r hRl cf
          have hok1 := h1.1.2.ok h1.1.1
          have hs1 : 0 ≤ M1 3000 ∧ M1 3000 ≤ 12 := by rw [h1.2.2.1.1]; exact h1.2.2.1.2.1
          refine zg_ci2 hC lk_RL_69 dL_law_555 (ci := 6) rfl ob6 (m_as (mB := 3100) rfl hok1) (fun x2 M2 hM2 => ?_)
          have hh : x1 = x2 ∧ Rl M2 M2 := ⟨by rw [hM1.2, hM2.2]; exact (an_as h1.1.2 h1.1.1).symm, by rw [hM2.1, hM1.1]; exact hRl⟩
          refine zg_icmp_eq hC 976 dL_law_558 (fun h558 => ?_) (fun h558 => ?_)
          · refine zg_iinc hC dL_law_976 rfl ?_
            refine zg_goto hC 18 dL_law_979 ?_
            exact ih (i + 5) M2 (by omega) (by omega) (by omega) hh.2
          · exact absurd hh.1 h558
        · refine zg_rw e32 ?_
          refine zg_tswIn hC 563 dL_law_32 (by decide) (by decide) rfl (by decide) ?_
          refine zg_aload_n hC dL_law_563 rfl ?_
          refine zg_sload_n hC dL_law_564 rfl ?_
          refine zg_iload_n hC dL_law_565 rfl ?_
          refine zg_iconst hC dL_law_566 ?_
          refine zg_iadd hC dL_law_567 ?_
          refine zg_sald2 hC hX dL_law_568 (by omega) (by omega) ?_
          refine zg_sload_n hC dL_law_569 rfl ?_
          refine zg_iload_n hC dL_law_570 rfl ?_
          refine zg_iconst hC dL_law_571 ?_
          refine zg_iadd hC dL_law_572 ?_
          refine zg_sald2 hC hX dL_law_573 (by omega) (by omega) ?_
          refine zg_ci2 hC lk_RL_70 dL_law_574 (ci := 5) rfl ob5 (q_inForce (nB := 0) (tB := 149) rfl rfl hRl.1.1) (fun x1 M1 hM1 => ?_)
          refine zg_aload_n hC dL_law_577 rfl ?_
          refine zg_sload_n hC dL_law_578 rfl ?_
          refine zg_iload_n hC dL_law_579 rfl ?_
          refine zg_iconst hC dL_law_580 ?_
          refine zg_iadd hC dL_law_581 ?_
          refine zg_sald2 hC hX dL_law_582 (by omega) (by omega) ?_
          refine zg_sload_n hC dL_law_583 rfl ?_
          refine zg_iload_n hC dL_law_584 rfl ?_
          refine zg_iconst hC dL_law_585 ?_
          refine zg_iadd hC dL_law_586 ?_
          refine zg_sald2 hC hX dL_law_587 (by omega) (by omega) ?_
          have cf : ∀ x, 3000 ≤ x → M1 x = M x := fun x _ => by rw [hM1.1]
          have h1 := rl_r hRl cf
          have hok1 := h1.1.2.ok h1.1.1
          have hs1 : 0 ≤ M1 3000 ∧ M1 3000 ≤ 12 := by rw [h1.2.2.1.1]; exact h1.2.2.1.2.1
          refine zg_ci2 hC lk_RL_73 dL_law_588 (ci := 6) rfl ob6 (m_inForce (mB := 3100) rfl hok1) (fun x2 M2 hM2 => ?_)
          have hh : x1 = x2 ∧ Rl M2 M2 := ⟨by rw [hM1.2, hM2.2]; exact (an_inForce h1.1.2 h1.1.1).symm, by rw [hM2.1, hM1.1]; exact hRl⟩
          refine zg_icmp_eq hC 976 dL_law_591 (fun h591 => ?_) (fun h591 => ?_)
          · refine zg_iinc hC dL_law_976 rfl ?_
            refine zg_goto hC 18 dL_law_979 ?_
            exact ih (i + 5) M2 (by omega) (by omega) (by omega) hh.2
          · exact absurd hh.1 h591
        · refine zg_rw e32 ?_
          refine zg_tswIn hC 596 dL_law_32 (by decide) (by decide) rfl (by decide) ?_
          refine zg_aload_n hC dL_law_596 rfl ?_
          refine zg_sload_n hC dL_law_597 rfl ?_
          refine zg_iload_n hC dL_law_598 rfl ?_
          refine zg_iconst hC dL_law_599 ?_
          refine zg_iadd hC dL_law_600 ?_
          refine zg_sald2 hC hX dL_law_601 (by omega) (by omega) ?_
          refine zg_sload_n hC dL_law_602 rfl ?_
          refine zg_iload_n hC dL_law_603 rfl ?_
          refine zg_iconst hC dL_law_604 ?_
          refine zg_iadd hC dL_law_605 ?_
          refine zg_sald2 hC hX dL_law_606 (by omega) (by omega) ?_
          refine zg_sload_n hC dL_law_607 rfl ?_
          refine zg_iload_n hC dL_law_608 rfl ?_
          refine zg_iconst hC dL_law_609 ?_
          refine zg_iadd hC dL_law_610 ?_
          refine zg_sald2 hC hX dL_law_611 (by omega) (by omega) ?_
          refine zg_sload_n hC dL_law_612 rfl ?_
          refine zg_iload_n hC dL_law_613 rfl ?_
          refine zg_iconst hC dL_law_614 ?_
          refine zg_iadd hC dL_law_615 ?_
          refine zg_sald2 hC hX dL_law_616 (by omega) (by omega) ?_
          refine zg_ci4 hC lk_RL_74 dL_law_617 (ci := 5) rfl ob5 (q_term (nB := 0) (tB := 149) rfl rfl hRl.1.1) (fun x1 M1 hM1 => ?_)
          refine zg_aload_n hC dL_law_620 rfl ?_
          refine zg_sload_n hC dL_law_621 rfl ?_
          refine zg_iload_n hC dL_law_622 rfl ?_
          refine zg_iconst hC dL_law_623 ?_
          refine zg_iadd hC dL_law_624 ?_
          refine zg_sald2 hC hX dL_law_625 (by omega) (by omega) ?_
          refine zg_sload_n hC dL_law_626 rfl ?_
          refine zg_iload_n hC dL_law_627 rfl ?_
          refine zg_iconst hC dL_law_628 ?_
          refine zg_iadd hC dL_law_629 ?_
          refine zg_sald2 hC hX dL_law_630 (by omega) (by omega) ?_
          refine zg_sload_n hC dL_law_631 rfl ?_
          refine zg_iload_n hC dL_law_632 rfl ?_
          refine zg_iconst hC dL_law_633 ?_
          refine zg_iadd hC dL_law_634 ?_
          refine zg_sald2 hC hX dL_law_635 (by omega) (by omega) ?_
          refine zg_sload_n hC dL_law_636 rfl ?_
          refine zg_iload_n hC dL_law_637 rfl ?_
          refine zg_iconst hC dL_law_638 ?_
          refine zg_iadd hC dL_law_639 ?_
          refine zg_sald2 hC hX dL_law_640 (by omega) (by omega) ?_
          have cf : ∀ x, 3000 ≤ x → M1 x = M x := fun x hx => hM1.2 x (by omega) (by omega)
          have h1 := rl_r hRl cf
          have hok1 := h1.1.2.ok h1.1.1
          have hs1 : 0 ≤ M1 3000 ∧ M1 3000 ≤ 12 := by rw [h1.2.2.1.1]; exact h1.2.2.1.2.1
          refine zg_ci4 hC lk_RL_77 dL_law_641 (ci := 6) rfl ob6 (m_term (mB := 3100) rfl hok1) (fun x2 M2 hM2 => ?_)
          have hh : x1 = x2 ∧ Rl M2 M2 := ⟨by rw [hM1.1, hM2.2]; exact (an_term h1.1.2 h1.1.1).symm, rl_q hRl hM1.2 (fun x hx => by rw [hM2.1])⟩
          refine zg_icmp_eq hC 976 dL_law_644 (fun h644 => ?_) (fun h644 => ?_)
          · refine zg_iinc hC dL_law_976 rfl ?_
            refine zg_goto hC 18 dL_law_979 ?_
            exact ih (i + 5) M2 (by omega) (by omega) (by omega) hh.2
          · exact absurd hh.1 h644
        · refine zg_rw e32 ?_
          refine zg_tswIn hC 649 dL_law_32 (by decide) (by decide) rfl (by decide) ?_
          refine zg_aload_n hC dL_law_649 rfl ?_
          refine zg_sload_n hC dL_law_650 rfl ?_
          refine zg_iload_n hC dL_law_651 rfl ?_
          refine zg_iconst hC dL_law_652 ?_
          refine zg_iadd hC dL_law_653 ?_
          refine zg_sald2 hC hX dL_law_654 (by omega) (by omega) ?_
          refine zg_sload_n hC dL_law_655 rfl ?_
          refine zg_iload_n hC dL_law_656 rfl ?_
          refine zg_iconst hC dL_law_657 ?_
          refine zg_iadd hC dL_law_658 ?_
          refine zg_sald2 hC hX dL_law_659 (by omega) (by omega) ?_
          refine zg_sload_n hC dL_law_660 rfl ?_
          refine zg_iload_n hC dL_law_661 rfl ?_
          refine zg_iconst hC dL_law_662 ?_
          refine zg_iadd hC dL_law_663 ?_
          refine zg_sald2 hC hX dL_law_664 (by omega) (by omega) ?_
          refine zg_ci3 hC lk_RL_78 dL_law_665 (ci := 5) rfl ob5 (q_free (nB := 0) (tB := 149) rfl rfl hRl.1.1) (fun x1 M1 hM1 => ?_)
          refine zg_aload_n hC dL_law_668 rfl ?_
          refine zg_sload_n hC dL_law_669 rfl ?_
          refine zg_iload_n hC dL_law_670 rfl ?_
          refine zg_iconst hC dL_law_671 ?_
          refine zg_iadd hC dL_law_672 ?_
          refine zg_sald2 hC hX dL_law_673 (by omega) (by omega) ?_
          refine zg_sload_n hC dL_law_674 rfl ?_
          refine zg_iload_n hC dL_law_675 rfl ?_
          refine zg_iconst hC dL_law_676 ?_
          refine zg_iadd hC dL_law_677 ?_
          refine zg_sald2 hC hX dL_law_678 (by omega) (by omega) ?_
          refine zg_sload_n hC dL_law_679 rfl ?_
          refine zg_iload_n hC dL_law_680 rfl ?_
          refine zg_iconst hC dL_law_681 ?_
          refine zg_iadd hC dL_law_682 ?_
          refine zg_sald2 hC hX dL_law_683 (by omega) (by omega) ?_
          have cf : ∀ x, 3000 ≤ x → M1 x = M x := fun x hx => hM1.2 x (by omega) (by omega)
          have h1 := rl_r hRl cf
          have hok1 := h1.1.2.ok h1.1.1
          have hs1 : 0 ≤ M1 3000 ∧ M1 3000 ≤ 12 := by rw [h1.2.2.1.1]; exact h1.2.2.1.2.1
          refine zg_ci3 hC lk_RL_81 dL_law_684 (ci := 6) rfl ob6 (m_free (mB := 3100) rfl hok1) (fun x2 M2 hM2 => ?_)
          have hh : x1 = x2 ∧ Rl M2 M2 := ⟨by rw [hM1.1, hM2.1]; exact (an_free h1.1.2 h1.1.1).symm, rl_q hRl hM1.2 (fun x hx => hM2.2 x (by omega))⟩
          refine zg_icmp_eq hC 976 dL_law_687 (fun h687 => ?_) (fun h687 => ?_)
          · refine zg_iinc hC dL_law_976 rfl ?_
            refine zg_goto hC 18 dL_law_979 ?_
            exact ih (i + 5) M2 (by omega) (by omega) (by omega) hh.2
          · exact absurd hh.1 h687
        · refine zg_rw e32 ?_
          refine zg_tswIn hC 692 dL_law_32 (by decide) (by decide) rfl (by decide) ?_
          refine zg_aload_n hC dL_law_692 rfl ?_
          refine zg_sload_n hC dL_law_693 rfl ?_
          refine zg_iload_n hC dL_law_694 rfl ?_
          refine zg_iconst hC dL_law_695 ?_
          refine zg_iadd hC dL_law_696 ?_
          refine zg_sald2 hC hX dL_law_697 (by omega) (by omega) ?_
          refine zg_sload_n hC dL_law_698 rfl ?_
          refine zg_iload_n hC dL_law_699 rfl ?_
          refine zg_iconst hC dL_law_700 ?_
          refine zg_iadd hC dL_law_701 ?_
          refine zg_sald2 hC hX dL_law_702 (by omega) (by omega) ?_
          refine zg_sload_n hC dL_law_703 rfl ?_
          refine zg_iload_n hC dL_law_704 rfl ?_
          refine zg_iconst hC dL_law_705 ?_
          refine zg_iadd hC dL_law_706 ?_
          refine zg_sald2 hC hX dL_law_707 (by omega) (by omega) ?_
          refine zg_ci3 hC lk_RL_82 dL_law_708 (ci := 5) rfl ob5 (q_isProtected (nB := 0) (tB := 149) rfl rfl hRl.1.1) (fun x1 M1 hM1 => ?_)
          refine zg_aload_n hC dL_law_711 rfl ?_
          refine zg_sload_n hC dL_law_712 rfl ?_
          refine zg_iload_n hC dL_law_713 rfl ?_
          refine zg_iconst hC dL_law_714 ?_
          refine zg_iadd hC dL_law_715 ?_
          refine zg_sald2 hC hX dL_law_716 (by omega) (by omega) ?_
          refine zg_sload_n hC dL_law_717 rfl ?_
          refine zg_iload_n hC dL_law_718 rfl ?_
          refine zg_iconst hC dL_law_719 ?_
          refine zg_iadd hC dL_law_720 ?_
          refine zg_sald2 hC hX dL_law_721 (by omega) (by omega) ?_
          refine zg_sload_n hC dL_law_722 rfl ?_
          refine zg_iload_n hC dL_law_723 rfl ?_
          refine zg_iconst hC dL_law_724 ?_
          refine zg_iadd hC dL_law_725 ?_
          refine zg_sald2 hC hX dL_law_726 (by omega) (by omega) ?_
          have cf : ∀ x, 3000 ≤ x → M1 x = M x := fun x hx => hM1.2 x (by omega) (by omega)
          have h1 := rl_r hRl cf
          have hok1 := h1.1.2.ok h1.1.1
          have hs1 : 0 ≤ M1 3000 ∧ M1 3000 ≤ 12 := by rw [h1.2.2.1.1]; exact h1.2.2.1.2.1
          refine zg_ci3 hC lk_RL_85 dL_law_727 (ci := 6) rfl ob6 (m_isProtected (mB := 3100) rfl hok1) (fun x2 M2 hM2 => ?_)
          have hh : x1 = x2 ∧ Rl M2 M2 := ⟨by rw [hM1.1, hM2.1]; exact (an_isProtected h1.1.2 h1.1.1).symm, rl_q hRl hM1.2 (fun x hx => hM2.2 x (by omega))⟩
          refine zg_icmp_eq hC 976 dL_law_730 (fun h730 => ?_) (fun h730 => ?_)
          · refine zg_iinc hC dL_law_976 rfl ?_
            refine zg_goto hC 18 dL_law_979 ?_
            exact ih (i + 5) M2 (by omega) (by omega) (by omega) hh.2
          · exact absurd hh.1 h730
        · refine zg_rw e32 ?_
          refine zg_tswIn hC 735 dL_law_32 (by decide) (by decide) rfl (by decide) ?_
          refine zg_aload_n hC dL_law_735 rfl ?_
          refine zg_sload_n hC dL_law_736 rfl ?_
          refine zg_iload_n hC dL_law_737 rfl ?_
          refine zg_iconst hC dL_law_738 ?_
          refine zg_iadd hC dL_law_739 ?_
          refine zg_sald2 hC hX dL_law_740 (by omega) (by omega) ?_
          refine zg_sload_n hC dL_law_741 rfl ?_
          refine zg_iload_n hC dL_law_742 rfl ?_
          refine zg_iconst hC dL_law_743 ?_
          refine zg_iadd hC dL_law_744 ?_
          refine zg_sald2 hC hX dL_law_745 (by omega) (by omega) ?_
          refine zg_sload_n hC dL_law_746 rfl ?_
          refine zg_iload_n hC dL_law_747 rfl ?_
          refine zg_iconst hC dL_law_748 ?_
          refine zg_iadd hC dL_law_749 ?_
          refine zg_sald2 hC hX dL_law_750 (by omega) (by omega) ?_
          refine zg_sload_n hC dL_law_751 rfl ?_
          refine zg_iload_n hC dL_law_752 rfl ?_
          refine zg_iconst hC dL_law_753 ?_
          refine zg_iadd hC dL_law_754 ?_
          refine zg_sald2 hC hX dL_law_755 (by omega) (by omega) ?_
          refine zg_ci4 hC lk_RL_86 dL_law_756 (ci := 5) rfl ob5 (q_span (nB := 0) (tB := 149) rfl rfl hRl.1.1) (fun x1 M1 hM1 => ?_)
          refine zg_aload_n hC dL_law_759 rfl ?_
          refine zg_sload_n hC dL_law_760 rfl ?_
          refine zg_iload_n hC dL_law_761 rfl ?_
          refine zg_iconst hC dL_law_762 ?_
          refine zg_iadd hC dL_law_763 ?_
          refine zg_sald2 hC hX dL_law_764 (by omega) (by omega) ?_
          refine zg_sload_n hC dL_law_765 rfl ?_
          refine zg_iload_n hC dL_law_766 rfl ?_
          refine zg_iconst hC dL_law_767 ?_
          refine zg_iadd hC dL_law_768 ?_
          refine zg_sald2 hC hX dL_law_769 (by omega) (by omega) ?_
          refine zg_sload_n hC dL_law_770 rfl ?_
          refine zg_iload_n hC dL_law_771 rfl ?_
          refine zg_iconst hC dL_law_772 ?_
          refine zg_iadd hC dL_law_773 ?_
          refine zg_sald2 hC hX dL_law_774 (by omega) (by omega) ?_
          refine zg_sload_n hC dL_law_775 rfl ?_
          refine zg_iload_n hC dL_law_776 rfl ?_
          refine zg_iconst hC dL_law_777 ?_
          refine zg_iadd hC dL_law_778 ?_
          refine zg_sald2 hC hX dL_law_779 (by omega) (by omega) ?_
          have cf : ∀ x, 3000 ≤ x → M1 x = M x := fun x hx => hM1.2 x (by omega) (by omega)
          have h1 := rl_r hRl cf
          have hok1 := h1.1.2.ok h1.1.1
          have hs1 : 0 ≤ M1 3000 ∧ M1 3000 ≤ 12 := by rw [h1.2.2.1.1]; exact h1.2.2.1.2.1
          refine zg_ci4 hC lk_RL_89 dL_law_780 (ci := 6) rfl ob6 (m_span (mB := 3100) rfl hok1) (fun x2 M2 hM2 => ?_)
          have hh : x1 = x2 ∧ Rl M2 M2 := ⟨by rw [hM1.1, hM2.1]; exact (an_span h1.1.2 h1.1.1).symm, rl_q hRl hM1.2 (fun x hx => hM2.2 x (by omega))⟩
          refine zg_icmp_eq hC 976 dL_law_783 (fun h783 => ?_) (fun h783 => ?_)
          · refine zg_iinc hC dL_law_976 rfl ?_
            refine zg_goto hC 18 dL_law_979 ?_
            exact ih (i + 5) M2 (by omega) (by omega) (by omega) hh.2
          · exact absurd hh.1 h783
        · refine zg_rw e32 ?_
          refine zg_tswIn hC 788 dL_law_32 (by decide) (by decide) rfl (by decide) ?_
          refine zg_aload_n hC dL_law_788 rfl ?_
          refine zg_sload_n hC dL_law_789 rfl ?_
          refine zg_iload_n hC dL_law_790 rfl ?_
          refine zg_iconst hC dL_law_791 ?_
          refine zg_iadd hC dL_law_792 ?_
          refine zg_sald2 hC hX dL_law_793 (by omega) (by omega) ?_
          refine zg_sload_n hC dL_law_794 rfl ?_
          refine zg_iload_n hC dL_law_795 rfl ?_
          refine zg_iconst hC dL_law_796 ?_
          refine zg_iadd hC dL_law_797 ?_
          refine zg_sald2 hC hX dL_law_798 (by omega) (by omega) ?_
          refine zg_ci2 hC lk_RL_90 dL_law_799 (ci := 5) rfl ob5 (q_everywhere (nB := 0) (tB := 149) rfl rfl hRl.1.1) (fun x1 M1 hM1 => ?_)
          refine zg_aload_n hC dL_law_802 rfl ?_
          refine zg_sload_n hC dL_law_803 rfl ?_
          refine zg_iload_n hC dL_law_804 rfl ?_
          refine zg_iconst hC dL_law_805 ?_
          refine zg_iadd hC dL_law_806 ?_
          refine zg_sald2 hC hX dL_law_807 (by omega) (by omega) ?_
          refine zg_sload_n hC dL_law_808 rfl ?_
          refine zg_iload_n hC dL_law_809 rfl ?_
          refine zg_iconst hC dL_law_810 ?_
          refine zg_iadd hC dL_law_811 ?_
          refine zg_sald2 hC hX dL_law_812 (by omega) (by omega) ?_
          have cf : ∀ x, 3000 ≤ x → M1 x = M x := fun x hx => hM1.2 x (by omega) (by omega)
          have h1 := rl_r hRl cf
          have hok1 := h1.1.2.ok h1.1.1
          have hs1 : 0 ≤ M1 3000 ∧ M1 3000 ≤ 12 := by rw [h1.2.2.1.1]; exact h1.2.2.1.2.1
          refine zg_ci2 hC lk_RL_93 dL_law_813 (ci := 6) rfl ob6 (m_everywhere (mB := 3100) rfl hok1) (fun x2 M2 hM2 => ?_)
          have hh : x1 = x2 ∧ Rl M2 M2 := ⟨by rw [hM1.1, hM2.1]; exact (an_everywhere h1.1.2 h1.1.1).symm, rl_q hRl hM1.2 (fun x hx => hM2.2 x (by omega))⟩
          refine zg_icmp_eq hC 976 dL_law_816 (fun h816 => ?_) (fun h816 => ?_)
          · refine zg_iinc hC dL_law_976 rfl ?_
            refine zg_goto hC 18 dL_law_979 ?_
            exact ih (i + 5) M2 (by omega) (by omega) (by omega) hh.2
          · exact absurd hh.1 h816
        · refine zg_rw e32 ?_
          refine zg_tswIn hC 821 dL_law_32 (by decide) (by decide) rfl (by decide) ?_
          refine zg_aload_n hC dL_law_821 rfl ?_
          refine zg_sload_n hC dL_law_822 rfl ?_
          refine zg_iload_n hC dL_law_823 rfl ?_
          refine zg_iconst hC dL_law_824 ?_
          refine zg_iadd hC dL_law_825 ?_
          refine zg_sald2 hC hX dL_law_826 (by omega) (by omega) ?_
          refine zg_sload_n hC dL_law_827 rfl ?_
          refine zg_iload_n hC dL_law_828 rfl ?_
          refine zg_iconst hC dL_law_829 ?_
          refine zg_iadd hC dL_law_830 ?_
          refine zg_sald2 hC hX dL_law_831 (by omega) (by omega) ?_
          refine zg_sload_n hC dL_law_832 rfl ?_
          refine zg_iload_n hC dL_law_833 rfl ?_
          refine zg_iconst hC dL_law_834 ?_
          refine zg_iadd hC dL_law_835 ?_
          refine zg_sald2 hC hX dL_law_836 (by omega) (by omega) ?_
          refine zg_ci3 hC lk_RL_94 dL_law_837 (ci := 5) rfl ob5 (q_next (nB := 0) (tB := 149) rfl rfl hRl.1.1) (fun x1 M1 hM1 => ?_)
          refine zg_aload_n hC dL_law_840 rfl ?_
          refine zg_sload_n hC dL_law_841 rfl ?_
          refine zg_iload_n hC dL_law_842 rfl ?_
          refine zg_iconst hC dL_law_843 ?_
          refine zg_iadd hC dL_law_844 ?_
          refine zg_sald2 hC hX dL_law_845 (by omega) (by omega) ?_
          refine zg_sload_n hC dL_law_846 rfl ?_
          refine zg_iload_n hC dL_law_847 rfl ?_
          refine zg_iconst hC dL_law_848 ?_
          refine zg_iadd hC dL_law_849 ?_
          refine zg_sald2 hC hX dL_law_850 (by omega) (by omega) ?_
          refine zg_sload_n hC dL_law_851 rfl ?_
          refine zg_iload_n hC dL_law_852 rfl ?_
          refine zg_iconst hC dL_law_853 ?_
          refine zg_iadd hC dL_law_854 ?_
          refine zg_sald2 hC hX dL_law_855 (by omega) (by omega) ?_
          have cf : ∀ x, 3000 ≤ x → M1 x = M x := fun x hx => hM1.2 x (by omega) (by omega)
          have h1 := rl_r hRl cf
          have hok1 := h1.1.2.ok h1.1.1
          have hs1 : 0 ≤ M1 3000 ∧ M1 3000 ≤ 12 := by rw [h1.2.2.1.1]; exact h1.2.2.1.2.1
          refine zg_ci3 hC lk_RL_97 dL_law_856 (ci := 6) rfl ob6 (m_next (mB := 3100) rfl hok1) (fun x2 M2 hM2 => ?_)
          have hh : x1 = x2 ∧ Rl M2 M2 := ⟨by rw [hM1.1, hM2.1]; exact (an_next h1.1.2 h1.1.1).symm, rl_q hRl hM1.2 (fun x hx => hM2.2 x (by omega))⟩
          refine zg_icmp_eq hC 976 dL_law_859 (fun h859 => ?_) (fun h859 => ?_)
          · refine zg_iinc hC dL_law_976 rfl ?_
            refine zg_goto hC 18 dL_law_979 ?_
            exact ih (i + 5) M2 (by omega) (by omega) (by omega) hh.2
          · exact absurd hh.1 h859
        · refine zg_rw e32 ?_
          refine zg_tswIn hC 864 dL_law_32 (by decide) (by decide) rfl (by decide) ?_
          refine zg_aload_n hC dL_law_864 rfl ?_
          refine zg_sload_n hC dL_law_865 rfl ?_
          refine zg_iload_n hC dL_law_866 rfl ?_
          refine zg_iconst hC dL_law_867 ?_
          refine zg_iadd hC dL_law_868 ?_
          refine zg_sald2 hC hX dL_law_869 (by omega) (by omega) ?_
          refine zg_sload_n hC dL_law_870 rfl ?_
          refine zg_iload_n hC dL_law_871 rfl ?_
          refine zg_iconst hC dL_law_872 ?_
          refine zg_iadd hC dL_law_873 ?_
          refine zg_sald2 hC hX dL_law_874 (by omega) (by omega) ?_
          refine zg_sload_n hC dL_law_875 rfl ?_
          refine zg_iload_n hC dL_law_876 rfl ?_
          refine zg_iconst hC dL_law_877 ?_
          refine zg_iadd hC dL_law_878 ?_
          refine zg_sald2 hC hX dL_law_879 (by omega) (by omega) ?_
          refine zg_ci3 hC lk_RL_98 dL_law_880 (ci := 5) rfl ob5 (q_longer (nB := 0) (tB := 149) rfl rfl hRl.1.1) (fun x1 M1 hM1 => ?_)
          refine zg_aload_n hC dL_law_883 rfl ?_
          refine zg_sload_n hC dL_law_884 rfl ?_
          refine zg_iload_n hC dL_law_885 rfl ?_
          refine zg_iconst hC dL_law_886 ?_
          refine zg_iadd hC dL_law_887 ?_
          refine zg_sald2 hC hX dL_law_888 (by omega) (by omega) ?_
          refine zg_sload_n hC dL_law_889 rfl ?_
          refine zg_iload_n hC dL_law_890 rfl ?_
          refine zg_iconst hC dL_law_891 ?_
          refine zg_iadd hC dL_law_892 ?_
          refine zg_sald2 hC hX dL_law_893 (by omega) (by omega) ?_
          refine zg_sload_n hC dL_law_894 rfl ?_
          refine zg_iload_n hC dL_law_895 rfl ?_
          refine zg_iconst hC dL_law_896 ?_
          refine zg_iadd hC dL_law_897 ?_
          refine zg_sald2 hC hX dL_law_898 (by omega) (by omega) ?_
          have cf : ∀ x, 3000 ≤ x → M1 x = M x := fun x hx => hM1.2 x (by omega) (by omega)
          have h1 := rl_r hRl cf
          have hok1 := h1.1.2.ok h1.1.1
          have hs1 : 0 ≤ M1 3000 ∧ M1 3000 ≤ 12 := by rw [h1.2.2.1.1]; exact h1.2.2.1.2.1
          refine zg_ci3 hC lk_RL_101 dL_law_899 (ci := 6) rfl ob6 (m_longer (mB := 3100) rfl hok1) (fun x2 M2 hM2 => ?_)
          have hh : x1 = x2 ∧ Rl M2 M2 := ⟨by rw [hM1.1, hM2.1]; exact (an_longer h1.1.2 h1.1.1).symm, rl_q hRl hM1.2 (fun x hx => hM2.2 x (by omega))⟩
          refine zg_icmp_eq hC 976 dL_law_902 (fun h902 => ?_) (fun h902 => ?_)
          · refine zg_iinc hC dL_law_976 rfl ?_
            refine zg_goto hC 18 dL_law_979 ?_
            exact ih (i + 5) M2 (by omega) (by omega) (by omega) hh.2
          · exact absurd hh.1 h902
        · refine zg_rw e32 ?_
          refine zg_tswIn hC 907 dL_law_32 (by decide) (by decide) rfl (by decide) ?_
          refine zg_aload_n hC dL_law_907 rfl ?_
          refine zg_sload_n hC dL_law_908 rfl ?_
          refine zg_iload_n hC dL_law_909 rfl ?_
          refine zg_iconst hC dL_law_910 ?_
          refine zg_iadd hC dL_law_911 ?_
          refine zg_sald2 hC hX dL_law_912 (by omega) (by omega) ?_
          refine zg_ci1 hC lk_RL_102 dL_law_913 (ci := 5) rfl ob5 (q_image (nB := 0) (tB := 149) rfl rfl hRl.1.1) (fun x1 M1 hM1 => ?_)
          refine zg_aload_n hC dL_law_916 rfl ?_
          refine zg_sload_n hC dL_law_917 rfl ?_
          refine zg_iload_n hC dL_law_918 rfl ?_
          refine zg_iconst hC dL_law_919 ?_
          refine zg_iadd hC dL_law_920 ?_
          refine zg_sald2 hC hX dL_law_921 (by omega) (by omega) ?_
          have cf := cf_image hRl hM1
          have h1 := rl_r hRl cf
          have hok1 := h1.1.2.ok h1.1.1
          have hs1 : 0 ≤ M1 3000 ∧ M1 3000 ≤ 12 := by rw [h1.2.2.1.1]; exact h1.2.2.1.2.1
          refine zg_ci1 hC lk_RL_105 dL_law_922 (ci := 6) rfl ob6 (m_image (mB := 3100) rfl) (fun x2 M2 hM2 => ?_)
          have hh := st_image hRl hM1 hM2
          refine zg_icmp_eq hC 976 dL_law_925 (fun h925 => ?_) (fun h925 => ?_)
          · refine zg_iinc hC dL_law_976 rfl ?_
            refine zg_goto hC 18 dL_law_979 ?_
            exact ih (i + 5) M2 (by omega) (by omega) (by omega) hh.2
          · exact absurd hh.1 h925
        · refine zg_rw e32 ?_
          refine zg_tswIn hC 930 dL_law_32 (by decide) (by decide) rfl (by decide) ?_
          refine zg_aload_n hC dL_law_930 rfl ?_
          refine zg_sload_n hC dL_law_931 rfl ?_
          refine zg_iload_n hC dL_law_932 rfl ?_
          refine zg_iconst hC dL_law_933 ?_
          refine zg_iadd hC dL_law_934 ?_
          refine zg_sald2 hC hX dL_law_935 (by omega) (by omega) ?_
          refine zg_ci1 hC lk_RL_106 dL_law_936 (ci := 5) rfl ob5 (q_restore (nB := 0) (tB := 149) rfl rfl hRl.1.1) (fun x1 M1 hM1 => ?_)
          refine zg_aload_n hC dL_law_939 rfl ?_
          refine zg_sload_n hC dL_law_940 rfl ?_
          refine zg_iload_n hC dL_law_941 rfl ?_
          refine zg_iconst hC dL_law_942 ?_
          refine zg_iadd hC dL_law_943 ?_
          refine zg_sald2 hC hX dL_law_944 (by omega) (by omega) ?_
          have cf := cf_restore hRl hM1
          have h1 := rl_r hRl cf
          have hok1 := h1.1.2.ok h1.1.1
          have hs1 : 0 ≤ M1 3000 ∧ M1 3000 ≤ 12 := by rw [h1.2.2.1.1]; exact h1.2.2.1.2.1
          refine zg_ci1 hC lk_RL_109 dL_law_945 (ci := 6) rfl ob6 (m_restore (mB := 3100) rfl) (fun x2 M2 hM2 => ?_)
          have hh := st_restore hRl hM1 hM2
          refine zg_icmp_eq hC 976 dL_law_948 (fun h948 => ?_) (fun h948 => ?_)
          · refine zg_iinc hC dL_law_976 rfl ?_
            refine zg_goto hC 18 dL_law_979 ?_
            exact ih (i + 5) M2 (by omega) (by omega) (by omega) hh.2
          · exact absurd hh.1 h948
        · refine zg_rw e32 ?_
          refine zg_tswIn hC 953 dL_law_32 (by decide) (by decide) rfl (by decide) ?_
          refine zg_aload_n hC dL_law_953 rfl ?_
          refine zg_sload_n hC dL_law_954 rfl ?_
          refine zg_iload_n hC dL_law_955 rfl ?_
          refine zg_iconst hC dL_law_956 ?_
          refine zg_iadd hC dL_law_957 ?_
          refine zg_sald2 hC hX dL_law_958 (by omega) (by omega) ?_
          refine zg_ci1 hC lk_RL_110 dL_law_959 (ci := 5) rfl ob5 (q_count (nB := 0) (tB := 149) rfl rfl hRl.1.1) (fun x1 M1 hM1 => ?_)
          refine zg_aload_n hC dL_law_962 rfl ?_
          refine zg_sload_n hC dL_law_963 rfl ?_
          refine zg_iload_n hC dL_law_964 rfl ?_
          refine zg_iconst hC dL_law_965 ?_
          refine zg_iadd hC dL_law_966 ?_
          refine zg_sald2 hC hX dL_law_967 (by omega) (by omega) ?_
          have cf : ∀ x, 3000 ≤ x → M1 x = M x := fun x _ => by rw [hM1.1]
          have h1 := rl_r hRl cf
          have hok1 := h1.1.2.ok h1.1.1
          have hs1 : 0 ≤ M1 3000 ∧ M1 3000 ≤ 12 := by rw [h1.2.2.1.1]; exact h1.2.2.1.2.1
          refine zg_ci1 hC lk_RL_113 dL_law_968 (ci := 6) rfl ob6 (m_count (mB := 3100) rfl hok1) (fun x2 M2 hM2 => ?_)
          have hh : x1 = x2 ∧ Rl M2 M2 := ⟨by rw [hM1.2, hM2.2]; exact (an_count h1.1.2 h1.1.1 h1.2.2.1.1 h1.2.2.2.1.1).symm, by rw [hM2.1, hM1.1]; exact hRl⟩
          refine zg_icmp_eq hC 976 dL_law_971 (fun h971 => ?_) (fun h971 => ?_)
          · refine zg_iinc hC dL_law_976 rfl ?_
            refine zg_goto hC 18 dL_law_979 ?_
            exact ih (i + 5) M2 (by omega) (by omega) (by omega) hh.2
          · exact absurd hh.1 h971
        · refine zg_tswOut hC 976 dL_law_32 e32 (by decide) ?_
          refine zg_iinc hC dL_law_976 rfl ?_
          refine zg_goto hC 18 dL_law_979 ?_
          exact ih (i + 5) M (by omega) (by omega) (by omega) hRl
  intro M hRl
  exact lqa (L + 5) 0 M (by omega) (by omega) (by omega) hRl
