def gn_114_380 (y1 : Int32) (y5 : Int32) (M : im_M) : Option (im_M) :=
  if st_ib (((8 : Int32) * y1) + (1 : Int32)) 24 then (let M2 : im_M := im_u M 3 ((((8 : Int32) * y1) + (1 : Int32))).toNatClampNeg y5; some M2) else none
set_option maxRecDepth 100000 in
set_option maxHeartbeats 4000000 in
theorem tg_114_380 (y1 : Int32) (y5 : Int32) (M : im_M) : im_Go zR_V 2 fm_114 380 [(0, .inr (some 0)), (1, .inl y1), (5, .inl y5)] [] (st_hR M) (gn_114_380 y1 y5 M) := by
  unfold gn_114_380
  refine x_aload_n dm_114_380 rfl ?_
  refine x_getRC dm_114_381 fl_8_16 rfl rfl rfl rfl ?_
  refine x_bipush (8) dm_114_384 (by decide) ?_
  refine x_iload_n dm_114_386 rfl ?_
  refine x_imul dm_114_387 ?_
  refine x_iconst (1) dm_114_388 (by decide) ?_
  refine x_iadd dm_114_389 ?_
  refine x_iload dm_114_390 rfl ?_
  refine im_chk _ (fun hi1 => ?_)
  refine x_iastoreR _ rfl dm_114_392 rfl (mk_in rfl hi1) ?_
  exact x_vretR dm_114_393 rfl
def gn_114_339  : Nat → Int32 → Int32 → Int32 → im_M → Option (im_M)
  | 0, _, _, _, _ => none
  | n + 1, y1, y5, y6, M =>
    if st_ib y1 3 then (if (M 7 (y1).toNatClampNeg) ≤ y6 then (gn_114_380 y1 y5 M) else (if st_ib ((((4 : Int32) * y1) + y6) + (1 : Int32)) 12 then (if st_ib (((4 : Int32) * y1) + y6) 12 then (let M5 : im_M := im_u M 6 ((((4 : Int32) * y1) + y6)).toNatClampNeg (M 6 (((((4 : Int32) * y1) + y6) + (1 : Int32))).toNatClampNeg); let v6 : Int32 := (y6 + (1 : Int32)); gn_114_339 n y1 y5 v6 M5) else none) else none)) else none
set_option maxRecDepth 100000 in
set_option maxHeartbeats 4000000 in
theorem tg_114_339  : ∀ (n : Nat) (y1 : Int32) (y5 : Int32) (y6 : Int32) (M : im_M), im_Go zR_V 2 fm_114 339 [(0, .inr (some 0)), (1, .inl y1), (5, .inl y5), (6, .inl y6)] [] (st_hR M) (gn_114_339  n y1 y5 y6 M)
  | 0, y1, y5, y6, M => im_none
  | n + 1, y1, y5, y6, M => by
    have ih := tg_114_339  n
    unfold gn_114_339
    refine x_iload dm_114_339 rfl ?_
    refine x_aload_n dm_114_341 rfl ?_
    refine x_getRC dm_114_342 fl_8_28 rfl rfl rfl rfl ?_
    refine x_iload_n dm_114_345 rfl ?_
    refine im_chk _ (fun hi1 => ?_)
    refine x_ialoadX _ rfl dm_114_346 rfl (mk_in rfl hi1) ?_
    refine x_icmp_ge 380 dm_114_347 rfl (fun c2 => ?_) (fun c2 => ?_)
    · exact im_lsub [(0, .inr (some 0)), (1, .inl y1), (5, .inl y5)] (im_sb_c rfl (im_sb_c rfl (im_sb_c rfl im_sb_n))) (tg_114_380 y1 y5 M)
    · refine x_aload_n dm_114_350 rfl ?_
      refine x_getRC dm_114_351 fl_8_25 rfl rfl rfl rfl ?_
      refine x_iconst (4) dm_114_354 (by decide) ?_
      refine x_iload_n dm_114_355 rfl ?_
      refine x_imul dm_114_356 ?_
      refine x_iload dm_114_357 rfl ?_
      refine x_iadd dm_114_359 ?_
      refine x_aload_n dm_114_360 rfl ?_
      refine x_getRC dm_114_361 fl_8_25 rfl rfl rfl rfl ?_
      refine x_iconst (4) dm_114_364 (by decide) ?_
      refine x_iload_n dm_114_365 rfl ?_
      refine x_imul dm_114_366 ?_
      refine x_iload dm_114_367 rfl ?_
      refine x_iadd dm_114_369 ?_
      refine x_iconst (1) dm_114_370 (by decide) ?_
      refine x_iadd dm_114_371 ?_
      refine im_chk _ (fun hi3 => ?_)
      refine x_ialoadX _ rfl dm_114_372 rfl (mk_in rfl hi3) ?_
      refine im_chk _ (fun hi4 => ?_)
      refine x_iastoreR _ rfl dm_114_373 rfl (mk_in rfl hi4) ?_
      refine x_iinc (1) dm_114_374 rfl (by decide) (Nat.le_of_ble_eq_true rfl) ?_
      refine x_goto 339 dm_114_377 rfl ?_
      exact im_lsub [(0, .inr (some 0)), (1, .inl y1), (5, .inl y5), (6, .inl _)] (im_sb_c rfl (im_sb_c rfl (im_sb_c rfl (im_sb_c rfl im_sb_n)))) (ih y1 y5 _ _)
def gn_114_301 (y1 : Int32) (y2 : Int32) (y5 : Int32) (M : im_M) : Option (im_M) :=
  if y2 = (6 : Int32) then (if st_ib y1 3 then (if (M 7 (y1).toNatClampNeg) ≤ 0 then (gn_114_380 y1 y5 M) else (if st_ib ((4 : Int32) * y1) 12 then (let v5 : Int32 := (M 6 (((4 : Int32) * y1)).toNatClampNeg); let M6 : im_M := im_u M 7 (y1).toNatClampNeg ((M 7 (y1).toNatClampNeg) - (1 : Int32)); gn_114_339 1000 y1 v5 (0 : Int32) M6) else none)) else none) else (gn_114_380 y1 y5 M)
set_option maxRecDepth 100000 in
set_option maxHeartbeats 4000000 in
theorem tg_114_301 (y1 : Int32) (y2 : Int32) (y5 : Int32) (M : im_M) : im_Go zR_V 2 fm_114 301 [(0, .inr (some 0)), (1, .inl y1), (2, .inl y2), (5, .inl y5)] [] (st_hR M) (gn_114_301 y1 y2 y5 M) := by
  unfold gn_114_301
  refine x_iload_n dm_114_301 rfl ?_
  refine x_bipush (6) dm_114_302 (by decide) ?_
  refine x_icmp_ne 380 dm_114_304 rfl (fun c1 => ?_) (fun c1 => ?_)
  · refine x_aload_n dm_114_307 rfl ?_
    refine x_getRC dm_114_308 fl_8_28 rfl rfl rfl rfl ?_
    refine x_iload_n dm_114_311 rfl ?_
    refine im_chk _ (fun hi2 => ?_)
    refine x_ialoadX _ rfl dm_114_312 rfl (mk_in rfl hi2) ?_
    refine x_if_le 380 dm_114_313 rfl (fun c3 => ?_) (fun c3 => ?_)
    · exact im_lsub [(0, .inr (some 0)), (1, .inl y1), (5, .inl y5)] (im_sb_c rfl (im_sb_c rfl (im_sb_c rfl im_sb_n))) (tg_114_380 y1 y5 M)
    · refine x_aload_n dm_114_316 rfl ?_
      refine x_getRC dm_114_317 fl_8_25 rfl rfl rfl rfl ?_
      refine x_iconst (4) dm_114_320 (by decide) ?_
      refine x_iload_n dm_114_321 rfl ?_
      refine x_imul dm_114_322 ?_
      refine im_chk _ (fun hi4 => ?_)
      refine x_ialoadX _ rfl dm_114_323 rfl (mk_in rfl hi4) ?_
      refine x_istore dm_114_324 (Nat.le_of_ble_eq_true rfl) ?_
      refine x_aload_n dm_114_326 rfl ?_
      refine x_getRC dm_114_327 fl_8_28 rfl rfl rfl rfl ?_
      refine x_iload_n dm_114_330 rfl ?_
      refine x_dup2 dm_114_331 ?_
      refine x_ialoadX _ rfl dm_114_332 rfl (mk_in rfl hi2) ?_
      refine x_iconst (1) dm_114_333 (by decide) ?_
      refine x_isub dm_114_334 ?_
      refine x_iastoreR _ rfl dm_114_335 rfl (mk_in rfl hi2) ?_
      refine x_iconst (0) dm_114_336 (by decide) ?_
      refine x_istore dm_114_337 (Nat.le_of_ble_eq_true rfl) ?_
      exact im_lsub [(0, .inr (some 0)), (1, .inl y1), (5, .inl _), (6, .inl (0 : Int32))] (im_sb_c rfl (im_sb_c rfl (im_sb_c rfl (im_sb_c rfl im_sb_n)))) (tg_114_339 1000 y1 _ (0 : Int32) _)
  · exact im_lsub [(0, .inr (some 0)), (1, .inl y1), (5, .inl y5)] (im_sb_c rfl (im_sb_c rfl (im_sb_c rfl im_sb_n))) (tg_114_380 y1 y5 M)
def gn_114_235 (y1 : Int32) (y2 : Int32) (y3 : Int32) (y4 : Int32) (y5 : Int32) (M : im_M) : Option (im_M) :=
  if y2 = (5 : Int32) then ((gn_92 y3 (0 : Int32) (2 : Int32) M).bind fun b2 => if b2.1 = 0 then (gn_114_301 y1 y2 y5 b2.2) else (if st_ib y3 3 then (if (b2.2 2 (y3).toNatClampNeg) = 0 then (gn_114_301 y1 y2 y5 b2.2) else (if st_ib y3 3 then (if (4 : Int32) ≤ (b2.2 7 (y3).toNatClampNeg) then (gn_114_301 y1 y2 y5 b2.2) else (if st_ib (((4 : Int32) * y3) + (b2.2 7 (y3).toNatClampNeg)) 12 then (let M9 : im_M := im_u b2.2 6 ((((4 : Int32) * y3) + (b2.2 7 (y3).toNatClampNeg))).toNatClampNeg y4; let M10 : im_M := im_u M9 7 (y3).toNatClampNeg ((M9 7 (y3).toNatClampNeg) + (1 : Int32)); gn_114_380 y1 (0 : Int32) M10) else none)) else none)) else none)) else (gn_114_301 y1 y2 y5 M)
set_option maxRecDepth 100000 in
set_option maxHeartbeats 4000000 in
theorem tg_114_235 (y1 : Int32) (y2 : Int32) (y3 : Int32) (y4 : Int32) (y5 : Int32) (M : im_M) : im_Go zR_V 2 fm_114 235 [(0, .inr (some 0)), (1, .inl y1), (2, .inl y2), (3, .inl y3), (4, .inl y4), (5, .inl y5)] [] (st_hR M) (gn_114_235 y1 y2 y3 y4 y5 M) := by
  unfold gn_114_235
  refine x_iload_n dm_114_235 rfl ?_
  refine x_iconst (5) dm_114_236 (by decide) ?_
  refine x_icmp_ne 301 dm_114_237 rfl (fun c1 => ?_) (fun c1 => ?_)
  · refine x_iload_n dm_114_240 rfl ?_
    refine x_iconst (0) dm_114_241 (by decide) ?_
    refine x_iconst (2) dm_114_242 (by decide) ?_
    refine im_callRI mf_92 rfl (tg_92 y3 (0 : Int32) (2 : Int32) M) (im_runS (as := [.inl y3, .inl (0 : Int32), .inl (2 : Int32)]) (rest := []) dm_114_243 mf_92 (Nat.le_of_ble_eq_true rfl) ml_8_83 mi_92 mp_92 (Nat.le_of_ble_eq_true rfl)) rfl (fun b2 hb2 => ?_)
    refine x_if_eq 301 dm_114_246 rfl (fun c3 => ?_) (fun c3 => ?_)
    · exact im_lsub [(0, .inr (some 0)), (1, .inl y1), (2, .inl y2), (5, .inl y5)] (im_sb_c rfl (im_sb_c rfl (im_sb_c rfl (im_sb_c rfl im_sb_n)))) (tg_114_301 y1 y2 y5 b2.2)
    · refine x_aload_n dm_114_249 rfl ?_
      refine x_getRC dm_114_250 fl_8_13 rfl rfl rfl rfl ?_
      refine x_iload_n dm_114_253 rfl ?_
      refine im_chk _ (fun hi4 => ?_)
      refine x_ialoadX _ rfl dm_114_254 rfl (mk_in rfl hi4) ?_
      refine x_if_eq 301 dm_114_255 rfl (fun c5 => ?_) (fun c5 => ?_)
      · exact im_lsub [(0, .inr (some 0)), (1, .inl y1), (2, .inl y2), (5, .inl y5)] (im_sb_c rfl (im_sb_c rfl (im_sb_c rfl (im_sb_c rfl im_sb_n)))) (tg_114_301 y1 y2 y5 b2.2)
      · refine x_aload_n dm_114_258 rfl ?_
        refine x_getRC dm_114_259 fl_8_28 rfl rfl rfl rfl ?_
        refine x_iload_n dm_114_262 rfl ?_
        refine im_chk _ (fun hi6 => ?_)
        refine x_ialoadX _ rfl dm_114_263 rfl (mk_in rfl hi6) ?_
        refine x_iconst (4) dm_114_264 (by decide) ?_
        refine x_icmp_ge 301 dm_114_265 rfl (fun c7 => ?_) (fun c7 => ?_)
        · exact im_lsub [(0, .inr (some 0)), (1, .inl y1), (2, .inl y2), (5, .inl y5)] (im_sb_c rfl (im_sb_c rfl (im_sb_c rfl (im_sb_c rfl im_sb_n)))) (tg_114_301 y1 y2 y5 b2.2)
        · refine x_aload_n dm_114_268 rfl ?_
          refine x_getRC dm_114_269 fl_8_25 rfl rfl rfl rfl ?_
          refine x_iconst (4) dm_114_272 (by decide) ?_
          refine x_iload_n dm_114_273 rfl ?_
          refine x_imul dm_114_274 ?_
          refine x_aload_n dm_114_275 rfl ?_
          refine x_getRC dm_114_276 fl_8_28 rfl rfl rfl rfl ?_
          refine x_iload_n dm_114_279 rfl ?_
          refine x_ialoadX _ rfl dm_114_280 rfl (mk_in rfl hi6) ?_
          refine x_iadd dm_114_281 ?_
          refine x_iload dm_114_282 rfl ?_
          refine im_chk _ (fun hi8 => ?_)
          refine x_iastoreR _ rfl dm_114_284 rfl (mk_in rfl hi8) ?_
          refine x_aload_n dm_114_285 rfl ?_
          refine x_getRC dm_114_286 fl_8_28 rfl rfl rfl rfl ?_
          refine x_iload_n dm_114_289 rfl ?_
          refine x_dup2 dm_114_290 ?_
          refine x_ialoadX _ rfl dm_114_291 rfl (mk_in rfl hi6) ?_
          refine x_iconst (1) dm_114_292 (by decide) ?_
          refine x_iadd dm_114_293 ?_
          refine x_iastoreR _ rfl dm_114_294 rfl (mk_in rfl hi6) ?_
          refine x_iconst (0) dm_114_295 (by decide) ?_
          refine x_istore dm_114_296 (Nat.le_of_ble_eq_true rfl) ?_
          refine x_goto 380 dm_114_298 rfl ?_
          exact im_lsub [(0, .inr (some 0)), (1, .inl y1), (5, .inl (0 : Int32))] (im_sb_c rfl (im_sb_c rfl (im_sb_c rfl im_sb_n))) (tg_114_380 y1 (0 : Int32) _)
  · exact im_lsub [(0, .inr (some 0)), (1, .inl y1), (2, .inl y2), (5, .inl y5)] (im_sb_c rfl (im_sb_c rfl (im_sb_c rfl (im_sb_c rfl im_sb_n)))) (tg_114_301 y1 y2 y5 M)
def gn_114_196  : Nat → Int32 → Int32 → Int32 → Int32 → im_M → Option (im_M)
  | 0, _, _, _, _, _ => none
  | n + 1, y1, y3, y4, y6, M =>
    if y4 ≤ y6 then (gn_114_380 y1 y4 M) else (if st_ib ((((16 : Int32) * y1) + y3) + y6) 256 then ((gn_112 y1 (M 1 (((((16 : Int32) * y1) + y3) + y6)).toNatClampNeg) M).bind fun b3 => let v4 : Int32 := (y6 + (1 : Int32)); gn_114_196 n y1 y3 y4 v4 b3) else none)
set_option maxRecDepth 100000 in
set_option maxHeartbeats 4000000 in
theorem tg_114_196  : ∀ (n : Nat) (y1 : Int32) (y3 : Int32) (y4 : Int32) (y6 : Int32) (M : im_M), im_Go zR_V 2 fm_114 196 [(0, .inr (some 0)), (1, .inl y1), (3, .inl y3), (4, .inl y4), (6, .inl y6)] [] (st_hR M) (gn_114_196  n y1 y3 y4 y6 M)
  | 0, y1, y3, y4, y6, M => im_none
  | n + 1, y1, y3, y4, y6, M => by
    have ih := tg_114_196  n
    unfold gn_114_196
    refine x_iload dm_114_196 rfl ?_
    refine x_iload dm_114_198 rfl ?_
    refine x_icmp_ge 228 dm_114_200 rfl (fun c1 => ?_) (fun c1 => ?_)
    · refine x_iload dm_114_228 rfl ?_
      refine x_istore dm_114_230 (Nat.le_of_ble_eq_true rfl) ?_
      refine x_goto 380 dm_114_232 rfl ?_
      exact im_lsub [(0, .inr (some 0)), (1, .inl y1), (5, .inl y4)] (im_sb_c rfl (im_sb_c rfl (im_sb_c rfl im_sb_n))) (tg_114_380 y1 y4 M)
    · refine x_aload_n dm_114_203 rfl ?_
      refine x_iload_n dm_114_204 rfl ?_
      refine x_aload_n dm_114_205 rfl ?_
      refine x_getRC dm_114_206 fl_8_7 rfl rfl rfl rfl ?_
      refine x_bipush (16) dm_114_209 (by decide) ?_
      refine x_iload_n dm_114_211 rfl ?_
      refine x_imul dm_114_212 ?_
      refine x_iload_n dm_114_213 rfl ?_
      refine x_iadd dm_114_214 ?_
      refine x_iload dm_114_215 rfl ?_
      refine x_iadd dm_114_217 ?_
      refine im_chk _ (fun hi2 => ?_)
      refine x_ialoadX _ rfl dm_114_218 rfl (mk_in rfl hi2) ?_
      refine im_callRV mf_112 rfl (tg_112 y1 _ M) (im_runV (as := [.inl y1, .inl _]) (rest := []) dm_114_219 mf_112 (Nat.le_of_ble_eq_true rfl) ml_8_148 mi_112 ms_112 mp_112 (Nat.le_of_ble_eq_true rfl) rfl rfl ⟨_, _, rfl⟩) rfl (fun b3 hb3 => ?_)
      refine x_iinc (1) dm_114_222 rfl (by decide) (Nat.le_of_ble_eq_true rfl) ?_
      refine x_goto 196 dm_114_225 rfl ?_
      exact im_lsub [(0, .inr (some 0)), (1, .inl y1), (3, .inl y3), (4, .inl y4), (6, .inl _)] (im_sb_c rfl (im_sb_c rfl (im_sb_c rfl (im_sb_c rfl (im_sb_c rfl im_sb_n))))) (ih y1 y3 y4 _ b3)
def gn_114_179 (y1 : Int32) (y2 : Int32) (y3 : Int32) (y4 : Int32) (y5 : Int32) (M : im_M) : Option (im_M) :=
  if y2 = (4 : Int32) then ((gn_115 y3 y4 M).bind fun b2 => if b2.1 = 0 then (gn_114_235 y1 y2 y3 y4 y5 b2.2) else (gn_114_196 1000 y1 y3 y4 (0 : Int32) b2.2)) else (gn_114_235 y1 y2 y3 y4 y5 M)
set_option maxRecDepth 100000 in
set_option maxHeartbeats 4000000 in
theorem tg_114_179 (y1 : Int32) (y2 : Int32) (y3 : Int32) (y4 : Int32) (y5 : Int32) (M : im_M) : im_Go zR_V 2 fm_114 179 [(0, .inr (some 0)), (1, .inl y1), (2, .inl y2), (3, .inl y3), (4, .inl y4), (5, .inl y5)] [] (st_hR M) (gn_114_179 y1 y2 y3 y4 y5 M) := by
  unfold gn_114_179
  refine x_iload_n dm_114_179 rfl ?_
  refine x_iconst (4) dm_114_180 (by decide) ?_
  refine x_icmp_ne 235 dm_114_181 rfl (fun c1 => ?_) (fun c1 => ?_)
  · refine x_iload_n dm_114_184 rfl ?_
    refine x_iload dm_114_185 rfl ?_
    refine im_callRI mf_115 rfl (tg_115 y3 y4 M) (im_runS (as := [.inl y3, .inl y4]) (rest := []) dm_114_187 mf_115 (Nat.le_of_ble_eq_true rfl) ml_8_151 mi_115 mp_115 (Nat.le_of_ble_eq_true rfl)) rfl (fun b2 hb2 => ?_)
    refine x_if_eq 235 dm_114_190 rfl (fun c3 => ?_) (fun c3 => ?_)
    · exact im_lsub [(0, .inr (some 0)), (1, .inl y1), (2, .inl y2), (3, .inl y3), (4, .inl y4), (5, .inl y5)] (im_sb_c rfl (im_sb_c rfl (im_sb_c rfl (im_sb_c rfl (im_sb_c rfl (im_sb_c rfl im_sb_n)))))) (tg_114_235 y1 y2 y3 y4 y5 b2.2)
    · refine x_iconst (0) dm_114_193 (by decide) ?_
      refine x_istore dm_114_194 (Nat.le_of_ble_eq_true rfl) ?_
      exact im_lsub [(0, .inr (some 0)), (1, .inl y1), (3, .inl y3), (4, .inl y4), (6, .inl (0 : Int32))] (im_sb_c rfl (im_sb_c rfl (im_sb_c rfl (im_sb_c rfl (im_sb_c rfl im_sb_n))))) (tg_114_196 1000 y1 y3 y4 (0 : Int32) b2.2)
  · exact im_lsub [(0, .inr (some 0)), (1, .inl y1), (2, .inl y2), (3, .inl y3), (4, .inl y4), (5, .inl y5)] (im_sb_c rfl (im_sb_c rfl (im_sb_c rfl (im_sb_c rfl (im_sb_c rfl (im_sb_c rfl im_sb_n)))))) (tg_114_235 y1 y2 y3 y4 y5 M)
def gn_114_136 (y1 : Int32) (y2 : Int32) (y3 : Int32) (y4 : Int32) (y5 : Int32) (M : im_M) : Option (im_M) :=
  if y2 = (3 : Int32) then (if st_ib y1 3 then ((gn_92 y3 (1 : Int32) ((16 : Int32) - (M 5 (y1).toNatClampNeg)) M).bind fun b3 => if b3.1 = 0 then (gn_114_179 y1 y2 y3 y4 y5 b3.2) else (if st_ib y1 3 then (let v6 : Int32 := (b3.2 5 (y1).toNatClampNeg); let M7 : im_M := im_u b3.2 5 (y1).toNatClampNeg ((b3.2 5 (y1).toNatClampNeg) + y3); gn_114_380 y1 v6 M7) else none)) else none) else (gn_114_179 y1 y2 y3 y4 y5 M)
set_option maxRecDepth 100000 in
set_option maxHeartbeats 4000000 in
theorem tg_114_136 (y1 : Int32) (y2 : Int32) (y3 : Int32) (y4 : Int32) (y5 : Int32) (M : im_M) : im_Go zR_V 2 fm_114 136 [(0, .inr (some 0)), (1, .inl y1), (2, .inl y2), (3, .inl y3), (4, .inl y4), (5, .inl y5)] [] (st_hR M) (gn_114_136 y1 y2 y3 y4 y5 M) := by
  unfold gn_114_136
  refine x_iload_n dm_114_136 rfl ?_
  refine x_iconst (3) dm_114_137 (by decide) ?_
  refine x_icmp_ne 179 dm_114_138 rfl (fun c1 => ?_) (fun c1 => ?_)
  · refine x_iload_n dm_114_141 rfl ?_
    refine x_iconst (1) dm_114_142 (by decide) ?_
    refine x_bipush (16) dm_114_143 (by decide) ?_
    refine x_aload_n dm_114_145 rfl ?_
    refine x_getRC dm_114_146 fl_8_22 rfl rfl rfl rfl ?_
    refine x_iload_n dm_114_149 rfl ?_
    refine im_chk _ (fun hi2 => ?_)
    refine x_ialoadX _ rfl dm_114_150 rfl (mk_in rfl hi2) ?_
    refine x_isub dm_114_151 ?_
    refine im_callRI mf_92 rfl (tg_92 y3 (1 : Int32) _ M) (im_runS (as := [.inl y3, .inl (1 : Int32), .inl _]) (rest := []) dm_114_152 mf_92 (Nat.le_of_ble_eq_true rfl) ml_8_83 mi_92 mp_92 (Nat.le_of_ble_eq_true rfl)) rfl (fun b3 hb3 => ?_)
    refine x_if_eq 179 dm_114_155 rfl (fun c4 => ?_) (fun c4 => ?_)
    · exact im_lsub [(0, .inr (some 0)), (1, .inl y1), (2, .inl y2), (3, .inl y3), (4, .inl y4), (5, .inl y5)] (im_sb_c rfl (im_sb_c rfl (im_sb_c rfl (im_sb_c rfl (im_sb_c rfl (im_sb_c rfl im_sb_n)))))) (tg_114_179 y1 y2 y3 y4 y5 b3.2)
    · refine x_aload_n dm_114_158 rfl ?_
      refine x_getRC dm_114_159 fl_8_22 rfl rfl rfl rfl ?_
      refine x_iload_n dm_114_162 rfl ?_
      refine im_chk _ (fun hi5 => ?_)
      refine x_ialoadX _ rfl dm_114_163 rfl (mk_in rfl hi5) ?_
      refine x_istore dm_114_164 (Nat.le_of_ble_eq_true rfl) ?_
      refine x_aload_n dm_114_166 rfl ?_
      refine x_getRC dm_114_167 fl_8_22 rfl rfl rfl rfl ?_
      refine x_iload_n dm_114_170 rfl ?_
      refine x_dup2 dm_114_171 ?_
      refine x_ialoadX _ rfl dm_114_172 rfl (mk_in rfl hi5) ?_
      refine x_iload_n dm_114_173 rfl ?_
      refine x_iadd dm_114_174 ?_
      refine x_iastoreR _ rfl dm_114_175 rfl (mk_in rfl hi5) ?_
      refine x_goto 380 dm_114_176 rfl ?_
      exact im_lsub [(0, .inr (some 0)), (1, .inl y1), (5, .inl _)] (im_sb_c rfl (im_sb_c rfl (im_sb_c rfl im_sb_n))) (tg_114_380 y1 _ _)
  · exact im_lsub [(0, .inr (some 0)), (1, .inl y1), (2, .inl y2), (3, .inl y3), (4, .inl y4), (5, .inl y5)] (im_sb_c rfl (im_sb_c rfl (im_sb_c rfl (im_sb_c rfl (im_sb_c rfl (im_sb_c rfl im_sb_n)))))) (tg_114_179 y1 y2 y3 y4 y5 M)
def gn_114_54 (y1 : Int32) (y2 : Int32) (y3 : Int32) (s0 : Int32) (M : im_M) : Option (im_M) :=
  (gn_113 y1 y2 y3 s0 M).bind fun b1 => if y2 = (1 : Int32) then ((gn_112 y1 y3 b1).bind fun b3 => gn_114_380 y1 (0 : Int32) b3) else (if y2 = (2 : Int32) then (if st_ib y1 3 then (if st_ib y1 3 then (if (b1 9 (y1).toNatClampNeg) ≤ (b1 10 (y1).toNatClampNeg) then (gn_114_136 y1 y2 y3 s0 (-1 : Int32) b1) else (if st_ib (((12 : Int32) * y1) + (b1 10 (y1).toNatClampNeg)) 36 then (let v9 : Int32 := (b1 8 ((((12 : Int32) * y1) + (b1 10 (y1).toNatClampNeg))).toNatClampNeg); let M10 : im_M := im_u b1 10 (y1).toNatClampNeg ((b1 10 (y1).toNatClampNeg) + (1 : Int32)); gn_114_380 y1 v9 M10) else none)) else none) else none) else (gn_114_136 y1 y2 y3 s0 (-1 : Int32) b1))
set_option maxRecDepth 100000 in
set_option maxHeartbeats 4000000 in
theorem tg_114_54 (y1 : Int32) (y2 : Int32) (y3 : Int32) (s0 : Int32) (M : im_M) : im_Go zR_V 2 fm_114 54 [(0, .inr (some 0)), (1, .inl y1), (2, .inl y2), (3, .inl y3)] [.inl s0] (st_hR M) (gn_114_54 y1 y2 y3 s0 M) := by
  unfold gn_114_54
  refine x_istore dm_114_54 (Nat.le_of_ble_eq_true rfl) ?_
  refine x_aload_n dm_114_56 rfl ?_
  refine x_iload_n dm_114_57 rfl ?_
  refine x_iload_n dm_114_58 rfl ?_
  refine x_iload_n dm_114_59 rfl ?_
  refine x_iload dm_114_60 rfl ?_
  refine im_callRV mf_113 rfl (tg_113 y1 y2 y3 s0 M) (im_runV (as := [.inl y1, .inl y2, .inl y3, .inl s0]) (rest := []) dm_114_62 mf_113 (Nat.le_of_ble_eq_true rfl) ml_8_144 mi_113 ms_113 mp_113 (Nat.le_of_ble_eq_true rfl) rfl rfl ⟨_, _, rfl⟩) rfl (fun b1 hb1 => ?_)
  refine x_iconst (-1) dm_114_65 (by decide) ?_
  refine x_istore dm_114_66 (Nat.le_of_ble_eq_true rfl) ?_
  refine x_iload_n dm_114_68 rfl ?_
  refine x_iconst (1) dm_114_69 (by decide) ?_
  refine x_icmp_ne 85 dm_114_70 rfl (fun c2 => ?_) (fun c2 => ?_)
  · refine x_aload_n dm_114_73 rfl ?_
    refine x_iload_n dm_114_74 rfl ?_
    refine x_iload_n dm_114_75 rfl ?_
    refine im_callRV mf_112 rfl (tg_112 y1 y3 b1) (im_runV (as := [.inl y1, .inl y3]) (rest := []) dm_114_76 mf_112 (Nat.le_of_ble_eq_true rfl) ml_8_148 mi_112 ms_112 mp_112 (Nat.le_of_ble_eq_true rfl) rfl rfl ⟨_, _, rfl⟩) rfl (fun b3 hb3 => ?_)
    refine x_iconst (0) dm_114_79 (by decide) ?_
    refine x_istore dm_114_80 (Nat.le_of_ble_eq_true rfl) ?_
    refine x_goto 380 dm_114_82 rfl ?_
    exact im_lsub [(0, .inr (some 0)), (1, .inl y1), (5, .inl (0 : Int32))] (im_sb_c rfl (im_sb_c rfl (im_sb_c rfl im_sb_n))) (tg_114_380 y1 (0 : Int32) b3)
  · refine x_iload_n dm_114_85 rfl ?_
    refine x_iconst (2) dm_114_86 (by decide) ?_
    refine x_icmp_ne 136 dm_114_87 rfl (fun c4 => ?_) (fun c4 => ?_)
    · refine x_aload_n dm_114_90 rfl ?_
      refine x_getRC dm_114_91 fl_8_37 rfl rfl rfl rfl ?_
      refine x_iload_n dm_114_94 rfl ?_
      refine im_chk _ (fun hi5 => ?_)
      refine x_ialoadX _ rfl dm_114_95 rfl (mk_in rfl hi5) ?_
      refine x_aload_n dm_114_96 rfl ?_
      refine x_getRC dm_114_97 fl_8_34 rfl rfl rfl rfl ?_
      refine x_iload_n dm_114_100 rfl ?_
      refine im_chk _ (fun hi6 => ?_)
      refine x_ialoadX _ rfl dm_114_101 rfl (mk_in rfl hi6) ?_
      refine x_icmp_ge 136 dm_114_102 rfl (fun c7 => ?_) (fun c7 => ?_)
      · exact im_lsub [(0, .inr (some 0)), (1, .inl y1), (2, .inl y2), (3, .inl y3), (4, .inl s0), (5, .inl (-1 : Int32))] (im_sb_c rfl (im_sb_c rfl (im_sb_c rfl (im_sb_c rfl (im_sb_c rfl (im_sb_c rfl im_sb_n)))))) (tg_114_136 y1 y2 y3 s0 (-1 : Int32) b1)
      · refine x_aload_n dm_114_105 rfl ?_
        refine x_getRC dm_114_106 fl_8_31 rfl rfl rfl rfl ?_
        refine x_bipush (12) dm_114_109 (by decide) ?_
        refine x_iload_n dm_114_111 rfl ?_
        refine x_imul dm_114_112 ?_
        refine x_aload_n dm_114_113 rfl ?_
        refine x_getRC dm_114_114 fl_8_37 rfl rfl rfl rfl ?_
        refine x_iload_n dm_114_117 rfl ?_
        refine x_ialoadX _ rfl dm_114_118 rfl (mk_in rfl hi5) ?_
        refine x_iadd dm_114_119 ?_
        refine im_chk _ (fun hi8 => ?_)
        refine x_ialoadX _ rfl dm_114_120 rfl (mk_in rfl hi8) ?_
        refine x_istore dm_114_121 (Nat.le_of_ble_eq_true rfl) ?_
        refine x_aload_n dm_114_123 rfl ?_
        refine x_getRC dm_114_124 fl_8_37 rfl rfl rfl rfl ?_
        refine x_iload_n dm_114_127 rfl ?_
        refine x_dup2 dm_114_128 ?_
        refine x_ialoadX _ rfl dm_114_129 rfl (mk_in rfl hi5) ?_
        refine x_iconst (1) dm_114_130 (by decide) ?_
        refine x_iadd dm_114_131 ?_
        refine x_iastoreR _ rfl dm_114_132 rfl (mk_in rfl hi5) ?_
        refine x_goto 380 dm_114_133 rfl ?_
        exact im_lsub [(0, .inr (some 0)), (1, .inl y1), (5, .inl _)] (im_sb_c rfl (im_sb_c rfl (im_sb_c rfl im_sb_n))) (tg_114_380 y1 _ _)
    · exact im_lsub [(0, .inr (some 0)), (1, .inl y1), (2, .inl y2), (3, .inl y3), (4, .inl s0), (5, .inl (-1 : Int32))] (im_sb_c rfl (im_sb_c rfl (im_sb_c rfl (im_sb_c rfl (im_sb_c rfl (im_sb_c rfl im_sb_n)))))) (tg_114_136 y1 y2 y3 s0 (-1 : Int32) b1)
def gn_114_29 (y1 : Int32) (y2 : Int32) (s0 : Int32) (M : im_M) : Option (im_M) :=
  (gn_92 y2 (4 : Int32) (5 : Int32) M).bind fun b1 => if b1.1 = 0 then (gn_114_54 y1 y2 s0 (0 : Int32) b1.2) else (if st_ib (((8 : Int32) * y1) + (2 : Int32)) 24 then (gn_114_54 y1 y2 s0 (b1.2 3 ((((8 : Int32) * y1) + (2 : Int32))).toNatClampNeg) b1.2) else none)
set_option maxRecDepth 100000 in
set_option maxHeartbeats 4000000 in
theorem tg_114_29 (y1 : Int32) (y2 : Int32) (s0 : Int32) (M : im_M) : im_Go zR_V 2 fm_114 29 [(0, .inr (some 0)), (1, .inl y1), (2, .inl y2)] [.inl s0] (st_hR M) (gn_114_29 y1 y2 s0 M) := by
  unfold gn_114_29
  refine x_istore_n dm_114_29 (Nat.le_of_ble_eq_true rfl) ?_
  refine x_iload_n dm_114_30 rfl ?_
  refine x_iconst (4) dm_114_31 (by decide) ?_
  refine x_iconst (5) dm_114_32 (by decide) ?_
  refine im_callRI mf_92 rfl (tg_92 y2 (4 : Int32) (5 : Int32) M) (im_runS (as := [.inl y2, .inl (4 : Int32), .inl (5 : Int32)]) (rest := []) dm_114_33 mf_92 (Nat.le_of_ble_eq_true rfl) ml_8_83 mi_92 mp_92 (Nat.le_of_ble_eq_true rfl)) rfl (fun b1 hb1 => ?_)
  refine x_if_eq 53 dm_114_36 rfl (fun c2 => ?_) (fun c2 => ?_)
  · refine x_iconst (0) dm_114_53 (by decide) ?_
    exact im_lsub [(0, .inr (some 0)), (1, .inl y1), (2, .inl y2), (3, .inl s0)] (im_sb_c rfl (im_sb_c rfl (im_sb_c rfl (im_sb_c rfl im_sb_n)))) (tg_114_54 y1 y2 s0 (0 : Int32) b1.2)
  · refine x_aload_n dm_114_39 rfl ?_
    refine x_getRC dm_114_40 fl_8_16 rfl rfl rfl rfl ?_
    refine x_bipush (8) dm_114_43 (by decide) ?_
    refine x_iload_n dm_114_45 rfl ?_
    refine x_imul dm_114_46 ?_
    refine x_iconst (2) dm_114_47 (by decide) ?_
    refine x_iadd dm_114_48 ?_
    refine im_chk _ (fun hi3 => ?_)
    refine x_ialoadX _ rfl dm_114_49 rfl (mk_in rfl hi3) ?_
    refine x_goto 54 dm_114_50 rfl ?_
    exact im_lsub [(0, .inr (some 0)), (1, .inl y1), (2, .inl y2), (3, .inl s0)] (im_sb_c rfl (im_sb_c rfl (im_sb_c rfl (im_sb_c rfl im_sb_n)))) (tg_114_54 y1 y2 s0 _ b1.2)
def gn_114_14 (y1 : Int32) (y2 : Int32) (M : im_M) : Option (im_M) :=
  if st_ib (((8 : Int32) * y1) + (1 : Int32)) 24 then (gn_114_29 y1 y2 (M 3 ((((8 : Int32) * y1) + (1 : Int32))).toNatClampNeg) M) else none
set_option maxRecDepth 100000 in
set_option maxHeartbeats 4000000 in
theorem tg_114_14 (y1 : Int32) (y2 : Int32) (M : im_M) : im_Go zR_V 2 fm_114 14 [(0, .inr (some 0)), (1, .inl y1), (2, .inl y2)] [] (st_hR M) (gn_114_14 y1 y2 M) := by
  unfold gn_114_14
  refine x_aload_n dm_114_14 rfl ?_
  refine x_getRC dm_114_15 fl_8_16 rfl rfl rfl rfl ?_
  refine x_bipush (8) dm_114_18 (by decide) ?_
  refine x_iload_n dm_114_20 rfl ?_
  refine x_imul dm_114_21 ?_
  refine x_iconst (1) dm_114_22 (by decide) ?_
  refine x_iadd dm_114_23 ?_
  refine im_chk _ (fun hi1 => ?_)
  refine x_ialoadX _ rfl dm_114_24 rfl (mk_in rfl hi1) ?_
  refine x_goto 29 dm_114_25 rfl ?_
  exact im_lsub [(0, .inr (some 0)), (1, .inl y1), (2, .inl y2)] (im_sb_c rfl (im_sb_c rfl (im_sb_c rfl im_sb_n))) (tg_114_29 y1 y2 _ M)
/-- FencedModulesModel.host(II)V -/
def gn_114 (x1 : Int32) (x2 : Int32) (M : im_M) : Option (im_M) :=
  if x2 = (1 : Int32) then (gn_114_14 x1 x2 M) else ((gn_92 x2 (3 : Int32) (5 : Int32) M).bind fun b2 => if b2.1 = 0 then (gn_114_29 x1 x2 (0 : Int32) b2.2) else (gn_114_14 x1 x2 b2.2))
set_option maxRecDepth 100000 in
set_option maxHeartbeats 4000000 in
theorem tg_114 (x1 : Int32) (x2 : Int32) (M : im_M) : im_Go zR_V 2 fm_114 0 (im_en 0 [.inr (some 0), .inl x1, .inl x2]) [] (st_hR M) (gn_114 x1 x2 M) := by
  unfold gn_114
  refine x_iload_n dm_114_0 rfl ?_
  refine x_iconst (1) dm_114_1 (by decide) ?_
  refine x_icmp_eq 14 dm_114_2 rfl (fun c1 => ?_) (fun c1 => ?_)
  · exact im_lsub [(0, .inr (some 0)), (1, .inl x1), (2, .inl x2)] (im_sb_c rfl (im_sb_c rfl (im_sb_c rfl im_sb_n))) (tg_114_14 x1 x2 M)
  · refine x_iload_n dm_114_5 rfl ?_
    refine x_iconst (3) dm_114_6 (by decide) ?_
    refine x_iconst (5) dm_114_7 (by decide) ?_
    refine im_callRI mf_92 rfl (tg_92 x2 (3 : Int32) (5 : Int32) M) (im_runS (as := [.inl x2, .inl (3 : Int32), .inl (5 : Int32)]) (rest := []) dm_114_8 mf_92 (Nat.le_of_ble_eq_true rfl) ml_8_83 mi_92 mp_92 (Nat.le_of_ble_eq_true rfl)) rfl (fun b2 hb2 => ?_)
    refine x_if_eq 28 dm_114_11 rfl (fun c3 => ?_) (fun c3 => ?_)
    · refine x_iconst (0) dm_114_28 (by decide) ?_
      exact im_lsub [(0, .inr (some 0)), (1, .inl x1), (2, .inl x2)] (im_sb_c rfl (im_sb_c rfl (im_sb_c rfl im_sb_n))) (tg_114_29 x1 x2 (0 : Int32) b2.2)
    · exact im_lsub [(0, .inr (some 0)), (1, .inl x1), (2, .inl x2)] (im_sb_c rfl (im_sb_c rfl (im_sb_c rfl im_sb_n))) (tg_114_14 x1 x2 b2.2)
def gn_125_326 (y8 : Int32) (M : im_M) : Option (Int32 × im_M) :=
  (gn_122 (1 : Int32) y8 (0 : Int32) M).bind fun b1 => let M2 : im_M := im_u b1 0 27 ((b1 0 27) + (1 : Int32)); some ((0 : Int32), M2)
set_option maxRecDepth 100000 in
set_option maxHeartbeats 4000000 in
theorem tg_125_326 (y8 : Int32) (M : im_M) : im_Go zR_I 2 fm_125 326 [(0, .inr (some 0)), (8, .inl y8)] [] (st_hR M) (gn_125_326 y8 M) := by
  unfold gn_125_326
  refine x_aload_n dm_125_326 rfl ?_
  refine x_iconst (1) dm_125_327 (by decide) ?_
  refine x_iload dm_125_328 rfl ?_
  refine x_iconst (0) dm_125_330 (by decide) ?_
  refine im_callRV mf_122 rfl (tg_122 (1 : Int32) y8 (0 : Int32) M) (im_runV (as := [.inl (1 : Int32), .inl y8, .inl (0 : Int32)]) (rest := []) dm_125_331 mf_122 (Nat.le_of_ble_eq_true rfl) ml_8_169 mi_122 ms_122 mp_122 (Nat.le_of_ble_eq_true rfl) rfl rfl ⟨_, _, rfl⟩) rfl (fun b1 hb1 => ?_)
  refine x_aload_n dm_125_334 rfl ?_
  refine x_dup dm_125_335 ?_
  refine x_getI dm_125_336 fl_8_173 rfl rfl rfl ?_
  refine x_iconst (1) dm_125_339 (by decide) ?_
  refine x_iadd dm_125_340 ?_
  refine x_putIR dm_125_341 fl_8_173 rfl rfl rfl ?_
  refine x_iconst (0) dm_125_344 (by decide) ?_
  exact x_iretR dm_125_345 rfl
def gn_125_317 (y6 : Int32) (y7 : Int32) (y8 : Int32) (M : im_M) : Option (Int32 × im_M) :=
  if y7 = 0 then (gn_125_326 y8 M) else (gn_125_326 y6 M)
set_option maxRecDepth 100000 in
set_option maxHeartbeats 4000000 in
theorem tg_125_317 (y6 : Int32) (y7 : Int32) (y8 : Int32) (M : im_M) : im_Go zR_I 2 fm_125 317 [(0, .inr (some 0)), (6, .inl y6), (7, .inl y7), (8, .inl y8)] [] (st_hR M) (gn_125_317 y6 y7 y8 M) := by
  unfold gn_125_317
  refine x_iload dm_125_317 rfl ?_
  refine x_if_eq 326 dm_125_319 rfl (fun c1 => ?_) (fun c1 => ?_)
  · exact im_lsub [(0, .inr (some 0)), (8, .inl y8)] (im_sb_c rfl (im_sb_c rfl im_sb_n)) (tg_125_326 y8 M)
  · refine x_iload dm_125_322 rfl ?_
    refine x_istore dm_125_324 (Nat.le_of_ble_eq_true rfl) ?_
    exact im_lsub [(0, .inr (some 0)), (8, .inl y6)] (im_sb_c rfl (im_sb_c rfl im_sb_n)) (tg_125_326 y6 M)
def gn_125_276 (y2 : Int32) (y5 : Int32) (y6 : Int32) (y7 : Int32) (y8 : Int32) (M : im_M) : Option (Int32 × im_M) :=
  if y2 = (3 : Int32) then ((gn_92 y5 (1 : Int32) ((16 : Int32) - (M 0 28)) M).bind fun b2 => if b2.1 = 0 then (gn_125_317 y6 y7 y8 b2.2) else (let v4 : Int32 := (b2.2 0 28); let M5 : im_M := im_u b2.2 0 28 ((b2.2 0 28) + y5); gn_125_326 v4 M5)) else (gn_125_317 y6 y7 y8 M)
set_option maxRecDepth 100000 in
set_option maxHeartbeats 4000000 in
theorem tg_125_276 (y2 : Int32) (y5 : Int32) (y6 : Int32) (y7 : Int32) (y8 : Int32) (M : im_M) : im_Go zR_I 2 fm_125 276 [(0, .inr (some 0)), (2, .inl y2), (5, .inl y5), (6, .inl y6), (7, .inl y7), (8, .inl y8)] [] (st_hR M) (gn_125_276 y2 y5 y6 y7 y8 M) := by
  unfold gn_125_276
  refine x_iload_n dm_125_276 rfl ?_
  refine x_iconst (3) dm_125_277 (by decide) ?_
  refine x_icmp_ne 317 dm_125_278 rfl (fun c1 => ?_) (fun c1 => ?_)
  · refine x_iload dm_125_281 rfl ?_
    refine x_iconst (1) dm_125_283 (by decide) ?_
    refine x_bipush (16) dm_125_284 (by decide) ?_
    refine x_aload_n dm_125_286 rfl ?_
    refine x_getI dm_125_287 fl_8_176 rfl rfl rfl ?_
    refine x_isub dm_125_290 ?_
    refine im_callRI mf_92 rfl (tg_92 y5 (1 : Int32) _ M) (im_runS (as := [.inl y5, .inl (1 : Int32), .inl _]) (rest := []) dm_125_291 mf_92 (Nat.le_of_ble_eq_true rfl) ml_8_83 mi_92 mp_92 (Nat.le_of_ble_eq_true rfl)) rfl (fun b2 hb2 => ?_)
    refine x_if_eq 317 dm_125_294 rfl (fun c3 => ?_) (fun c3 => ?_)
    · exact im_lsub [(0, .inr (some 0)), (6, .inl y6), (7, .inl y7), (8, .inl y8)] (im_sb_c rfl (im_sb_c rfl (im_sb_c rfl (im_sb_c rfl im_sb_n)))) (tg_125_317 y6 y7 y8 b2.2)
    · refine x_aload_n dm_125_297 rfl ?_
      refine x_getI dm_125_298 fl_8_176 rfl rfl rfl ?_
      refine x_istore dm_125_301 (Nat.le_of_ble_eq_true rfl) ?_
      refine x_aload_n dm_125_303 rfl ?_
      refine x_dup dm_125_304 ?_
      refine x_getI dm_125_305 fl_8_176 rfl rfl rfl ?_
      refine x_iload dm_125_308 rfl ?_
      refine x_iadd dm_125_310 ?_
      refine x_putIR dm_125_311 fl_8_176 rfl rfl rfl ?_
      refine x_goto 326 dm_125_314 rfl ?_
      exact im_lsub [(0, .inr (some 0)), (8, .inl _)] (im_sb_c rfl (im_sb_c rfl im_sb_n)) (tg_125_326 _ _)
  · exact im_lsub [(0, .inr (some 0)), (6, .inl y6), (7, .inl y7), (8, .inl y8)] (im_sb_c rfl (im_sb_c rfl (im_sb_c rfl (im_sb_c rfl im_sb_n)))) (tg_125_317 y6 y7 y8 M)
def gn_125_190 (y1 : Int32) (y2 : Int32) (y5 : Int32) (y6 : Int32) (y7 : Int32) (M : im_M) : Option (Int32 × im_M) :=
  let M1 : im_M := im_u M 0 30 ((M 0 30) + (1 : Int32)); if y2 = 0 then (some ((1 : Int32), M1)) else (if y2 = (1 : Int32) then (gn_125_326 (0 : Int32) M1) else (if y2 = (2 : Int32) then (if st_ib y1 3 then (if (M1 2 (y1).toNatClampNeg) = 0 then (gn_125_276 y2 y5 y6 y7 (-1 : Int32) M1) else (if st_ib y1 3 then (if (M1 9 (y1).toNatClampNeg) ≤ (M1 0 29) then (gn_125_276 y2 y5 y6 y7 (-1 : Int32) M1) else (if st_ib (((12 : Int32) * y1) + (M1 0 29)) 36 then (let v10 : Int32 := (M1 8 ((((12 : Int32) * y1) + (M1 0 29))).toNatClampNeg); let M11 : im_M := im_u M1 0 29 ((M1 0 29) + (1 : Int32)); gn_125_326 v10 M11) else none)) else none)) else none) else (gn_125_276 y2 y5 y6 y7 (-1 : Int32) M1)))
set_option maxRecDepth 100000 in
set_option maxHeartbeats 4000000 in
theorem tg_125_190 (y1 : Int32) (y2 : Int32) (y5 : Int32) (y6 : Int32) (y7 : Int32) (M : im_M) : im_Go zR_I 2 fm_125 190 [(0, .inr (some 0)), (1, .inl y1), (2, .inl y2), (5, .inl y5), (6, .inl y6), (7, .inl y7)] [] (st_hR M) (gn_125_190 y1 y2 y5 y6 y7 M) := by
  unfold gn_125_190
  refine x_aload_n dm_125_190 rfl ?_
  refine x_dup dm_125_191 ?_
  refine x_getI dm_125_192 fl_8_182 rfl rfl rfl ?_
  refine x_iconst (1) dm_125_195 (by decide) ?_
  refine x_iadd dm_125_196 ?_
  refine x_putIR dm_125_197 fl_8_182 rfl rfl rfl ?_
  refine x_iload_n dm_125_200 rfl ?_
  refine x_if_ne 206 dm_125_201 rfl (fun c2 => ?_) (fun c2 => ?_)
  · refine x_iconst (1) dm_125_204 (by decide) ?_
    exact x_iretR dm_125_205 rfl
  · refine x_iconst (-1) dm_125_206 (by decide) ?_
    refine x_istore dm_125_207 (Nat.le_of_ble_eq_true rfl) ?_
    refine x_iload_n dm_125_209 rfl ?_
    refine x_iconst (1) dm_125_210 (by decide) ?_
    refine x_icmp_ne 220 dm_125_211 rfl (fun c3 => ?_) (fun c3 => ?_)
    · refine x_iconst (0) dm_125_214 (by decide) ?_
      refine x_istore dm_125_215 (Nat.le_of_ble_eq_true rfl) ?_
      refine x_goto 326 dm_125_217 rfl ?_
      exact im_lsub [(0, .inr (some 0)), (8, .inl (0 : Int32))] (im_sb_c rfl (im_sb_c rfl im_sb_n)) (tg_125_326 (0 : Int32) _)
    · refine x_iload_n dm_125_220 rfl ?_
      refine x_iconst (2) dm_125_221 (by decide) ?_
      refine x_icmp_ne 276 dm_125_222 rfl (fun c4 => ?_) (fun c4 => ?_)
      · refine x_aload_n dm_125_225 rfl ?_
        refine x_getRC dm_125_226 fl_8_13 rfl rfl rfl rfl ?_
        refine x_iload_n dm_125_229 rfl ?_
        refine im_chk _ (fun hi5 => ?_)
        refine x_ialoadX _ rfl dm_125_230 rfl (mk_in rfl hi5) ?_
        refine x_if_eq 276 dm_125_231 rfl (fun c6 => ?_) (fun c6 => ?_)
        · exact im_lsub [(0, .inr (some 0)), (2, .inl y2), (5, .inl y5), (6, .inl y6), (7, .inl y7), (8, .inl (-1 : Int32))] (im_sb_c rfl (im_sb_c rfl (im_sb_c rfl (im_sb_c rfl (im_sb_c rfl (im_sb_c rfl im_sb_n)))))) (tg_125_276 y2 y5 y6 y7 (-1 : Int32) _)
        · refine x_aload_n dm_125_234 rfl ?_
          refine x_getI dm_125_235 fl_8_179 rfl rfl rfl ?_
          refine x_aload_n dm_125_238 rfl ?_
          refine x_getRC dm_125_239 fl_8_34 rfl rfl rfl rfl ?_
          refine x_iload_n dm_125_242 rfl ?_
          refine im_chk _ (fun hi7 => ?_)
          refine x_ialoadX _ rfl dm_125_243 rfl (mk_in rfl hi7) ?_
          refine x_icmp_ge 276 dm_125_244 rfl (fun c8 => ?_) (fun c8 => ?_)
          · exact im_lsub [(0, .inr (some 0)), (2, .inl y2), (5, .inl y5), (6, .inl y6), (7, .inl y7), (8, .inl (-1 : Int32))] (im_sb_c rfl (im_sb_c rfl (im_sb_c rfl (im_sb_c rfl (im_sb_c rfl (im_sb_c rfl im_sb_n)))))) (tg_125_276 y2 y5 y6 y7 (-1 : Int32) _)
          · refine x_aload_n dm_125_247 rfl ?_
            refine x_getRC dm_125_248 fl_8_31 rfl rfl rfl rfl ?_
            refine x_bipush (12) dm_125_251 (by decide) ?_
            refine x_iload_n dm_125_253 rfl ?_
            refine x_imul dm_125_254 ?_
            refine x_aload_n dm_125_255 rfl ?_
            refine x_getI dm_125_256 fl_8_179 rfl rfl rfl ?_
            refine x_iadd dm_125_259 ?_
            refine im_chk _ (fun hi9 => ?_)
            refine x_ialoadX _ rfl dm_125_260 rfl (mk_in rfl hi9) ?_
            refine x_istore dm_125_261 (Nat.le_of_ble_eq_true rfl) ?_
            refine x_aload_n dm_125_263 rfl ?_
            refine x_dup dm_125_264 ?_
            refine x_getI dm_125_265 fl_8_179 rfl rfl rfl ?_
            refine x_iconst (1) dm_125_268 (by decide) ?_
            refine x_iadd dm_125_269 ?_
            refine x_putIR dm_125_270 fl_8_179 rfl rfl rfl ?_
            refine x_goto 326 dm_125_273 rfl ?_
            exact im_lsub [(0, .inr (some 0)), (8, .inl _)] (im_sb_c rfl (im_sb_c rfl im_sb_n)) (tg_125_326 _ _)
      · exact im_lsub [(0, .inr (some 0)), (2, .inl y2), (5, .inl y5), (6, .inl y6), (7, .inl y7), (8, .inl (-1 : Int32))] (im_sb_c rfl (im_sb_c rfl (im_sb_c rfl (im_sb_c rfl (im_sb_c rfl (im_sb_c rfl im_sb_n)))))) (tg_125_276 y2 y5 y6 y7 (-1 : Int32) _)
def gn_125_139 (y1 : Int32) (y2 : Int32) (y5 : Int32) (y6 : Int32) (y7 : Int32) (M : im_M) : Option (Int32 × im_M) :=
  if (16 : Int32) ≤ (M 0 30) then (gn_125_190 y1 y2 y5 y6 y7 M) else (if st_ib ((3 : Int32) * (M 0 30)) 48 then (let M3 : im_M := im_u M 24 (((3 : Int32) * (M 0 30))).toNatClampNeg y2; if st_ib (((3 : Int32) * (M3 0 30)) + (1 : Int32)) 48 then (let M5 : im_M := im_u M3 24 ((((3 : Int32) * (M3 0 30)) + (1 : Int32))).toNatClampNeg y5; if st_ib (((3 : Int32) * (M5 0 30)) + (2 : Int32)) 48 then (let M7 : im_M := im_u M5 24 ((((3 : Int32) * (M5 0 30)) + (2 : Int32))).toNatClampNeg y6; gn_125_190 y1 y2 y5 y6 y7 M7) else none) else none) else none)
set_option maxRecDepth 100000 in
set_option maxHeartbeats 4000000 in
theorem tg_125_139 (y1 : Int32) (y2 : Int32) (y5 : Int32) (y6 : Int32) (y7 : Int32) (M : im_M) : im_Go zR_I 2 fm_125 139 [(0, .inr (some 0)), (1, .inl y1), (2, .inl y2), (5, .inl y5), (6, .inl y6), (7, .inl y7)] [] (st_hR M) (gn_125_139 y1 y2 y5 y6 y7 M) := by
  unfold gn_125_139
  refine x_aload_n dm_125_139 rfl ?_
  refine x_getI dm_125_140 fl_8_182 rfl rfl rfl ?_
  refine x_bipush (16) dm_125_143 (by decide) ?_
  refine x_icmp_ge 190 dm_125_145 rfl (fun c1 => ?_) (fun c1 => ?_)
  · exact im_lsub [(0, .inr (some 0)), (1, .inl y1), (2, .inl y2), (5, .inl y5), (6, .inl y6), (7, .inl y7)] (im_sb_c rfl (im_sb_c rfl (im_sb_c rfl (im_sb_c rfl (im_sb_c rfl (im_sb_c rfl im_sb_n)))))) (tg_125_190 y1 y2 y5 y6 y7 M)
  · refine x_aload_n dm_125_148 rfl ?_
    refine x_getRC dm_125_149 fl_8_80 rfl rfl rfl rfl ?_
    refine x_iconst (3) dm_125_152 (by decide) ?_
    refine x_aload_n dm_125_153 rfl ?_
    refine x_getI dm_125_154 fl_8_182 rfl rfl rfl ?_
    refine x_imul dm_125_157 ?_
    refine x_iload_n dm_125_158 rfl ?_
    refine im_chk _ (fun hi2 => ?_)
    refine x_iastoreR _ rfl dm_125_159 rfl (mk_in rfl hi2) ?_
    refine x_aload_n dm_125_160 rfl ?_
    refine x_getRC dm_125_161 fl_8_80 rfl rfl rfl rfl ?_
    refine x_iconst (3) dm_125_164 (by decide) ?_
    refine x_aload_n dm_125_165 rfl ?_
    refine x_getI dm_125_166 fl_8_182 rfl rfl rfl ?_
    refine x_imul dm_125_169 ?_
    refine x_iconst (1) dm_125_170 (by decide) ?_
    refine x_iadd dm_125_171 ?_
    refine x_iload dm_125_172 rfl ?_
    refine im_chk _ (fun hi4 => ?_)
    refine x_iastoreR _ rfl dm_125_174 rfl (mk_in rfl hi4) ?_
    refine x_aload_n dm_125_175 rfl ?_
    refine x_getRC dm_125_176 fl_8_80 rfl rfl rfl rfl ?_
    refine x_iconst (3) dm_125_179 (by decide) ?_
    refine x_aload_n dm_125_180 rfl ?_
    refine x_getI dm_125_181 fl_8_182 rfl rfl rfl ?_
    refine x_imul dm_125_184 ?_
    refine x_iconst (2) dm_125_185 (by decide) ?_
    refine x_iadd dm_125_186 ?_
    refine x_iload dm_125_187 rfl ?_
    refine im_chk _ (fun hi6 => ?_)
    refine x_iastoreR _ rfl dm_125_189 rfl (mk_in rfl hi6) ?_
    exact im_lsub [(0, .inr (some 0)), (1, .inl y1), (2, .inl y2), (5, .inl y5), (6, .inl y6), (7, .inl y7)] (im_sb_c rfl (im_sb_c rfl (im_sb_c rfl (im_sb_c rfl (im_sb_c rfl (im_sb_c rfl im_sb_n)))))) (tg_125_190 y1 y2 y5 y6 y7 _)
def gn_125_110 (y1 : Int32) (y2 : Int32) (y5 : Int32) (y6 : Int32) (s0 : Int32) (M : im_M) : Option (Int32 × im_M) :=
  if s0 = 0 then (gn_125_139 y1 y2 y5 y6 s0 M) else ((gn_121 ((8 : Int32) + y5) (((8 : Int32) + y5) + y6) M).bind fun b2 => if b2.1 = 0 then (gn_125_139 y1 y2 y5 y6 s0 b2.2) else (some ((3 : Int32), b2.2)))
set_option maxRecDepth 100000 in
set_option maxHeartbeats 4000000 in
theorem tg_125_110 (y1 : Int32) (y2 : Int32) (y5 : Int32) (y6 : Int32) (s0 : Int32) (M : im_M) : im_Go zR_I 2 fm_125 110 [(0, .inr (some 0)), (1, .inl y1), (2, .inl y2), (5, .inl y5), (6, .inl y6)] [.inl s0] (st_hR M) (gn_125_110 y1 y2 y5 y6 s0 M) := by
  unfold gn_125_110
  refine x_istore dm_125_110 (Nat.le_of_ble_eq_true rfl) ?_
  refine x_iload dm_125_112 rfl ?_
  refine x_if_eq 139 dm_125_114 rfl (fun c1 => ?_) (fun c1 => ?_)
  · exact im_lsub [(0, .inr (some 0)), (1, .inl y1), (2, .inl y2), (5, .inl y5), (6, .inl y6), (7, .inl s0)] (im_sb_c rfl (im_sb_c rfl (im_sb_c rfl (im_sb_c rfl (im_sb_c rfl (im_sb_c rfl im_sb_n)))))) (tg_125_139 y1 y2 y5 y6 s0 M)
  · refine x_aload_n dm_125_117 rfl ?_
    refine x_bipush (8) dm_125_118 (by decide) ?_
    refine x_iload dm_125_120 rfl ?_
    refine x_iadd dm_125_122 ?_
    refine x_bipush (8) dm_125_123 (by decide) ?_
    refine x_iload dm_125_125 rfl ?_
    refine x_iadd dm_125_127 ?_
    refine x_iload dm_125_128 rfl ?_
    refine x_iadd dm_125_130 ?_
    refine im_callRI mf_121 rfl (tg_121 _ _ M) (im_runV (as := [.inl _, .inl _]) (rest := []) dm_125_131 mf_121 (Nat.le_of_ble_eq_true rfl) ml_8_192 mi_121 ms_121 mp_121 (Nat.le_of_ble_eq_true rfl) rfl rfl ⟨_, _, rfl⟩) rfl (fun b2 hb2 => ?_)
    refine x_if_eq 139 dm_125_134 rfl (fun c3 => ?_) (fun c3 => ?_)
    · exact im_lsub [(0, .inr (some 0)), (1, .inl y1), (2, .inl y2), (5, .inl y5), (6, .inl y6), (7, .inl s0)] (im_sb_c rfl (im_sb_c rfl (im_sb_c rfl (im_sb_c rfl (im_sb_c rfl (im_sb_c rfl im_sb_n)))))) (tg_125_139 y1 y2 y5 y6 s0 b2.2)
    · refine x_iconst (3) dm_125_137 (by decide) ?_
      exact x_iretR dm_125_138 rfl
def gn_125_109 (y1 : Int32) (y2 : Int32) (y5 : Int32) (y6 : Int32) (M : im_M) : Option (Int32 × im_M) :=
  gn_125_110 y1 y2 y5 y6 (0 : Int32) M
set_option maxRecDepth 100000 in
set_option maxHeartbeats 4000000 in
theorem tg_125_109 (y1 : Int32) (y2 : Int32) (y5 : Int32) (y6 : Int32) (M : im_M) : im_Go zR_I 2 fm_125 109 [(0, .inr (some 0)), (1, .inl y1), (2, .inl y2), (5, .inl y5), (6, .inl y6)] [] (st_hR M) (gn_125_109 y1 y2 y5 y6 M) := by
  unfold gn_125_109
  refine x_iconst (0) dm_125_109 (by decide) ?_
  exact im_lsub [(0, .inr (some 0)), (1, .inl y1), (2, .inl y2), (5, .inl y5), (6, .inl y6)] (im_sb_c rfl (im_sb_c rfl (im_sb_c rfl (im_sb_c rfl (im_sb_c rfl im_sb_n))))) (tg_125_110 y1 y2 y5 y6 (0 : Int32) M)
def gn_125_88 (y1 : Int32) (y2 : Int32) (y5 : Int32) (s0 : Int32) (M : im_M) : Option (Int32 × im_M) :=
  if y2 = (4 : Int32) then ((gn_115 y5 s0 M).bind fun b2 => if b2.1 = 0 then (gn_125_109 y1 y2 y5 s0 b2.2) else (gn_125_110 y1 y2 y5 s0 (1 : Int32) b2.2)) else (gn_125_109 y1 y2 y5 s0 M)
set_option maxRecDepth 100000 in
set_option maxHeartbeats 4000000 in
theorem tg_125_88 (y1 : Int32) (y2 : Int32) (y5 : Int32) (s0 : Int32) (M : im_M) : im_Go zR_I 2 fm_125 88 [(0, .inr (some 0)), (1, .inl y1), (2, .inl y2), (5, .inl y5)] [.inl s0] (st_hR M) (gn_125_88 y1 y2 y5 s0 M) := by
  unfold gn_125_88
  refine x_istore dm_125_88 (Nat.le_of_ble_eq_true rfl) ?_
  refine x_iload_n dm_125_90 rfl ?_
  refine x_iconst (4) dm_125_91 (by decide) ?_
  refine x_icmp_ne 109 dm_125_92 rfl (fun c1 => ?_) (fun c1 => ?_)
  · refine x_iload dm_125_95 rfl ?_
    refine x_iload dm_125_97 rfl ?_
    refine im_callRI mf_115 rfl (tg_115 y5 s0 M) (im_runS (as := [.inl y5, .inl s0]) (rest := []) dm_125_99 mf_115 (Nat.le_of_ble_eq_true rfl) ml_8_151 mi_115 mp_115 (Nat.le_of_ble_eq_true rfl)) rfl (fun b2 hb2 => ?_)
    refine x_if_eq 109 dm_125_102 rfl (fun c3 => ?_) (fun c3 => ?_)
    · exact im_lsub [(0, .inr (some 0)), (1, .inl y1), (2, .inl y2), (5, .inl y5), (6, .inl s0)] (im_sb_c rfl (im_sb_c rfl (im_sb_c rfl (im_sb_c rfl (im_sb_c rfl im_sb_n))))) (tg_125_109 y1 y2 y5 s0 b2.2)
    · refine x_iconst (1) dm_125_105 (by decide) ?_
      refine x_goto 110 dm_125_106 rfl ?_
      exact im_lsub [(0, .inr (some 0)), (1, .inl y1), (2, .inl y2), (5, .inl y5), (6, .inl s0)] (im_sb_c rfl (im_sb_c rfl (im_sb_c rfl (im_sb_c rfl (im_sb_c rfl im_sb_n))))) (tg_125_110 y1 y2 y5 s0 (1 : Int32) b2.2)
  · exact im_lsub [(0, .inr (some 0)), (1, .inl y1), (2, .inl y2), (5, .inl y5), (6, .inl s0)] (im_sb_c rfl (im_sb_c rfl (im_sb_c rfl (im_sb_c rfl (im_sb_c rfl im_sb_n))))) (tg_125_109 y1 y2 y5 s0 M)
def gn_125_71 (y1 : Int32) (y2 : Int32) (y4 : Int32) (s0 : Int32) (M : im_M) : Option (Int32 × im_M) :=
  if y4 = 0 then (gn_125_88 y1 y2 s0 (0 : Int32) M) else (gn_125_88 y1 y2 s0 (M 22 2) M)
set_option maxRecDepth 100000 in
set_option maxHeartbeats 4000000 in
theorem tg_125_71 (y1 : Int32) (y2 : Int32) (y4 : Int32) (s0 : Int32) (M : im_M) : im_Go zR_I 2 fm_125 71 [(0, .inr (some 0)), (1, .inl y1), (2, .inl y2), (4, .inl y4)] [.inl s0] (st_hR M) (gn_125_71 y1 y2 y4 s0 M) := by
  unfold gn_125_71
  refine x_istore dm_125_71 (Nat.le_of_ble_eq_true rfl) ?_
  refine x_iload dm_125_73 rfl ?_
  refine x_if_eq 87 dm_125_75 rfl (fun c1 => ?_) (fun c1 => ?_)
  · refine x_iconst (0) dm_125_87 (by decide) ?_
    exact im_lsub [(0, .inr (some 0)), (1, .inl y1), (2, .inl y2), (5, .inl s0)] (im_sb_c rfl (im_sb_c rfl (im_sb_c rfl (im_sb_c rfl im_sb_n)))) (tg_125_88 y1 y2 s0 (0 : Int32) M)
  · refine x_aload_n dm_125_78 rfl ?_
    refine x_getRC dm_125_79 fl_8_74 rfl rfl rfl rfl ?_
    refine x_iconst (2) dm_125_82 (by decide) ?_
    refine x_ialoadX 2 (by decide) dm_125_83 rfl (mk_in rfl (by decide)) ?_
    refine x_goto 88 dm_125_84 rfl ?_
    exact im_lsub [(0, .inr (some 0)), (1, .inl y1), (2, .inl y2), (5, .inl s0)] (im_sb_c rfl (im_sb_c rfl (im_sb_c rfl (im_sb_c rfl im_sb_n)))) (tg_125_88 y1 y2 s0 _ M)
def gn_125_57 (y1 : Int32) (y2 : Int32) (y3 : Int32) (y4 : Int32) (M : im_M) : Option (Int32 × im_M) :=
  if y3 = 0 then (gn_125_71 y1 y2 y4 (0 : Int32) M) else (gn_125_71 y1 y2 y4 (M 22 1) M)
set_option maxRecDepth 100000 in
set_option maxHeartbeats 4000000 in
theorem tg_125_57 (y1 : Int32) (y2 : Int32) (y3 : Int32) (y4 : Int32) (M : im_M) : im_Go zR_I 2 fm_125 57 [(0, .inr (some 0)), (1, .inl y1), (2, .inl y2), (3, .inl y3), (4, .inl y4)] [] (st_hR M) (gn_125_57 y1 y2 y3 y4 M) := by
  unfold gn_125_57
  refine x_iload_n dm_125_57 rfl ?_
  refine x_if_eq 70 dm_125_58 rfl (fun c1 => ?_) (fun c1 => ?_)
  · refine x_iconst (0) dm_125_70 (by decide) ?_
    exact im_lsub [(0, .inr (some 0)), (1, .inl y1), (2, .inl y2), (4, .inl y4)] (im_sb_c rfl (im_sb_c rfl (im_sb_c rfl (im_sb_c rfl im_sb_n)))) (tg_125_71 y1 y2 y4 (0 : Int32) M)
  · refine x_aload_n dm_125_61 rfl ?_
    refine x_getRC dm_125_62 fl_8_74 rfl rfl rfl rfl ?_
    refine x_iconst (1) dm_125_65 (by decide) ?_
    refine x_ialoadX 1 (by decide) dm_125_66 rfl (mk_in rfl (by decide)) ?_
    refine x_goto 71 dm_125_67 rfl ?_
    exact im_lsub [(0, .inr (some 0)), (1, .inl y1), (2, .inl y2), (4, .inl y4)] (im_sb_c rfl (im_sb_c rfl (im_sb_c rfl (im_sb_c rfl im_sb_n)))) (tg_125_71 y1 y2 y4 _ M)
def gn_125_41 (y1 : Int32) (y2 : Int32) (y3 : Int32) (y4 : Int32) (M : im_M) : Option (Int32 × im_M) :=
  if y4 = 0 then (gn_125_57 y1 y2 y3 y4 M) else (if (M 23 2) = 0 then (gn_125_57 y1 y2 y3 y4 M) else (some ((3 : Int32), M)))
set_option maxRecDepth 100000 in
set_option maxHeartbeats 4000000 in
theorem tg_125_41 (y1 : Int32) (y2 : Int32) (y3 : Int32) (y4 : Int32) (M : im_M) : im_Go zR_I 2 fm_125 41 [(0, .inr (some 0)), (1, .inl y1), (2, .inl y2), (3, .inl y3), (4, .inl y4)] [] (st_hR M) (gn_125_41 y1 y2 y3 y4 M) := by
  unfold gn_125_41
  refine x_iload dm_125_41 rfl ?_
  refine x_if_eq 57 dm_125_43 rfl (fun c1 => ?_) (fun c1 => ?_)
  · exact im_lsub [(0, .inr (some 0)), (1, .inl y1), (2, .inl y2), (3, .inl y3), (4, .inl y4)] (im_sb_c rfl (im_sb_c rfl (im_sb_c rfl (im_sb_c rfl (im_sb_c rfl im_sb_n))))) (tg_125_57 y1 y2 y3 y4 M)
  · refine x_aload_n dm_125_46 rfl ?_
    refine x_getRC dm_125_47 fl_8_77 rfl rfl rfl rfl ?_
    refine x_iconst (2) dm_125_50 (by decide) ?_
    refine x_baloadX 2 (by decide) dm_125_51 rfl (mk_in rfl (by decide)) ?_
    refine x_if_eq 57 dm_125_52 rfl (fun c2 => ?_) (fun c2 => ?_)
    · exact im_lsub [(0, .inr (some 0)), (1, .inl y1), (2, .inl y2), (3, .inl y3), (4, .inl y4)] (im_sb_c rfl (im_sb_c rfl (im_sb_c rfl (im_sb_c rfl (im_sb_c rfl im_sb_n))))) (tg_125_57 y1 y2 y3 y4 M)
    · refine x_iconst (3) dm_125_55 (by decide) ?_
      exact x_iretR dm_125_56 rfl
def gn_125_19 (y1 : Int32) (y2 : Int32) (s0 : Int32) (M : im_M) : Option (Int32 × im_M) :=
  (gn_92 y2 (4 : Int32) (5 : Int32) M).bind fun b1 => if s0 = 0 then (gn_125_41 y1 y2 s0 b1.1 b1.2) else (if (b1.2 23 1) = 0 then (gn_125_41 y1 y2 s0 b1.1 b1.2) else (some ((3 : Int32), b1.2)))
set_option maxRecDepth 100000 in
set_option maxHeartbeats 4000000 in
theorem tg_125_19 (y1 : Int32) (y2 : Int32) (s0 : Int32) (M : im_M) : im_Go zR_I 2 fm_125 19 [(0, .inr (some 0)), (1, .inl y1), (2, .inl y2)] [.inl s0] (st_hR M) (gn_125_19 y1 y2 s0 M) := by
  unfold gn_125_19
  refine x_istore_n dm_125_19 (Nat.le_of_ble_eq_true rfl) ?_
  refine x_iload_n dm_125_20 rfl ?_
  refine x_iconst (4) dm_125_21 (by decide) ?_
  refine x_iconst (5) dm_125_22 (by decide) ?_
  refine im_callRI mf_92 rfl (tg_92 y2 (4 : Int32) (5 : Int32) M) (im_runS (as := [.inl y2, .inl (4 : Int32), .inl (5 : Int32)]) (rest := []) dm_125_23 mf_92 (Nat.le_of_ble_eq_true rfl) ml_8_83 mi_92 mp_92 (Nat.le_of_ble_eq_true rfl)) rfl (fun b1 hb1 => ?_)
  refine x_istore dm_125_26 (Nat.le_of_ble_eq_true rfl) ?_
  refine x_iload_n dm_125_28 rfl ?_
  refine x_if_eq 41 dm_125_29 rfl (fun c2 => ?_) (fun c2 => ?_)
  · exact im_lsub [(0, .inr (some 0)), (1, .inl y1), (2, .inl y2), (3, .inl s0), (4, .inl b1.1)] (im_sb_c rfl (im_sb_c rfl (im_sb_c rfl (im_sb_c rfl (im_sb_c rfl im_sb_n))))) (tg_125_41 y1 y2 s0 b1.1 b1.2)
  · refine x_aload_n dm_125_32 rfl ?_
    refine x_getRC dm_125_33 fl_8_77 rfl rfl rfl rfl ?_
    refine x_iconst (1) dm_125_36 (by decide) ?_
    refine x_baloadX 1 (by decide) dm_125_37 rfl (mk_in rfl (by decide)) ?_
    refine x_if_ne 55 dm_125_38 rfl (fun c3 => ?_) (fun c3 => ?_)
    · exact im_lsub [(0, .inr (some 0)), (1, .inl y1), (2, .inl y2), (3, .inl s0), (4, .inl b1.1)] (im_sb_c rfl (im_sb_c rfl (im_sb_c rfl (im_sb_c rfl (im_sb_c rfl im_sb_n))))) (tg_125_41 y1 y2 s0 b1.1 b1.2)
    · refine x_iconst (3) dm_125_55 (by decide) ?_
      exact x_iretR dm_125_56 rfl
def gn_125_14 (y1 : Int32) (y2 : Int32) (M : im_M) : Option (Int32 × im_M) :=
  gn_125_19 y1 y2 (1 : Int32) M
set_option maxRecDepth 100000 in
set_option maxHeartbeats 4000000 in
theorem tg_125_14 (y1 : Int32) (y2 : Int32) (M : im_M) : im_Go zR_I 2 fm_125 14 [(0, .inr (some 0)), (1, .inl y1), (2, .inl y2)] [] (st_hR M) (gn_125_14 y1 y2 M) := by
  unfold gn_125_14
  refine x_iconst (1) dm_125_14 (by decide) ?_
  refine x_goto 19 dm_125_15 rfl ?_
  exact im_lsub [(0, .inr (some 0)), (1, .inl y1), (2, .inl y2)] (im_sb_c rfl (im_sb_c rfl (im_sb_c rfl im_sb_n))) (tg_125_19 y1 y2 (1 : Int32) M)
/-- FencedModulesModel.ask(II)I -/
def gn_125 (x1 : Int32) (x2 : Int32) (M : im_M) : Option (Int32 × im_M) :=
  if x2 = (1 : Int32) then (gn_125_14 x1 x2 M) else ((gn_92 x2 (3 : Int32) (5 : Int32) M).bind fun b2 => if b2.1 = 0 then (gn_125_19 x1 x2 (0 : Int32) b2.2) else (gn_125_14 x1 x2 b2.2))
set_option maxRecDepth 100000 in
set_option maxHeartbeats 4000000 in
theorem tg_125 (x1 : Int32) (x2 : Int32) (M : im_M) : im_Go zR_I 2 fm_125 0 (im_en 0 [.inr (some 0), .inl x1, .inl x2]) [] (st_hR M) (gn_125 x1 x2 M) := by
  unfold gn_125
  refine x_iload_n dm_125_0 rfl ?_
  refine x_iconst (1) dm_125_1 (by decide) ?_
  refine x_icmp_eq 14 dm_125_2 rfl (fun c1 => ?_) (fun c1 => ?_)
  · exact im_lsub [(0, .inr (some 0)), (1, .inl x1), (2, .inl x2)] (im_sb_c rfl (im_sb_c rfl (im_sb_c rfl im_sb_n))) (tg_125_14 x1 x2 M)
  · refine x_iload_n dm_125_5 rfl ?_
    refine x_iconst (3) dm_125_6 (by decide) ?_
    refine x_iconst (5) dm_125_7 (by decide) ?_
    refine im_callRI mf_92 rfl (tg_92 x2 (3 : Int32) (5 : Int32) M) (im_runS (as := [.inl x2, .inl (3 : Int32), .inl (5 : Int32)]) (rest := []) dm_125_8 mf_92 (Nat.le_of_ble_eq_true rfl) ml_8_83 mi_92 mp_92 (Nat.le_of_ble_eq_true rfl)) rfl (fun b2 hb2 => ?_)
    refine x_if_eq 18 dm_125_11 rfl (fun c3 => ?_) (fun c3 => ?_)
    · refine x_iconst (0) dm_125_18 (by decide) ?_
      exact im_lsub [(0, .inr (some 0)), (1, .inl x1), (2, .inl x2)] (im_sb_c rfl (im_sb_c rfl (im_sb_c rfl im_sb_n))) (tg_125_19 x1 x2 (0 : Int32) b2.2)
    · exact im_lsub [(0, .inr (some 0)), (1, .inl x1), (2, .inl x2)] (im_sb_c rfl (im_sb_c rfl (im_sb_c rfl im_sb_n))) (tg_125_14 x1 x2 b2.2)
def gn_102_25  : Nat → Int32 → Int32 → im_M → Option (Int32 × im_M)
  | 0, _, _, _ => none
  | n + 1, y1, y2, M =>
    if (M 0 16) ≤ y2 then ((gn_100 (0 : Int32) M).bind fun b2 => some ((b2 0 23), b2)) else ((gn_103 y2 y1 M).bind fun b3 => let v4 : Int32 := (y2 + (1 : Int32)); gn_102_25 n y1 v4 b3)
set_option maxRecDepth 100000 in
set_option maxHeartbeats 4000000 in
theorem tg_102_25  : ∀ (n : Nat) (y1 : Int32) (y2 : Int32) (M : im_M), im_Go zR_I 3 fm_102 25 [(0, .inr (some 0)), (1, .inl y1), (2, .inl y2)] [] (st_hR M) (gn_102_25  n y1 y2 M)
  | 0, y1, y2, M => im_none
  | n + 1, y1, y2, M => by
    have ih := tg_102_25  n
    unfold gn_102_25
    refine x_iload_n dm_102_25 rfl ?_
    refine x_aload_n dm_102_26 rfl ?_
    refine x_getI dm_102_27 fl_8_89 rfl rfl rfl ?_
    refine x_icmp_ge 45 dm_102_30 rfl (fun c1 => ?_) (fun c1 => ?_)
    · refine x_aload_n dm_102_45 rfl ?_
      refine x_iconst (0) dm_102_46 (by decide) ?_
      refine im_callRV mf_100 rfl (tg_100 (0 : Int32) M) (im_runV (as := [.inl (0 : Int32)]) (rest := []) dm_102_47 mf_100 (Nat.le_of_ble_eq_true rfl) ml_8_112 mi_100 ms_100 mp_100 (Nat.le_of_ble_eq_true rfl) rfl rfl ⟨_, _, rfl⟩) rfl (fun b2 hb2 => ?_)
      refine x_aload_n dm_102_50 rfl ?_
      refine x_getI dm_102_51 fl_8_93 rfl rfl rfl ?_
      exact x_iretR dm_102_54 rfl
    · refine x_aload_n dm_102_33 rfl ?_
      refine x_iload_n dm_102_34 rfl ?_
      refine x_iload_n dm_102_35 rfl ?_
      refine im_callRV mf_103 rfl (tg_103 y2 y1 M) (im_runV (as := [.inl y2, .inl y1]) (rest := []) dm_102_36 mf_103 (Nat.le_of_ble_eq_true rfl) ml_8_108 mi_103 ms_103 mp_103 (Nat.le_of_ble_eq_true rfl) rfl rfl ⟨_, _, rfl⟩) rfl (fun b3 hb3 => ?_)
      refine x_iinc (1) dm_102_39 rfl (by decide) (Nat.le_of_ble_eq_true rfl) ?_
      refine x_goto 25 dm_102_42 rfl ?_
      exact im_lsub [(0, .inr (some 0)), (1, .inl y1), (2, .inl _)] (im_sb_c rfl (im_sb_c rfl (im_sb_c rfl im_sb_n))) (ih y1 _ b3)
/-- FencedModulesModel.rewrite(I)I -/
def gn_102 (x1 : Int32) (M : im_M) : Option (Int32 × im_M) :=
  (gn_92 x1 (0 : Int32) (2 : Int32) M).bind fun b1 => if b1.1 = 0 then (some ((-1 : Int32), b1.2)) else ((gn_98 b1.2).bind fun b3 => if b3.1 = 0 then (some ((-1 : Int32), b3.2)) else (let M5 : im_M := im_u b3.2 0 23 (0 : Int32); gn_102_25 1000 x1 (0 : Int32) M5))
set_option maxRecDepth 100000 in
set_option maxHeartbeats 4000000 in
theorem tg_102 (x1 : Int32) (M : im_M) : im_Go zR_I 3 fm_102 0 (im_en 0 [.inr (some 0), .inl x1]) [] (st_hR M) (gn_102 x1 M) := by
  unfold gn_102
  refine x_iload_n dm_102_0 rfl ?_
  refine x_iconst (0) dm_102_1 (by decide) ?_
  refine x_iconst (2) dm_102_2 (by decide) ?_
  refine im_callRI mf_92 rfl (tg_92 x1 (0 : Int32) (2 : Int32) M) (im_runS (as := [.inl x1, .inl (0 : Int32), .inl (2 : Int32)]) (rest := []) dm_102_3 mf_92 (Nat.le_of_ble_eq_true rfl) ml_8_83 mi_92 mp_92 (Nat.le_of_ble_eq_true rfl)) rfl (fun b1 hb1 => ?_)
  refine x_if_eq 16 dm_102_6 rfl (fun c2 => ?_) (fun c2 => ?_)
  · refine x_iconst (-1) dm_102_16 (by decide) ?_
    exact x_iretR dm_102_17 rfl
  · refine x_aload_n dm_102_9 rfl ?_
    refine im_callRI mf_98 rfl (tg_98 b1.2) (im_runV (as := []) (rest := []) dm_102_10 mf_98 (Nat.le_of_ble_eq_true rfl) ml_8_104 mi_98 ms_98 mp_98 (Nat.le_of_ble_eq_true rfl) rfl rfl ⟨_, _, rfl⟩) rfl (fun b3 hb3 => ?_)
    refine x_if_ne 18 dm_102_13 rfl (fun c4 => ?_) (fun c4 => ?_)
    · refine x_iconst (-1) dm_102_16 (by decide) ?_
      exact x_iretR dm_102_17 rfl
    · refine x_aload_n dm_102_18 rfl ?_
      refine x_iconst (0) dm_102_19 (by decide) ?_
      refine x_putIR dm_102_20 fl_8_93 rfl rfl rfl ?_
      refine x_iconst (0) dm_102_23 (by decide) ?_
      refine x_istore_n dm_102_24 (Nat.le_of_ble_eq_true rfl) ?_
      exact im_lsub [(0, .inr (some 0)), (1, .inl x1), (2, .inl (0 : Int32))] (im_sb_c rfl (im_sb_c rfl (im_sb_c rfl im_sb_n))) (tg_102_25 1000 x1 (0 : Int32) _)
