def fn_114_380 (j : Nat) (y1 : Int32) (y5 : Int32) (h : im_H) : Option (im_H) :=
  if h.2.1 j = (0, 8) then (((im_gR h j 2)).bind fun q2 => if im_in h 1 q2 (((8 : Int32) * y1) + (1 : Int32)) then (let h4 : im_H := im_pI h q2 ((((8 : Int32) * y1) + (1 : Int32))).toNatClampNeg y5; some h4) else none) else none
set_option maxRecDepth 100000 in
set_option maxHeartbeats 4000000 in
theorem tn_114_380 (j : Nat) (y1 : Int32) (y5 : Int32) (h : im_H) : im_Go im_zV 2 fm_114 380 [(0, .inr (some j)), (1, .inl y1), (5, .inl y5)] [] h (fn_114_380 j y1 y5 h) := by
  unfold fn_114_380
  refine x_aload_n dm_114_380 rfl ?_
  refine im_chk _ (fun hk1 => ?_)
  refine x_getR dm_114_381 fl_8_16 rfl rfl hk1 ?_
  refine x_bipush (8) dm_114_384 (by decide) ?_
  refine x_iload_n dm_114_386 rfl ?_
  refine x_imul dm_114_387 ?_
  refine x_iconst (1) dm_114_388 (by decide) ?_
  refine x_iadd dm_114_389 ?_
  refine x_iload dm_114_390 rfl ?_
  refine im_bind (fun q2 hq2 => ?_)
  refine im_chk _ (fun hi3 => ?_)
  refine x_iastore dm_114_392 hq2 hi3 ?_
  exact x_return dm_114_393 rfl
def fn_114_339 (j : Nat) : Nat → Int32 → Int32 → Int32 → im_H → Option (im_H)
  | 0, _, _, _, _ => none
  | n + 1, y1, y5, y6, h =>
    if h.2.1 j = (0, 8) then (((im_gR h j 6)).bind fun q2 => if im_in h 1 q2 y1 then (if (im_gI h q2 (y1).toNatClampNeg) ≤ y6 then (fn_114_380 j y1 y5 h) else (((im_gR h j 5)).bind fun q5 => if im_in h 1 q5 ((((4 : Int32) * y1) + y6) + (1 : Int32)) then (if im_in h 1 q5 (((4 : Int32) * y1) + y6) then (let h8 : im_H := im_pI h q5 ((((4 : Int32) * y1) + y6)).toNatClampNeg (im_gI h q5 (((((4 : Int32) * y1) + y6) + (1 : Int32))).toNatClampNeg); let v9 : Int32 := (y6 + (1 : Int32)); fn_114_339 j n y1 y5 v9 h8) else none) else none)) else none) else none
set_option maxRecDepth 100000 in
set_option maxHeartbeats 4000000 in
theorem tn_114_339 (j : Nat) : ∀ (n : Nat) (y1 : Int32) (y5 : Int32) (y6 : Int32) (h : im_H), im_Go im_zV 2 fm_114 339 [(0, .inr (some j)), (1, .inl y1), (5, .inl y5), (6, .inl y6)] [] h (fn_114_339 j n y1 y5 y6 h)
  | 0, y1, y5, y6, h => im_none
  | n + 1, y1, y5, y6, h => by
    have ih := tn_114_339 j n
    unfold fn_114_339
    refine x_iload dm_114_339 rfl ?_
    refine x_aload_n dm_114_341 rfl ?_
    refine im_chk _ (fun hk1 => ?_)
    refine x_getR dm_114_342 fl_8_28 rfl rfl hk1 ?_
    refine x_iload_n dm_114_345 rfl ?_
    refine im_bind (fun q2 hq2 => ?_)
    refine im_chk _ (fun hi3 => ?_)
    refine x_iaload dm_114_346 hq2 hi3 ?_
    refine x_icmp_ge 380 dm_114_347 rfl (fun c4 => ?_) (fun c4 => ?_)
    · exact im_lsub [(0, .inr (some j)), (1, .inl y1), (5, .inl y5)] (im_sb_c rfl (im_sb_c rfl (im_sb_c rfl im_sb_n))) (tn_114_380 j y1 y5 h)
    · refine x_aload_n dm_114_350 rfl ?_
      refine x_getR dm_114_351 fl_8_25 rfl rfl hk1 ?_
      refine x_iconst (4) dm_114_354 (by decide) ?_
      refine x_iload_n dm_114_355 rfl ?_
      refine x_imul dm_114_356 ?_
      refine x_iload dm_114_357 rfl ?_
      refine x_iadd dm_114_359 ?_
      refine x_aload_n dm_114_360 rfl ?_
      refine x_getR dm_114_361 fl_8_25 rfl rfl hk1 ?_
      refine x_iconst (4) dm_114_364 (by decide) ?_
      refine x_iload_n dm_114_365 rfl ?_
      refine x_imul dm_114_366 ?_
      refine x_iload dm_114_367 rfl ?_
      refine x_iadd dm_114_369 ?_
      refine x_iconst (1) dm_114_370 (by decide) ?_
      refine x_iadd dm_114_371 ?_
      refine im_bind (fun q5 hq5 => ?_)
      refine im_chk _ (fun hi6 => ?_)
      refine x_iaload dm_114_372 hq5 hi6 ?_
      refine im_chk _ (fun hi7 => ?_)
      refine x_iastore dm_114_373 hq5 hi7 ?_
      refine x_iinc (1) dm_114_374 rfl (by decide) (Nat.le_of_ble_eq_true rfl) ?_
      refine x_goto 339 dm_114_377 rfl ?_
      exact im_lsub [(0, .inr (some j)), (1, .inl y1), (5, .inl y5), (6, .inl _)] (im_sb_c rfl (im_sb_c rfl (im_sb_c rfl (im_sb_c rfl im_sb_n)))) (ih y1 y5 _ _)
def fn_114_301 (j : Nat) (y1 : Int32) (y2 : Int32) (y5 : Int32) (h : im_H) : Option (im_H) :=
  if y2 = (6 : Int32) then (if h.2.1 j = (0, 8) then (((im_gR h j 6)).bind fun q3 => if im_in h 1 q3 y1 then (if (im_gI h q3 (y1).toNatClampNeg) ≤ 0 then (fn_114_380 j y1 y5 h) else (((im_gR h j 5)).bind fun q6 => if im_in h 1 q6 ((4 : Int32) * y1) then (let v8 : Int32 := (im_gI h q6 (((4 : Int32) * y1)).toNatClampNeg); let h9 : im_H := im_pI h q3 (y1).toNatClampNeg ((im_gI h q3 (y1).toNatClampNeg) - (1 : Int32)); fn_114_339 j 1000 y1 v8 (0 : Int32) h9) else none)) else none) else none) else (fn_114_380 j y1 y5 h)
set_option maxRecDepth 100000 in
set_option maxHeartbeats 4000000 in
theorem tn_114_301 (j : Nat) (y1 : Int32) (y2 : Int32) (y5 : Int32) (h : im_H) : im_Go im_zV 2 fm_114 301 [(0, .inr (some j)), (1, .inl y1), (2, .inl y2), (5, .inl y5)] [] h (fn_114_301 j y1 y2 y5 h) := by
  unfold fn_114_301
  refine x_iload_n dm_114_301 rfl ?_
  refine x_bipush (6) dm_114_302 (by decide) ?_
  refine x_icmp_ne 380 dm_114_304 rfl (fun c1 => ?_) (fun c1 => ?_)
  · refine x_aload_n dm_114_307 rfl ?_
    refine im_chk _ (fun hk2 => ?_)
    refine x_getR dm_114_308 fl_8_28 rfl rfl hk2 ?_
    refine x_iload_n dm_114_311 rfl ?_
    refine im_bind (fun q3 hq3 => ?_)
    refine im_chk _ (fun hi4 => ?_)
    refine x_iaload dm_114_312 hq3 hi4 ?_
    refine x_if_le 380 dm_114_313 rfl (fun c5 => ?_) (fun c5 => ?_)
    · exact im_lsub [(0, .inr (some j)), (1, .inl y1), (5, .inl y5)] (im_sb_c rfl (im_sb_c rfl (im_sb_c rfl im_sb_n))) (tn_114_380 j y1 y5 h)
    · refine x_aload_n dm_114_316 rfl ?_
      refine x_getR dm_114_317 fl_8_25 rfl rfl hk2 ?_
      refine x_iconst (4) dm_114_320 (by decide) ?_
      refine x_iload_n dm_114_321 rfl ?_
      refine x_imul dm_114_322 ?_
      refine im_bind (fun q6 hq6 => ?_)
      refine im_chk _ (fun hi7 => ?_)
      refine x_iaload dm_114_323 hq6 hi7 ?_
      refine x_istore dm_114_324 (Nat.le_of_ble_eq_true rfl) ?_
      refine x_aload_n dm_114_326 rfl ?_
      refine x_getR dm_114_327 fl_8_28 rfl rfl hk2 ?_
      refine x_iload_n dm_114_330 rfl ?_
      refine x_dup2 dm_114_331 ?_
      refine x_iaload dm_114_332 hq3 hi4 ?_
      refine x_iconst (1) dm_114_333 (by decide) ?_
      refine x_isub dm_114_334 ?_
      refine x_iastore dm_114_335 hq3 hi4 ?_
      refine x_iconst (0) dm_114_336 (by decide) ?_
      refine x_istore dm_114_337 (Nat.le_of_ble_eq_true rfl) ?_
      exact im_lsub [(0, .inr (some j)), (1, .inl y1), (5, .inl _), (6, .inl (0 : Int32))] (im_sb_c rfl (im_sb_c rfl (im_sb_c rfl (im_sb_c rfl im_sb_n)))) (tn_114_339 j 1000 y1 _ (0 : Int32) _)
  · exact im_lsub [(0, .inr (some j)), (1, .inl y1), (5, .inl y5)] (im_sb_c rfl (im_sb_c rfl (im_sb_c rfl im_sb_n))) (tn_114_380 j y1 y5 h)
def fn_114_235 (j : Nat) (y1 : Int32) (y2 : Int32) (y3 : Int32) (y4 : Int32) (y5 : Int32) (h : im_H) : Option (im_H) :=
  if y2 = (5 : Int32) then ((fn_92 y3 (0 : Int32) (2 : Int32) h).bind fun b2 => if b2.1 = 0 then (fn_114_301 j y1 y2 y5 b2.2) else (if b2.2.2.1 j = (0, 8) then (((im_gR b2.2 j 1)).bind fun q5 => if im_in b2.2 1 q5 y3 then (if (im_gI b2.2 q5 (y3).toNatClampNeg) = 0 then (fn_114_301 j y1 y2 y5 b2.2) else (((im_gR b2.2 j 6)).bind fun q8 => if im_in b2.2 1 q8 y3 then (if (4 : Int32) ≤ (im_gI b2.2 q8 (y3).toNatClampNeg) then (fn_114_301 j y1 y2 y5 b2.2) else (((im_gR b2.2 j 5)).bind fun q11 => if im_in b2.2 1 q11 (((4 : Int32) * y3) + (im_gI b2.2 q8 (y3).toNatClampNeg)) then (let h13 : im_H := im_pI b2.2 q11 ((((4 : Int32) * y3) + (im_gI b2.2 q8 (y3).toNatClampNeg))).toNatClampNeg y4; let h14 : im_H := im_pI h13 q8 (y3).toNatClampNeg ((im_gI h13 q8 (y3).toNatClampNeg) + (1 : Int32)); fn_114_380 j y1 (0 : Int32) h14) else none)) else none)) else none) else none)) else (fn_114_301 j y1 y2 y5 h)
set_option maxRecDepth 100000 in
set_option maxHeartbeats 4000000 in
theorem tn_114_235 (j : Nat) (y1 : Int32) (y2 : Int32) (y3 : Int32) (y4 : Int32) (y5 : Int32) (h : im_H) : im_Go im_zV 2 fm_114 235 [(0, .inr (some j)), (1, .inl y1), (2, .inl y2), (3, .inl y3), (4, .inl y4), (5, .inl y5)] [] h (fn_114_235 j y1 y2 y3 y4 y5 h) := by
  unfold fn_114_235
  refine x_iload_n dm_114_235 rfl ?_
  refine x_iconst (5) dm_114_236 (by decide) ?_
  refine x_icmp_ne 301 dm_114_237 rfl (fun c1 => ?_) (fun c1 => ?_)
  · refine x_iload_n dm_114_240 rfl ?_
    refine x_iconst (0) dm_114_241 (by decide) ?_
    refine x_iconst (2) dm_114_242 (by decide) ?_
    refine im_callI mf_92 rfl (tn_92 y3 (0 : Int32) (2 : Int32) h) (im_runS (as := [.inl y3, .inl (0 : Int32), .inl (2 : Int32)]) (rest := []) dm_114_243 mf_92 (Nat.le_of_ble_eq_true rfl) ml_8_83 mi_92 mp_92 (Nat.le_of_ble_eq_true rfl)) rfl (fun b2 hb2 => ?_)
    refine x_if_eq 301 dm_114_246 rfl (fun c3 => ?_) (fun c3 => ?_)
    · exact im_lsub [(0, .inr (some j)), (1, .inl y1), (2, .inl y2), (5, .inl y5)] (im_sb_c rfl (im_sb_c rfl (im_sb_c rfl (im_sb_c rfl im_sb_n)))) (tn_114_301 j y1 y2 y5 b2.2)
    · refine x_aload_n dm_114_249 rfl ?_
      refine im_chk _ (fun hk4 => ?_)
      refine x_getR dm_114_250 fl_8_13 rfl rfl hk4 ?_
      refine x_iload_n dm_114_253 rfl ?_
      refine im_bind (fun q5 hq5 => ?_)
      refine im_chk _ (fun hi6 => ?_)
      refine x_iaload dm_114_254 hq5 hi6 ?_
      refine x_if_eq 301 dm_114_255 rfl (fun c7 => ?_) (fun c7 => ?_)
      · exact im_lsub [(0, .inr (some j)), (1, .inl y1), (2, .inl y2), (5, .inl y5)] (im_sb_c rfl (im_sb_c rfl (im_sb_c rfl (im_sb_c rfl im_sb_n)))) (tn_114_301 j y1 y2 y5 b2.2)
      · refine x_aload_n dm_114_258 rfl ?_
        refine x_getR dm_114_259 fl_8_28 rfl rfl hk4 ?_
        refine x_iload_n dm_114_262 rfl ?_
        refine im_bind (fun q8 hq8 => ?_)
        refine im_chk _ (fun hi9 => ?_)
        refine x_iaload dm_114_263 hq8 hi9 ?_
        refine x_iconst (4) dm_114_264 (by decide) ?_
        refine x_icmp_ge 301 dm_114_265 rfl (fun c10 => ?_) (fun c10 => ?_)
        · exact im_lsub [(0, .inr (some j)), (1, .inl y1), (2, .inl y2), (5, .inl y5)] (im_sb_c rfl (im_sb_c rfl (im_sb_c rfl (im_sb_c rfl im_sb_n)))) (tn_114_301 j y1 y2 y5 b2.2)
        · refine x_aload_n dm_114_268 rfl ?_
          refine x_getR dm_114_269 fl_8_25 rfl rfl hk4 ?_
          refine x_iconst (4) dm_114_272 (by decide) ?_
          refine x_iload_n dm_114_273 rfl ?_
          refine x_imul dm_114_274 ?_
          refine x_aload_n dm_114_275 rfl ?_
          refine x_getR dm_114_276 fl_8_28 rfl rfl hk4 ?_
          refine x_iload_n dm_114_279 rfl ?_
          refine x_iaload dm_114_280 hq8 hi9 ?_
          refine x_iadd dm_114_281 ?_
          refine x_iload dm_114_282 rfl ?_
          refine im_bind (fun q11 hq11 => ?_)
          refine im_chk _ (fun hi12 => ?_)
          refine x_iastore dm_114_284 hq11 hi12 ?_
          refine x_aload_n dm_114_285 rfl ?_
          refine x_getR dm_114_286 fl_8_28 rfl rfl hk4 ?_
          refine x_iload_n dm_114_289 rfl ?_
          refine x_dup2 dm_114_290 ?_
          refine x_iaload dm_114_291 hq8 hi9 ?_
          refine x_iconst (1) dm_114_292 (by decide) ?_
          refine x_iadd dm_114_293 ?_
          refine x_iastore dm_114_294 hq8 hi9 ?_
          refine x_iconst (0) dm_114_295 (by decide) ?_
          refine x_istore dm_114_296 (Nat.le_of_ble_eq_true rfl) ?_
          refine x_goto 380 dm_114_298 rfl ?_
          exact im_lsub [(0, .inr (some j)), (1, .inl y1), (5, .inl (0 : Int32))] (im_sb_c rfl (im_sb_c rfl (im_sb_c rfl im_sb_n))) (tn_114_380 j y1 (0 : Int32) _)
  · exact im_lsub [(0, .inr (some j)), (1, .inl y1), (2, .inl y2), (5, .inl y5)] (im_sb_c rfl (im_sb_c rfl (im_sb_c rfl (im_sb_c rfl im_sb_n)))) (tn_114_301 j y1 y2 y5 h)
def fn_114_196 (j : Nat) : Nat → Int32 → Int32 → Int32 → Int32 → im_H → Option (im_H)
  | 0, _, _, _, _, _ => none
  | n + 1, y1, y3, y4, y6, h =>
    if y4 ≤ y6 then (fn_114_380 j y1 y4 h) else (if h.2.1 j = (0, 8) then (((im_gR h j 0)).bind fun q3 => if im_in h 1 q3 ((((16 : Int32) * y1) + y3) + y6) then ((fn_112 j y1 (im_gI h q3 (((((16 : Int32) * y1) + y3) + y6)).toNatClampNeg) h).bind fun b5 => let v6 : Int32 := (y6 + (1 : Int32)); fn_114_196 j n y1 y3 y4 v6 b5) else none) else none)
set_option maxRecDepth 100000 in
set_option maxHeartbeats 4000000 in
theorem tn_114_196 (j : Nat) : ∀ (n : Nat) (y1 : Int32) (y3 : Int32) (y4 : Int32) (y6 : Int32) (h : im_H), im_Go im_zV 2 fm_114 196 [(0, .inr (some j)), (1, .inl y1), (3, .inl y3), (4, .inl y4), (6, .inl y6)] [] h (fn_114_196 j n y1 y3 y4 y6 h)
  | 0, y1, y3, y4, y6, h => im_none
  | n + 1, y1, y3, y4, y6, h => by
    have ih := tn_114_196 j n
    unfold fn_114_196
    refine x_iload dm_114_196 rfl ?_
    refine x_iload dm_114_198 rfl ?_
    refine x_icmp_ge 228 dm_114_200 rfl (fun c1 => ?_) (fun c1 => ?_)
    · refine x_iload dm_114_228 rfl ?_
      refine x_istore dm_114_230 (Nat.le_of_ble_eq_true rfl) ?_
      refine x_goto 380 dm_114_232 rfl ?_
      exact im_lsub [(0, .inr (some j)), (1, .inl y1), (5, .inl y4)] (im_sb_c rfl (im_sb_c rfl (im_sb_c rfl im_sb_n))) (tn_114_380 j y1 y4 h)
    · refine x_aload_n dm_114_203 rfl ?_
      refine x_iload_n dm_114_204 rfl ?_
      refine x_aload_n dm_114_205 rfl ?_
      refine im_chk _ (fun hk2 => ?_)
      refine x_getR dm_114_206 fl_8_7 rfl rfl hk2 ?_
      refine x_bipush (16) dm_114_209 (by decide) ?_
      refine x_iload_n dm_114_211 rfl ?_
      refine x_imul dm_114_212 ?_
      refine x_iload_n dm_114_213 rfl ?_
      refine x_iadd dm_114_214 ?_
      refine x_iload dm_114_215 rfl ?_
      refine x_iadd dm_114_217 ?_
      refine im_bind (fun q3 hq3 => ?_)
      refine im_chk _ (fun hi4 => ?_)
      refine x_iaload dm_114_218 hq3 hi4 ?_
      refine im_callV mf_112 rfl (tn_112 j y1 _ h) (im_runV (as := [.inl y1, .inl _]) (rest := []) dm_114_219 mf_112 (Nat.le_of_ble_eq_true rfl) ml_8_148 mi_112 ms_112 mp_112 (Nat.le_of_ble_eq_true rfl) rfl hk2 ⟨_, _, rfl⟩) rfl (fun b5 hb5 => ?_)
      refine x_iinc (1) dm_114_222 rfl (by decide) (Nat.le_of_ble_eq_true rfl) ?_
      refine x_goto 196 dm_114_225 rfl ?_
      exact im_lsub [(0, .inr (some j)), (1, .inl y1), (3, .inl y3), (4, .inl y4), (6, .inl _)] (im_sb_c rfl (im_sb_c rfl (im_sb_c rfl (im_sb_c rfl (im_sb_c rfl im_sb_n))))) (ih y1 y3 y4 _ b5)
def fn_114_179 (j : Nat) (y1 : Int32) (y2 : Int32) (y3 : Int32) (y4 : Int32) (y5 : Int32) (h : im_H) : Option (im_H) :=
  if y2 = (4 : Int32) then ((fn_115 y3 y4 h).bind fun b2 => if b2.1 = 0 then (fn_114_235 j y1 y2 y3 y4 y5 b2.2) else (fn_114_196 j 1000 y1 y3 y4 (0 : Int32) b2.2)) else (fn_114_235 j y1 y2 y3 y4 y5 h)
set_option maxRecDepth 100000 in
set_option maxHeartbeats 4000000 in
theorem tn_114_179 (j : Nat) (y1 : Int32) (y2 : Int32) (y3 : Int32) (y4 : Int32) (y5 : Int32) (h : im_H) : im_Go im_zV 2 fm_114 179 [(0, .inr (some j)), (1, .inl y1), (2, .inl y2), (3, .inl y3), (4, .inl y4), (5, .inl y5)] [] h (fn_114_179 j y1 y2 y3 y4 y5 h) := by
  unfold fn_114_179
  refine x_iload_n dm_114_179 rfl ?_
  refine x_iconst (4) dm_114_180 (by decide) ?_
  refine x_icmp_ne 235 dm_114_181 rfl (fun c1 => ?_) (fun c1 => ?_)
  · refine x_iload_n dm_114_184 rfl ?_
    refine x_iload dm_114_185 rfl ?_
    refine im_callI mf_115 rfl (tn_115 y3 y4 h) (im_runS (as := [.inl y3, .inl y4]) (rest := []) dm_114_187 mf_115 (Nat.le_of_ble_eq_true rfl) ml_8_151 mi_115 mp_115 (Nat.le_of_ble_eq_true rfl)) rfl (fun b2 hb2 => ?_)
    refine x_if_eq 235 dm_114_190 rfl (fun c3 => ?_) (fun c3 => ?_)
    · exact im_lsub [(0, .inr (some j)), (1, .inl y1), (2, .inl y2), (3, .inl y3), (4, .inl y4), (5, .inl y5)] (im_sb_c rfl (im_sb_c rfl (im_sb_c rfl (im_sb_c rfl (im_sb_c rfl (im_sb_c rfl im_sb_n)))))) (tn_114_235 j y1 y2 y3 y4 y5 b2.2)
    · refine x_iconst (0) dm_114_193 (by decide) ?_
      refine x_istore dm_114_194 (Nat.le_of_ble_eq_true rfl) ?_
      exact im_lsub [(0, .inr (some j)), (1, .inl y1), (3, .inl y3), (4, .inl y4), (6, .inl (0 : Int32))] (im_sb_c rfl (im_sb_c rfl (im_sb_c rfl (im_sb_c rfl (im_sb_c rfl im_sb_n))))) (tn_114_196 j 1000 y1 y3 y4 (0 : Int32) b2.2)
  · exact im_lsub [(0, .inr (some j)), (1, .inl y1), (2, .inl y2), (3, .inl y3), (4, .inl y4), (5, .inl y5)] (im_sb_c rfl (im_sb_c rfl (im_sb_c rfl (im_sb_c rfl (im_sb_c rfl (im_sb_c rfl im_sb_n)))))) (tn_114_235 j y1 y2 y3 y4 y5 h)
def fn_114_136 (j : Nat) (y1 : Int32) (y2 : Int32) (y3 : Int32) (y4 : Int32) (y5 : Int32) (h : im_H) : Option (im_H) :=
  if y2 = (3 : Int32) then (if h.2.1 j = (0, 8) then (((im_gR h j 4)).bind fun q3 => if im_in h 1 q3 y1 then ((fn_92 y3 (1 : Int32) ((16 : Int32) - (im_gI h q3 (y1).toNatClampNeg)) h).bind fun b5 => if b5.1 = 0 then (fn_114_179 j y1 y2 y3 y4 y5 b5.2) else (if b5.2.2.1 j = (0, 8) then (((im_gR b5.2 j 4)).bind fun q8 => if im_in b5.2 1 q8 y1 then (let v10 : Int32 := (im_gI b5.2 q8 (y1).toNatClampNeg); let h11 : im_H := im_pI b5.2 q8 (y1).toNatClampNeg ((im_gI b5.2 q8 (y1).toNatClampNeg) + y3); fn_114_380 j y1 v10 h11) else none) else none)) else none) else none) else (fn_114_179 j y1 y2 y3 y4 y5 h)
set_option maxRecDepth 100000 in
set_option maxHeartbeats 4000000 in
theorem tn_114_136 (j : Nat) (y1 : Int32) (y2 : Int32) (y3 : Int32) (y4 : Int32) (y5 : Int32) (h : im_H) : im_Go im_zV 2 fm_114 136 [(0, .inr (some j)), (1, .inl y1), (2, .inl y2), (3, .inl y3), (4, .inl y4), (5, .inl y5)] [] h (fn_114_136 j y1 y2 y3 y4 y5 h) := by
  unfold fn_114_136
  refine x_iload_n dm_114_136 rfl ?_
  refine x_iconst (3) dm_114_137 (by decide) ?_
  refine x_icmp_ne 179 dm_114_138 rfl (fun c1 => ?_) (fun c1 => ?_)
  · refine x_iload_n dm_114_141 rfl ?_
    refine x_iconst (1) dm_114_142 (by decide) ?_
    refine x_bipush (16) dm_114_143 (by decide) ?_
    refine x_aload_n dm_114_145 rfl ?_
    refine im_chk _ (fun hk2 => ?_)
    refine x_getR dm_114_146 fl_8_22 rfl rfl hk2 ?_
    refine x_iload_n dm_114_149 rfl ?_
    refine im_bind (fun q3 hq3 => ?_)
    refine im_chk _ (fun hi4 => ?_)
    refine x_iaload dm_114_150 hq3 hi4 ?_
    refine x_isub dm_114_151 ?_
    refine im_callI mf_92 rfl (tn_92 y3 (1 : Int32) _ h) (im_runS (as := [.inl y3, .inl (1 : Int32), .inl _]) (rest := []) dm_114_152 mf_92 (Nat.le_of_ble_eq_true rfl) ml_8_83 mi_92 mp_92 (Nat.le_of_ble_eq_true rfl)) rfl (fun b5 hb5 => ?_)
    refine x_if_eq 179 dm_114_155 rfl (fun c6 => ?_) (fun c6 => ?_)
    · exact im_lsub [(0, .inr (some j)), (1, .inl y1), (2, .inl y2), (3, .inl y3), (4, .inl y4), (5, .inl y5)] (im_sb_c rfl (im_sb_c rfl (im_sb_c rfl (im_sb_c rfl (im_sb_c rfl (im_sb_c rfl im_sb_n)))))) (tn_114_179 j y1 y2 y3 y4 y5 b5.2)
    · refine x_aload_n dm_114_158 rfl ?_
      refine im_chk _ (fun hk7 => ?_)
      refine x_getR dm_114_159 fl_8_22 rfl rfl hk7 ?_
      refine x_iload_n dm_114_162 rfl ?_
      refine im_bind (fun q8 hq8 => ?_)
      refine im_chk _ (fun hi9 => ?_)
      refine x_iaload dm_114_163 hq8 hi9 ?_
      refine x_istore dm_114_164 (Nat.le_of_ble_eq_true rfl) ?_
      refine x_aload_n dm_114_166 rfl ?_
      refine x_getR dm_114_167 fl_8_22 rfl rfl hk7 ?_
      refine x_iload_n dm_114_170 rfl ?_
      refine x_dup2 dm_114_171 ?_
      refine x_iaload dm_114_172 hq8 hi9 ?_
      refine x_iload_n dm_114_173 rfl ?_
      refine x_iadd dm_114_174 ?_
      refine x_iastore dm_114_175 hq8 hi9 ?_
      refine x_goto 380 dm_114_176 rfl ?_
      exact im_lsub [(0, .inr (some j)), (1, .inl y1), (5, .inl _)] (im_sb_c rfl (im_sb_c rfl (im_sb_c rfl im_sb_n))) (tn_114_380 j y1 _ _)
  · exact im_lsub [(0, .inr (some j)), (1, .inl y1), (2, .inl y2), (3, .inl y3), (4, .inl y4), (5, .inl y5)] (im_sb_c rfl (im_sb_c rfl (im_sb_c rfl (im_sb_c rfl (im_sb_c rfl (im_sb_c rfl im_sb_n)))))) (tn_114_179 j y1 y2 y3 y4 y5 h)
def fn_114_54 (j : Nat) (y1 : Int32) (y2 : Int32) (y3 : Int32) (s0 : Int32) (h : im_H) : Option (im_H) :=
  if h.2.1 j = (0, 8) then ((fn_113 j y1 y2 y3 s0 h).bind fun b2 => if y2 = (1 : Int32) then (if b2.2.1 j = (0, 8) then ((fn_112 j y1 y3 b2).bind fun b5 => fn_114_380 j y1 (0 : Int32) b5) else none) else (if y2 = (2 : Int32) then (if b2.2.1 j = (0, 8) then (((im_gR b2 j 9)).bind fun q8 => if im_in b2 1 q8 y1 then (((im_gR b2 j 8)).bind fun q10 => if im_in b2 1 q10 y1 then (if (im_gI b2 q10 (y1).toNatClampNeg) ≤ (im_gI b2 q8 (y1).toNatClampNeg) then (fn_114_136 j y1 y2 y3 s0 (-1 : Int32) b2) else (((im_gR b2 j 7)).bind fun q13 => if im_in b2 1 q13 (((12 : Int32) * y1) + (im_gI b2 q8 (y1).toNatClampNeg)) then (let v15 : Int32 := (im_gI b2 q13 ((((12 : Int32) * y1) + (im_gI b2 q8 (y1).toNatClampNeg))).toNatClampNeg); let h16 : im_H := im_pI b2 q8 (y1).toNatClampNeg ((im_gI b2 q8 (y1).toNatClampNeg) + (1 : Int32)); fn_114_380 j y1 v15 h16) else none)) else none) else none) else none) else (fn_114_136 j y1 y2 y3 s0 (-1 : Int32) b2))) else none
set_option maxRecDepth 100000 in
set_option maxHeartbeats 4000000 in
theorem tn_114_54 (j : Nat) (y1 : Int32) (y2 : Int32) (y3 : Int32) (s0 : Int32) (h : im_H) : im_Go im_zV 2 fm_114 54 [(0, .inr (some j)), (1, .inl y1), (2, .inl y2), (3, .inl y3)] [.inl s0] h (fn_114_54 j y1 y2 y3 s0 h) := by
  unfold fn_114_54
  refine x_istore dm_114_54 (Nat.le_of_ble_eq_true rfl) ?_
  refine x_aload_n dm_114_56 rfl ?_
  refine x_iload_n dm_114_57 rfl ?_
  refine x_iload_n dm_114_58 rfl ?_
  refine x_iload_n dm_114_59 rfl ?_
  refine x_iload dm_114_60 rfl ?_
  refine im_chk _ (fun hk1 => ?_)
  refine im_callV mf_113 rfl (tn_113 j y1 y2 y3 s0 h) (im_runV (as := [.inl y1, .inl y2, .inl y3, .inl s0]) (rest := []) dm_114_62 mf_113 (Nat.le_of_ble_eq_true rfl) ml_8_144 mi_113 ms_113 mp_113 (Nat.le_of_ble_eq_true rfl) rfl hk1 ⟨_, _, rfl⟩) rfl (fun b2 hb2 => ?_)
  refine x_iconst (-1) dm_114_65 (by decide) ?_
  refine x_istore dm_114_66 (Nat.le_of_ble_eq_true rfl) ?_
  refine x_iload_n dm_114_68 rfl ?_
  refine x_iconst (1) dm_114_69 (by decide) ?_
  refine x_icmp_ne 85 dm_114_70 rfl (fun c3 => ?_) (fun c3 => ?_)
  · refine x_aload_n dm_114_73 rfl ?_
    refine x_iload_n dm_114_74 rfl ?_
    refine x_iload_n dm_114_75 rfl ?_
    refine im_chk _ (fun hk4 => ?_)
    refine im_callV mf_112 rfl (tn_112 j y1 y3 b2) (im_runV (as := [.inl y1, .inl y3]) (rest := []) dm_114_76 mf_112 (Nat.le_of_ble_eq_true rfl) ml_8_148 mi_112 ms_112 mp_112 (Nat.le_of_ble_eq_true rfl) rfl hk4 ⟨_, _, rfl⟩) rfl (fun b5 hb5 => ?_)
    refine x_iconst (0) dm_114_79 (by decide) ?_
    refine x_istore dm_114_80 (Nat.le_of_ble_eq_true rfl) ?_
    refine x_goto 380 dm_114_82 rfl ?_
    exact im_lsub [(0, .inr (some j)), (1, .inl y1), (5, .inl (0 : Int32))] (im_sb_c rfl (im_sb_c rfl (im_sb_c rfl im_sb_n))) (tn_114_380 j y1 (0 : Int32) b5)
  · refine x_iload_n dm_114_85 rfl ?_
    refine x_iconst (2) dm_114_86 (by decide) ?_
    refine x_icmp_ne 136 dm_114_87 rfl (fun c6 => ?_) (fun c6 => ?_)
    · refine x_aload_n dm_114_90 rfl ?_
      refine im_chk _ (fun hk7 => ?_)
      refine x_getR dm_114_91 fl_8_37 rfl rfl hk7 ?_
      refine x_iload_n dm_114_94 rfl ?_
      refine im_bind (fun q8 hq8 => ?_)
      refine im_chk _ (fun hi9 => ?_)
      refine x_iaload dm_114_95 hq8 hi9 ?_
      refine x_aload_n dm_114_96 rfl ?_
      refine x_getR dm_114_97 fl_8_34 rfl rfl hk7 ?_
      refine x_iload_n dm_114_100 rfl ?_
      refine im_bind (fun q10 hq10 => ?_)
      refine im_chk _ (fun hi11 => ?_)
      refine x_iaload dm_114_101 hq10 hi11 ?_
      refine x_icmp_ge 136 dm_114_102 rfl (fun c12 => ?_) (fun c12 => ?_)
      · exact im_lsub [(0, .inr (some j)), (1, .inl y1), (2, .inl y2), (3, .inl y3), (4, .inl s0), (5, .inl (-1 : Int32))] (im_sb_c rfl (im_sb_c rfl (im_sb_c rfl (im_sb_c rfl (im_sb_c rfl (im_sb_c rfl im_sb_n)))))) (tn_114_136 j y1 y2 y3 s0 (-1 : Int32) b2)
      · refine x_aload_n dm_114_105 rfl ?_
        refine x_getR dm_114_106 fl_8_31 rfl rfl hk7 ?_
        refine x_bipush (12) dm_114_109 (by decide) ?_
        refine x_iload_n dm_114_111 rfl ?_
        refine x_imul dm_114_112 ?_
        refine x_aload_n dm_114_113 rfl ?_
        refine x_getR dm_114_114 fl_8_37 rfl rfl hk7 ?_
        refine x_iload_n dm_114_117 rfl ?_
        refine x_iaload dm_114_118 hq8 hi9 ?_
        refine x_iadd dm_114_119 ?_
        refine im_bind (fun q13 hq13 => ?_)
        refine im_chk _ (fun hi14 => ?_)
        refine x_iaload dm_114_120 hq13 hi14 ?_
        refine x_istore dm_114_121 (Nat.le_of_ble_eq_true rfl) ?_
        refine x_aload_n dm_114_123 rfl ?_
        refine x_getR dm_114_124 fl_8_37 rfl rfl hk7 ?_
        refine x_iload_n dm_114_127 rfl ?_
        refine x_dup2 dm_114_128 ?_
        refine x_iaload dm_114_129 hq8 hi9 ?_
        refine x_iconst (1) dm_114_130 (by decide) ?_
        refine x_iadd dm_114_131 ?_
        refine x_iastore dm_114_132 hq8 hi9 ?_
        refine x_goto 380 dm_114_133 rfl ?_
        exact im_lsub [(0, .inr (some j)), (1, .inl y1), (5, .inl _)] (im_sb_c rfl (im_sb_c rfl (im_sb_c rfl im_sb_n))) (tn_114_380 j y1 _ _)
    · exact im_lsub [(0, .inr (some j)), (1, .inl y1), (2, .inl y2), (3, .inl y3), (4, .inl s0), (5, .inl (-1 : Int32))] (im_sb_c rfl (im_sb_c rfl (im_sb_c rfl (im_sb_c rfl (im_sb_c rfl (im_sb_c rfl im_sb_n)))))) (tn_114_136 j y1 y2 y3 s0 (-1 : Int32) b2)
def fn_114_29 (j : Nat) (y1 : Int32) (y2 : Int32) (s0 : Int32) (h : im_H) : Option (im_H) :=
  (fn_92 y2 (4 : Int32) (5 : Int32) h).bind fun b1 => if b1.1 = 0 then (fn_114_54 j y1 y2 s0 (0 : Int32) b1.2) else (if b1.2.2.1 j = (0, 8) then (((im_gR b1.2 j 2)).bind fun q4 => if im_in b1.2 1 q4 (((8 : Int32) * y1) + (2 : Int32)) then (fn_114_54 j y1 y2 s0 (im_gI b1.2 q4 ((((8 : Int32) * y1) + (2 : Int32))).toNatClampNeg) b1.2) else none) else none)
set_option maxRecDepth 100000 in
set_option maxHeartbeats 4000000 in
theorem tn_114_29 (j : Nat) (y1 : Int32) (y2 : Int32) (s0 : Int32) (h : im_H) : im_Go im_zV 2 fm_114 29 [(0, .inr (some j)), (1, .inl y1), (2, .inl y2)] [.inl s0] h (fn_114_29 j y1 y2 s0 h) := by
  unfold fn_114_29
  refine x_istore_n dm_114_29 (Nat.le_of_ble_eq_true rfl) ?_
  refine x_iload_n dm_114_30 rfl ?_
  refine x_iconst (4) dm_114_31 (by decide) ?_
  refine x_iconst (5) dm_114_32 (by decide) ?_
  refine im_callI mf_92 rfl (tn_92 y2 (4 : Int32) (5 : Int32) h) (im_runS (as := [.inl y2, .inl (4 : Int32), .inl (5 : Int32)]) (rest := []) dm_114_33 mf_92 (Nat.le_of_ble_eq_true rfl) ml_8_83 mi_92 mp_92 (Nat.le_of_ble_eq_true rfl)) rfl (fun b1 hb1 => ?_)
  refine x_if_eq 53 dm_114_36 rfl (fun c2 => ?_) (fun c2 => ?_)
  · refine x_iconst (0) dm_114_53 (by decide) ?_
    exact im_lsub [(0, .inr (some j)), (1, .inl y1), (2, .inl y2), (3, .inl s0)] (im_sb_c rfl (im_sb_c rfl (im_sb_c rfl (im_sb_c rfl im_sb_n)))) (tn_114_54 j y1 y2 s0 (0 : Int32) b1.2)
  · refine x_aload_n dm_114_39 rfl ?_
    refine im_chk _ (fun hk3 => ?_)
    refine x_getR dm_114_40 fl_8_16 rfl rfl hk3 ?_
    refine x_bipush (8) dm_114_43 (by decide) ?_
    refine x_iload_n dm_114_45 rfl ?_
    refine x_imul dm_114_46 ?_
    refine x_iconst (2) dm_114_47 (by decide) ?_
    refine x_iadd dm_114_48 ?_
    refine im_bind (fun q4 hq4 => ?_)
    refine im_chk _ (fun hi5 => ?_)
    refine x_iaload dm_114_49 hq4 hi5 ?_
    refine x_goto 54 dm_114_50 rfl ?_
    exact im_lsub [(0, .inr (some j)), (1, .inl y1), (2, .inl y2), (3, .inl s0)] (im_sb_c rfl (im_sb_c rfl (im_sb_c rfl (im_sb_c rfl im_sb_n)))) (tn_114_54 j y1 y2 s0 _ b1.2)
def fn_114_14 (j : Nat) (y1 : Int32) (y2 : Int32) (h : im_H) : Option (im_H) :=
  if h.2.1 j = (0, 8) then (((im_gR h j 2)).bind fun q2 => if im_in h 1 q2 (((8 : Int32) * y1) + (1 : Int32)) then (fn_114_29 j y1 y2 (im_gI h q2 ((((8 : Int32) * y1) + (1 : Int32))).toNatClampNeg) h) else none) else none
set_option maxRecDepth 100000 in
set_option maxHeartbeats 4000000 in
theorem tn_114_14 (j : Nat) (y1 : Int32) (y2 : Int32) (h : im_H) : im_Go im_zV 2 fm_114 14 [(0, .inr (some j)), (1, .inl y1), (2, .inl y2)] [] h (fn_114_14 j y1 y2 h) := by
  unfold fn_114_14
  refine x_aload_n dm_114_14 rfl ?_
  refine im_chk _ (fun hk1 => ?_)
  refine x_getR dm_114_15 fl_8_16 rfl rfl hk1 ?_
  refine x_bipush (8) dm_114_18 (by decide) ?_
  refine x_iload_n dm_114_20 rfl ?_
  refine x_imul dm_114_21 ?_
  refine x_iconst (1) dm_114_22 (by decide) ?_
  refine x_iadd dm_114_23 ?_
  refine im_bind (fun q2 hq2 => ?_)
  refine im_chk _ (fun hi3 => ?_)
  refine x_iaload dm_114_24 hq2 hi3 ?_
  refine x_goto 29 dm_114_25 rfl ?_
  exact im_lsub [(0, .inr (some j)), (1, .inl y1), (2, .inl y2)] (im_sb_c rfl (im_sb_c rfl (im_sb_c rfl im_sb_n))) (tn_114_29 j y1 y2 _ h)
/-- FencedModulesModel.host(II)V -/
def fn_114 (j : Nat) (x1 : Int32) (x2 : Int32) (h : im_H) : Option (im_H) :=
  if x2 = (1 : Int32) then (fn_114_14 j x1 x2 h) else ((fn_92 x2 (3 : Int32) (5 : Int32) h).bind fun b2 => if b2.1 = 0 then (fn_114_29 j x1 x2 (0 : Int32) b2.2) else (fn_114_14 j x1 x2 b2.2))
set_option maxRecDepth 100000 in
set_option maxHeartbeats 4000000 in
theorem tn_114 (j : Nat) (x1 : Int32) (x2 : Int32) (h : im_H) : im_Go im_zV 2 fm_114 0 (im_en 0 [.inr (some j), .inl x1, .inl x2]) [] h (fn_114 j x1 x2 h) := by
  unfold fn_114
  refine x_iload_n dm_114_0 rfl ?_
  refine x_iconst (1) dm_114_1 (by decide) ?_
  refine x_icmp_eq 14 dm_114_2 rfl (fun c1 => ?_) (fun c1 => ?_)
  · exact im_lsub [(0, .inr (some j)), (1, .inl x1), (2, .inl x2)] (im_sb_c rfl (im_sb_c rfl (im_sb_c rfl im_sb_n))) (tn_114_14 j x1 x2 h)
  · refine x_iload_n dm_114_5 rfl ?_
    refine x_iconst (3) dm_114_6 (by decide) ?_
    refine x_iconst (5) dm_114_7 (by decide) ?_
    refine im_callI mf_92 rfl (tn_92 x2 (3 : Int32) (5 : Int32) h) (im_runS (as := [.inl x2, .inl (3 : Int32), .inl (5 : Int32)]) (rest := []) dm_114_8 mf_92 (Nat.le_of_ble_eq_true rfl) ml_8_83 mi_92 mp_92 (Nat.le_of_ble_eq_true rfl)) rfl (fun b2 hb2 => ?_)
    refine x_if_eq 28 dm_114_11 rfl (fun c3 => ?_) (fun c3 => ?_)
    · refine x_iconst (0) dm_114_28 (by decide) ?_
      exact im_lsub [(0, .inr (some j)), (1, .inl x1), (2, .inl x2)] (im_sb_c rfl (im_sb_c rfl (im_sb_c rfl im_sb_n))) (tn_114_29 j x1 x2 (0 : Int32) b2.2)
    · exact im_lsub [(0, .inr (some j)), (1, .inl x1), (2, .inl x2)] (im_sb_c rfl (im_sb_c rfl (im_sb_c rfl im_sb_n))) (tn_114_14 j x1 x2 b2.2)
