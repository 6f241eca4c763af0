def fn_125_326 (j : Nat) (y8 : Int32) (h : im_H) : Option (Int32 × im_H) :=
  if h.2.1 j = (0, 8) then ((fn_122 j (1 : Int32) y8 (0 : Int32) h).bind fun b2 => if b2.2.1 j = (0, 8) then (let h4 : im_H := im_pI b2 j 27 ((im_gI b2 j 27) + (1 : Int32)); some ((0 : Int32), h4)) else none) else none
set_option maxRecDepth 100000 in
set_option maxHeartbeats 4000000 in
theorem tn_125_326 (j : Nat) (y8 : Int32) (h : im_H) : im_Go im_zI 2 fm_125 326 [(0, .inr (some j)), (8, .inl y8)] [] h (fn_125_326 j y8 h) := by
  unfold fn_125_326
  refine x_aload_n dm_125_326 rfl ?_
  refine x_iconst (1) dm_125_327 (by decide) ?_
  refine x_iload dm_125_328 rfl ?_
  refine x_iconst (0) dm_125_330 (by decide) ?_
  refine im_chk _ (fun hk1 => ?_)
  refine im_callV mf_122 rfl (tn_122 j (1 : Int32) y8 (0 : Int32) h) (im_runV (as := [.inl (1 : Int32), .inl y8, .inl (0 : Int32)]) (rest := []) dm_125_331 mf_122 (Nat.le_of_ble_eq_true rfl) ml_8_169 mi_122 ms_122 mp_122 (Nat.le_of_ble_eq_true rfl) rfl hk1 ⟨_, _, rfl⟩) rfl (fun b2 hb2 => ?_)
  refine x_aload_n dm_125_334 rfl ?_
  refine x_dup dm_125_335 ?_
  refine im_chk _ (fun hk3 => ?_)
  refine x_getI dm_125_336 fl_8_173 rfl rfl hk3 ?_
  refine x_iconst (1) dm_125_339 (by decide) ?_
  refine x_iadd dm_125_340 ?_
  refine x_putI dm_125_341 fl_8_173 rfl rfl hk3 ?_
  refine x_iconst (0) dm_125_344 (by decide) ?_
  exact x_ireturn dm_125_345 rfl
def fn_125_317 (j : Nat) (y6 : Int32) (y7 : Int32) (y8 : Int32) (h : im_H) : Option (Int32 × im_H) :=
  if y7 = 0 then (fn_125_326 j y8 h) else (fn_125_326 j y6 h)
set_option maxRecDepth 100000 in
set_option maxHeartbeats 4000000 in
theorem tn_125_317 (j : Nat) (y6 : Int32) (y7 : Int32) (y8 : Int32) (h : im_H) : im_Go im_zI 2 fm_125 317 [(0, .inr (some j)), (6, .inl y6), (7, .inl y7), (8, .inl y8)] [] h (fn_125_317 j y6 y7 y8 h) := by
  unfold fn_125_317
  refine x_iload dm_125_317 rfl ?_
  refine x_if_eq 326 dm_125_319 rfl (fun c1 => ?_) (fun c1 => ?_)
  · exact im_lsub [(0, .inr (some j)), (8, .inl y8)] (im_sb_c rfl (im_sb_c rfl im_sb_n)) (tn_125_326 j y8 h)
  · refine x_iload dm_125_322 rfl ?_
    refine x_istore dm_125_324 (Nat.le_of_ble_eq_true rfl) ?_
    exact im_lsub [(0, .inr (some j)), (8, .inl y6)] (im_sb_c rfl (im_sb_c rfl im_sb_n)) (tn_125_326 j y6 h)
def fn_125_276 (j : Nat) (y2 : Int32) (y5 : Int32) (y6 : Int32) (y7 : Int32) (y8 : Int32) (h : im_H) : Option (Int32 × im_H) :=
  if y2 = (3 : Int32) then (if h.2.1 j = (0, 8) then ((fn_92 y5 (1 : Int32) ((16 : Int32) - (im_gI h j 28)) h).bind fun b3 => if b3.1 = 0 then (fn_125_317 j y6 y7 y8 b3.2) else (if b3.2.2.1 j = (0, 8) then (let v6 : Int32 := (im_gI b3.2 j 28); let h7 : im_H := im_pI b3.2 j 28 ((im_gI b3.2 j 28) + y5); fn_125_326 j v6 h7) else none)) else none) else (fn_125_317 j y6 y7 y8 h)
set_option maxRecDepth 100000 in
set_option maxHeartbeats 4000000 in
theorem tn_125_276 (j : Nat) (y2 : Int32) (y5 : Int32) (y6 : Int32) (y7 : Int32) (y8 : Int32) (h : im_H) : im_Go im_zI 2 fm_125 276 [(0, .inr (some j)), (2, .inl y2), (5, .inl y5), (6, .inl y6), (7, .inl y7), (8, .inl y8)] [] h (fn_125_276 j y2 y5 y6 y7 y8 h) := by
  unfold fn_125_276
  refine x_iload_n dm_125_276 rfl ?_
  refine x_iconst (3) dm_125_277 (by decide) ?_
  refine x_icmp_ne 317 dm_125_278 rfl (fun c1 => ?_) (fun c1 => ?_)
  · refine x_iload dm_125_281 rfl ?_
    refine x_iconst (1) dm_125_283 (by decide) ?_
    refine x_bipush (16) dm_125_284 (by decide) ?_
    refine x_aload_n dm_125_286 rfl ?_
    refine im_chk _ (fun hk2 => ?_)
    refine x_getI dm_125_287 fl_8_176 rfl rfl hk2 ?_
    refine x_isub dm_125_290 ?_
    refine im_callI mf_92 rfl (tn_92 y5 (1 : Int32) _ h) (im_runS (as := [.inl y5, .inl (1 : Int32), .inl _]) (rest := []) dm_125_291 mf_92 (Nat.le_of_ble_eq_true rfl) ml_8_83 mi_92 mp_92 (Nat.le_of_ble_eq_true rfl)) rfl (fun b3 hb3 => ?_)
    refine x_if_eq 317 dm_125_294 rfl (fun c4 => ?_) (fun c4 => ?_)
    · exact im_lsub [(0, .inr (some j)), (6, .inl y6), (7, .inl y7), (8, .inl y8)] (im_sb_c rfl (im_sb_c rfl (im_sb_c rfl (im_sb_c rfl im_sb_n)))) (tn_125_317 j y6 y7 y8 b3.2)
    · refine x_aload_n dm_125_297 rfl ?_
      refine im_chk _ (fun hk5 => ?_)
      refine x_getI dm_125_298 fl_8_176 rfl rfl hk5 ?_
      refine x_istore dm_125_301 (Nat.le_of_ble_eq_true rfl) ?_
      refine x_aload_n dm_125_303 rfl ?_
      refine x_dup dm_125_304 ?_
      refine x_getI dm_125_305 fl_8_176 rfl rfl hk5 ?_
      refine x_iload dm_125_308 rfl ?_
      refine x_iadd dm_125_310 ?_
      refine x_putI dm_125_311 fl_8_176 rfl rfl hk5 ?_
      refine x_goto 326 dm_125_314 rfl ?_
      exact im_lsub [(0, .inr (some j)), (8, .inl _)] (im_sb_c rfl (im_sb_c rfl im_sb_n)) (tn_125_326 j _ _)
  · exact im_lsub [(0, .inr (some j)), (6, .inl y6), (7, .inl y7), (8, .inl y8)] (im_sb_c rfl (im_sb_c rfl (im_sb_c rfl (im_sb_c rfl im_sb_n)))) (tn_125_317 j y6 y7 y8 h)
def fn_125_190 (j : Nat) (y1 : Int32) (y2 : Int32) (y5 : Int32) (y6 : Int32) (y7 : Int32) (h : im_H) : Option (Int32 × im_H) :=
  if h.2.1 j = (0, 8) then (let h2 : im_H := im_pI h j 30 ((im_gI h j 30) + (1 : Int32)); if y2 = 0 then (some ((1 : Int32), h2)) else (if y2 = (1 : Int32) then (fn_125_326 j (0 : Int32) h2) else (if y2 = (2 : Int32) then (((im_gR h j 1)).bind fun q6 => if im_in h 1 q6 y1 then (if (im_gI h2 q6 (y1).toNatClampNeg) = 0 then (fn_125_276 j y2 y5 y6 y7 (-1 : Int32) h2) else (((im_gR h j 8)).bind fun q9 => if im_in h 1 q9 y1 then (if (im_gI h2 q9 (y1).toNatClampNeg) ≤ (im_gI h2 j 29) then (fn_125_276 j y2 y5 y6 y7 (-1 : Int32) h2) else (((im_gR h j 7)).bind fun q12 => if im_in h 1 q12 (((12 : Int32) * y1) + (im_gI h2 j 29)) then (let v14 : Int32 := (im_gI h2 q12 ((((12 : Int32) * y1) + (im_gI h2 j 29))).toNatClampNeg); let h15 : im_H := im_pI h2 j 29 ((im_gI h2 j 29) + (1 : Int32)); fn_125_326 j v14 h15) else none)) else none)) else none) else (fn_125_276 j y2 y5 y6 y7 (-1 : Int32) h2)))) else none
set_option maxRecDepth 100000 in
set_option maxHeartbeats 4000000 in
theorem tn_125_190 (j : Nat) (y1 : Int32) (y2 : Int32) (y5 : Int32) (y6 : Int32) (y7 : Int32) (h : im_H) : im_Go im_zI 2 fm_125 190 [(0, .inr (some j)), (1, .inl y1), (2, .inl y2), (5, .inl y5), (6, .inl y6), (7, .inl y7)] [] h (fn_125_190 j y1 y2 y5 y6 y7 h) := by
  unfold fn_125_190
  refine x_aload_n dm_125_190 rfl ?_
  refine x_dup dm_125_191 ?_
  refine im_chk _ (fun hk1 => ?_)
  refine x_getI dm_125_192 fl_8_182 rfl rfl hk1 ?_
  refine x_iconst (1) dm_125_195 (by decide) ?_
  refine x_iadd dm_125_196 ?_
  refine x_putI dm_125_197 fl_8_182 rfl rfl hk1 ?_
  refine x_iload_n dm_125_200 rfl ?_
  refine x_if_ne 206 dm_125_201 rfl (fun c3 => ?_) (fun c3 => ?_)
  · refine x_iconst (1) dm_125_204 (by decide) ?_
    exact x_ireturn dm_125_205 rfl
  · refine x_iconst (-1) dm_125_206 (by decide) ?_
    refine x_istore dm_125_207 (Nat.le_of_ble_eq_true rfl) ?_
    refine x_iload_n dm_125_209 rfl ?_
    refine x_iconst (1) dm_125_210 (by decide) ?_
    refine x_icmp_ne 220 dm_125_211 rfl (fun c4 => ?_) (fun c4 => ?_)
    · refine x_iconst (0) dm_125_214 (by decide) ?_
      refine x_istore dm_125_215 (Nat.le_of_ble_eq_true rfl) ?_
      refine x_goto 326 dm_125_217 rfl ?_
      exact im_lsub [(0, .inr (some j)), (8, .inl (0 : Int32))] (im_sb_c rfl (im_sb_c rfl im_sb_n)) (tn_125_326 j (0 : Int32) _)
    · refine x_iload_n dm_125_220 rfl ?_
      refine x_iconst (2) dm_125_221 (by decide) ?_
      refine x_icmp_ne 276 dm_125_222 rfl (fun c5 => ?_) (fun c5 => ?_)
      · refine x_aload_n dm_125_225 rfl ?_
        refine x_getR dm_125_226 fl_8_13 rfl rfl hk1 ?_
        refine x_iload_n dm_125_229 rfl ?_
        refine im_bind (fun q6 hq6 => ?_)
        refine im_chk _ (fun hi7 => ?_)
        refine x_iaload dm_125_230 hq6 hi7 ?_
        refine x_if_eq 276 dm_125_231 rfl (fun c8 => ?_) (fun c8 => ?_)
        · exact im_lsub [(0, .inr (some j)), (2, .inl y2), (5, .inl y5), (6, .inl y6), (7, .inl y7), (8, .inl (-1 : Int32))] (im_sb_c rfl (im_sb_c rfl (im_sb_c rfl (im_sb_c rfl (im_sb_c rfl (im_sb_c rfl im_sb_n)))))) (tn_125_276 j y2 y5 y6 y7 (-1 : Int32) _)
        · refine x_aload_n dm_125_234 rfl ?_
          refine x_getI dm_125_235 fl_8_179 rfl rfl hk1 ?_
          refine x_aload_n dm_125_238 rfl ?_
          refine x_getR dm_125_239 fl_8_34 rfl rfl hk1 ?_
          refine x_iload_n dm_125_242 rfl ?_
          refine im_bind (fun q9 hq9 => ?_)
          refine im_chk _ (fun hi10 => ?_)
          refine x_iaload dm_125_243 hq9 hi10 ?_
          refine x_icmp_ge 276 dm_125_244 rfl (fun c11 => ?_) (fun c11 => ?_)
          · exact im_lsub [(0, .inr (some j)), (2, .inl y2), (5, .inl y5), (6, .inl y6), (7, .inl y7), (8, .inl (-1 : Int32))] (im_sb_c rfl (im_sb_c rfl (im_sb_c rfl (im_sb_c rfl (im_sb_c rfl (im_sb_c rfl im_sb_n)))))) (tn_125_276 j y2 y5 y6 y7 (-1 : Int32) _)
          · refine x_aload_n dm_125_247 rfl ?_
            refine x_getR dm_125_248 fl_8_31 rfl rfl hk1 ?_
            refine x_bipush (12) dm_125_251 (by decide) ?_
            refine x_iload_n dm_125_253 rfl ?_
            refine x_imul dm_125_254 ?_
            refine x_aload_n dm_125_255 rfl ?_
            refine x_getI dm_125_256 fl_8_179 rfl rfl hk1 ?_
            refine x_iadd dm_125_259 ?_
            refine im_bind (fun q12 hq12 => ?_)
            refine im_chk _ (fun hi13 => ?_)
            refine x_iaload dm_125_260 hq12 hi13 ?_
            refine x_istore dm_125_261 (Nat.le_of_ble_eq_true rfl) ?_
            refine x_aload_n dm_125_263 rfl ?_
            refine x_dup dm_125_264 ?_
            refine x_getI dm_125_265 fl_8_179 rfl rfl hk1 ?_
            refine x_iconst (1) dm_125_268 (by decide) ?_
            refine x_iadd dm_125_269 ?_
            refine x_putI dm_125_270 fl_8_179 rfl rfl hk1 ?_
            refine x_goto 326 dm_125_273 rfl ?_
            exact im_lsub [(0, .inr (some j)), (8, .inl _)] (im_sb_c rfl (im_sb_c rfl im_sb_n)) (tn_125_326 j _ _)
      · exact im_lsub [(0, .inr (some j)), (2, .inl y2), (5, .inl y5), (6, .inl y6), (7, .inl y7), (8, .inl (-1 : Int32))] (im_sb_c rfl (im_sb_c rfl (im_sb_c rfl (im_sb_c rfl (im_sb_c rfl (im_sb_c rfl im_sb_n)))))) (tn_125_276 j y2 y5 y6 y7 (-1 : Int32) _)
def fn_125_139 (j : Nat) (y1 : Int32) (y2 : Int32) (y5 : Int32) (y6 : Int32) (y7 : Int32) (h : im_H) : Option (Int32 × im_H) :=
  if h.2.1 j = (0, 8) then (if (16 : Int32) ≤ (im_gI h j 30) then (fn_125_190 j y1 y2 y5 y6 y7 h) else (((im_gR h j 31)).bind fun q3 => if im_in h 1 q3 ((3 : Int32) * (im_gI h j 30)) then (let h5 : im_H := im_pI h q3 (((3 : Int32) * (im_gI h j 30))).toNatClampNeg y2; if im_in h 1 q3 (((3 : Int32) * (im_gI h5 j 30)) + (1 : Int32)) then (let h7 : im_H := im_pI h5 q3 ((((3 : Int32) * (im_gI h5 j 30)) + (1 : Int32))).toNatClampNeg y5; if im_in h 1 q3 (((3 : Int32) * (im_gI h7 j 30)) + (2 : Int32)) then (let h9 : im_H := im_pI h7 q3 ((((3 : Int32) * (im_gI h7 j 30)) + (2 : Int32))).toNatClampNeg y6; fn_125_190 j y1 y2 y5 y6 y7 h9) else none) else none) else none)) else none
set_option maxRecDepth 100000 in
set_option maxHeartbeats 4000000 in
theorem tn_125_139 (j : Nat) (y1 : Int32) (y2 : Int32) (y5 : Int32) (y6 : Int32) (y7 : Int32) (h : im_H) : im_Go im_zI 2 fm_125 139 [(0, .inr (some j)), (1, .inl y1), (2, .inl y2), (5, .inl y5), (6, .inl y6), (7, .inl y7)] [] h (fn_125_139 j y1 y2 y5 y6 y7 h) := by
  unfold fn_125_139
  refine x_aload_n dm_125_139 rfl ?_
  refine im_chk _ (fun hk1 => ?_)
  refine x_getI dm_125_140 fl_8_182 rfl rfl hk1 ?_
  refine x_bipush (16) dm_125_143 (by decide) ?_
  refine x_icmp_ge 190 dm_125_145 rfl (fun c2 => ?_) (fun c2 => ?_)
  · exact im_lsub [(0, .inr (some j)), (1, .inl y1), (2, .inl y2), (5, .inl y5), (6, .inl y6), (7, .inl y7)] (im_sb_c rfl (im_sb_c rfl (im_sb_c rfl (im_sb_c rfl (im_sb_c rfl (im_sb_c rfl im_sb_n)))))) (tn_125_190 j y1 y2 y5 y6 y7 h)
  · refine x_aload_n dm_125_148 rfl ?_
    refine x_getR dm_125_149 fl_8_80 rfl rfl hk1 ?_
    refine x_iconst (3) dm_125_152 (by decide) ?_
    refine x_aload_n dm_125_153 rfl ?_
    refine x_getI dm_125_154 fl_8_182 rfl rfl hk1 ?_
    refine x_imul dm_125_157 ?_
    refine x_iload_n dm_125_158 rfl ?_
    refine im_bind (fun q3 hq3 => ?_)
    refine im_chk _ (fun hi4 => ?_)
    refine x_iastore dm_125_159 hq3 hi4 ?_
    refine x_aload_n dm_125_160 rfl ?_
    refine x_getR dm_125_161 fl_8_80 rfl rfl hk1 ?_
    refine x_iconst (3) dm_125_164 (by decide) ?_
    refine x_aload_n dm_125_165 rfl ?_
    refine x_getI dm_125_166 fl_8_182 rfl rfl hk1 ?_
    refine x_imul dm_125_169 ?_
    refine x_iconst (1) dm_125_170 (by decide) ?_
    refine x_iadd dm_125_171 ?_
    refine x_iload dm_125_172 rfl ?_
    refine im_chk _ (fun hi6 => ?_)
    refine x_iastore dm_125_174 hq3 hi6 ?_
    refine x_aload_n dm_125_175 rfl ?_
    refine x_getR dm_125_176 fl_8_80 rfl rfl hk1 ?_
    refine x_iconst (3) dm_125_179 (by decide) ?_
    refine x_aload_n dm_125_180 rfl ?_
    refine x_getI dm_125_181 fl_8_182 rfl rfl hk1 ?_
    refine x_imul dm_125_184 ?_
    refine x_iconst (2) dm_125_185 (by decide) ?_
    refine x_iadd dm_125_186 ?_
    refine x_iload dm_125_187 rfl ?_
    refine im_chk _ (fun hi8 => ?_)
    refine x_iastore dm_125_189 hq3 hi8 ?_
    exact im_lsub [(0, .inr (some j)), (1, .inl y1), (2, .inl y2), (5, .inl y5), (6, .inl y6), (7, .inl y7)] (im_sb_c rfl (im_sb_c rfl (im_sb_c rfl (im_sb_c rfl (im_sb_c rfl (im_sb_c rfl im_sb_n)))))) (tn_125_190 j y1 y2 y5 y6 y7 _)
def fn_125_110 (j : Nat) (y1 : Int32) (y2 : Int32) (y5 : Int32) (y6 : Int32) (s0 : Int32) (h : im_H) : Option (Int32 × im_H) :=
  if s0 = 0 then (fn_125_139 j y1 y2 y5 y6 s0 h) else (if h.2.1 j = (0, 8) then ((fn_121 j ((8 : Int32) + y5) (((8 : Int32) + y5) + y6) h).bind fun b3 => if b3.1 = 0 then (fn_125_139 j y1 y2 y5 y6 s0 b3.2) else (some ((3 : Int32), b3.2))) else none)
set_option maxRecDepth 100000 in
set_option maxHeartbeats 4000000 in
theorem tn_125_110 (j : Nat) (y1 : Int32) (y2 : Int32) (y5 : Int32) (y6 : Int32) (s0 : Int32) (h : im_H) : im_Go im_zI 2 fm_125 110 [(0, .inr (some j)), (1, .inl y1), (2, .inl y2), (5, .inl y5), (6, .inl y6)] [.inl s0] h (fn_125_110 j y1 y2 y5 y6 s0 h) := by
  unfold fn_125_110
  refine x_istore dm_125_110 (Nat.le_of_ble_eq_true rfl) ?_
  refine x_iload dm_125_112 rfl ?_
  refine x_if_eq 139 dm_125_114 rfl (fun c1 => ?_) (fun c1 => ?_)
  · exact im_lsub [(0, .inr (some j)), (1, .inl y1), (2, .inl y2), (5, .inl y5), (6, .inl y6), (7, .inl s0)] (im_sb_c rfl (im_sb_c rfl (im_sb_c rfl (im_sb_c rfl (im_sb_c rfl (im_sb_c rfl im_sb_n)))))) (tn_125_139 j y1 y2 y5 y6 s0 h)
  · refine x_aload_n dm_125_117 rfl ?_
    refine x_bipush (8) dm_125_118 (by decide) ?_
    refine x_iload dm_125_120 rfl ?_
    refine x_iadd dm_125_122 ?_
    refine x_bipush (8) dm_125_123 (by decide) ?_
    refine x_iload dm_125_125 rfl ?_
    refine x_iadd dm_125_127 ?_
    refine x_iload dm_125_128 rfl ?_
    refine x_iadd dm_125_130 ?_
    refine im_chk _ (fun hk2 => ?_)
    refine im_callI mf_121 rfl (tn_121 j _ _ h) (im_runV (as := [.inl _, .inl _]) (rest := []) dm_125_131 mf_121 (Nat.le_of_ble_eq_true rfl) ml_8_192 mi_121 ms_121 mp_121 (Nat.le_of_ble_eq_true rfl) rfl hk2 ⟨_, _, rfl⟩) rfl (fun b3 hb3 => ?_)
    refine x_if_eq 139 dm_125_134 rfl (fun c4 => ?_) (fun c4 => ?_)
    · exact im_lsub [(0, .inr (some j)), (1, .inl y1), (2, .inl y2), (5, .inl y5), (6, .inl y6), (7, .inl s0)] (im_sb_c rfl (im_sb_c rfl (im_sb_c rfl (im_sb_c rfl (im_sb_c rfl (im_sb_c rfl im_sb_n)))))) (tn_125_139 j y1 y2 y5 y6 s0 b3.2)
    · refine x_iconst (3) dm_125_137 (by decide) ?_
      exact x_ireturn dm_125_138 rfl
def fn_125_109 (j : Nat) (y1 : Int32) (y2 : Int32) (y5 : Int32) (y6 : Int32) (h : im_H) : Option (Int32 × im_H) :=
  fn_125_110 j y1 y2 y5 y6 (0 : Int32) h
set_option maxRecDepth 100000 in
set_option maxHeartbeats 4000000 in
theorem tn_125_109 (j : Nat) (y1 : Int32) (y2 : Int32) (y5 : Int32) (y6 : Int32) (h : im_H) : im_Go im_zI 2 fm_125 109 [(0, .inr (some j)), (1, .inl y1), (2, .inl y2), (5, .inl y5), (6, .inl y6)] [] h (fn_125_109 j y1 y2 y5 y6 h) := by
  unfold fn_125_109
  refine x_iconst (0) dm_125_109 (by decide) ?_
  exact im_lsub [(0, .inr (some j)), (1, .inl y1), (2, .inl y2), (5, .inl y5), (6, .inl y6)] (im_sb_c rfl (im_sb_c rfl (im_sb_c rfl (im_sb_c rfl (im_sb_c rfl im_sb_n))))) (tn_125_110 j y1 y2 y5 y6 (0 : Int32) h)
def fn_125_88 (j : Nat) (y1 : Int32) (y2 : Int32) (y5 : Int32) (s0 : Int32) (h : im_H) : Option (Int32 × im_H) :=
  if y2 = (4 : Int32) then ((fn_115 y5 s0 h).bind fun b2 => if b2.1 = 0 then (fn_125_109 j y1 y2 y5 s0 b2.2) else (fn_125_110 j y1 y2 y5 s0 (1 : Int32) b2.2)) else (fn_125_109 j y1 y2 y5 s0 h)
set_option maxRecDepth 100000 in
set_option maxHeartbeats 4000000 in
theorem tn_125_88 (j : Nat) (y1 : Int32) (y2 : Int32) (y5 : Int32) (s0 : Int32) (h : im_H) : im_Go im_zI 2 fm_125 88 [(0, .inr (some j)), (1, .inl y1), (2, .inl y2), (5, .inl y5)] [.inl s0] h (fn_125_88 j y1 y2 y5 s0 h) := by
  unfold fn_125_88
  refine x_istore dm_125_88 (Nat.le_of_ble_eq_true rfl) ?_
  refine x_iload_n dm_125_90 rfl ?_
  refine x_iconst (4) dm_125_91 (by decide) ?_
  refine x_icmp_ne 109 dm_125_92 rfl (fun c1 => ?_) (fun c1 => ?_)
  · refine x_iload dm_125_95 rfl ?_
    refine x_iload dm_125_97 rfl ?_
    refine im_callI mf_115 rfl (tn_115 y5 s0 h) (im_runS (as := [.inl y5, .inl s0]) (rest := []) dm_125_99 mf_115 (Nat.le_of_ble_eq_true rfl) ml_8_151 mi_115 mp_115 (Nat.le_of_ble_eq_true rfl)) rfl (fun b2 hb2 => ?_)
    refine x_if_eq 109 dm_125_102 rfl (fun c3 => ?_) (fun c3 => ?_)
    · exact im_lsub [(0, .inr (some j)), (1, .inl y1), (2, .inl y2), (5, .inl y5), (6, .inl s0)] (im_sb_c rfl (im_sb_c rfl (im_sb_c rfl (im_sb_c rfl (im_sb_c rfl im_sb_n))))) (tn_125_109 j y1 y2 y5 s0 b2.2)
    · refine x_iconst (1) dm_125_105 (by decide) ?_
      refine x_goto 110 dm_125_106 rfl ?_
      exact im_lsub [(0, .inr (some j)), (1, .inl y1), (2, .inl y2), (5, .inl y5), (6, .inl s0)] (im_sb_c rfl (im_sb_c rfl (im_sb_c rfl (im_sb_c rfl (im_sb_c rfl im_sb_n))))) (tn_125_110 j y1 y2 y5 s0 (1 : Int32) b2.2)
  · exact im_lsub [(0, .inr (some j)), (1, .inl y1), (2, .inl y2), (5, .inl y5), (6, .inl s0)] (im_sb_c rfl (im_sb_c rfl (im_sb_c rfl (im_sb_c rfl (im_sb_c rfl im_sb_n))))) (tn_125_109 j y1 y2 y5 s0 h)
def fn_125_71 (j : Nat) (y1 : Int32) (y2 : Int32) (y4 : Int32) (s0 : Int32) (h : im_H) : Option (Int32 × im_H) :=
  if y4 = 0 then (fn_125_88 j y1 y2 s0 (0 : Int32) h) else (if h.2.1 j = (0, 8) then (((im_gR h j 25)).bind fun q3 => if im_in h 1 q3 (2 : Int32) then (fn_125_88 j y1 y2 s0 (im_gI h q3 ((2 : Int32)).toNatClampNeg) h) else none) else none)
set_option maxRecDepth 100000 in
set_option maxHeartbeats 4000000 in
theorem tn_125_71 (j : Nat) (y1 : Int32) (y2 : Int32) (y4 : Int32) (s0 : Int32) (h : im_H) : im_Go im_zI 2 fm_125 71 [(0, .inr (some j)), (1, .inl y1), (2, .inl y2), (4, .inl y4)] [.inl s0] h (fn_125_71 j y1 y2 y4 s0 h) := by
  unfold fn_125_71
  refine x_istore dm_125_71 (Nat.le_of_ble_eq_true rfl) ?_
  refine x_iload dm_125_73 rfl ?_
  refine x_if_eq 87 dm_125_75 rfl (fun c1 => ?_) (fun c1 => ?_)
  · refine x_iconst (0) dm_125_87 (by decide) ?_
    exact im_lsub [(0, .inr (some j)), (1, .inl y1), (2, .inl y2), (5, .inl s0)] (im_sb_c rfl (im_sb_c rfl (im_sb_c rfl (im_sb_c rfl im_sb_n)))) (tn_125_88 j y1 y2 s0 (0 : Int32) h)
  · refine x_aload_n dm_125_78 rfl ?_
    refine im_chk _ (fun hk2 => ?_)
    refine x_getR dm_125_79 fl_8_74 rfl rfl hk2 ?_
    refine x_iconst (2) dm_125_82 (by decide) ?_
    refine im_bind (fun q3 hq3 => ?_)
    refine im_chk _ (fun hi4 => ?_)
    refine x_iaload dm_125_83 hq3 hi4 ?_
    refine x_goto 88 dm_125_84 rfl ?_
    exact im_lsub [(0, .inr (some j)), (1, .inl y1), (2, .inl y2), (5, .inl s0)] (im_sb_c rfl (im_sb_c rfl (im_sb_c rfl (im_sb_c rfl im_sb_n)))) (tn_125_88 j y1 y2 s0 _ h)
def fn_125_57 (j : Nat) (y1 : Int32) (y2 : Int32) (y3 : Int32) (y4 : Int32) (h : im_H) : Option (Int32 × im_H) :=
  if y3 = 0 then (fn_125_71 j y1 y2 y4 (0 : Int32) h) else (if h.2.1 j = (0, 8) then (((im_gR h j 25)).bind fun q3 => if im_in h 1 q3 (1 : Int32) then (fn_125_71 j y1 y2 y4 (im_gI h q3 ((1 : Int32)).toNatClampNeg) h) else none) else none)
set_option maxRecDepth 100000 in
set_option maxHeartbeats 4000000 in
theorem tn_125_57 (j : Nat) (y1 : Int32) (y2 : Int32) (y3 : Int32) (y4 : Int32) (h : im_H) : im_Go im_zI 2 fm_125 57 [(0, .inr (some j)), (1, .inl y1), (2, .inl y2), (3, .inl y3), (4, .inl y4)] [] h (fn_125_57 j y1 y2 y3 y4 h) := by
  unfold fn_125_57
  refine x_iload_n dm_125_57 rfl ?_
  refine x_if_eq 70 dm_125_58 rfl (fun c1 => ?_) (fun c1 => ?_)
  · refine x_iconst (0) dm_125_70 (by decide) ?_
    exact im_lsub [(0, .inr (some j)), (1, .inl y1), (2, .inl y2), (4, .inl y4)] (im_sb_c rfl (im_sb_c rfl (im_sb_c rfl (im_sb_c rfl im_sb_n)))) (tn_125_71 j y1 y2 y4 (0 : Int32) h)
  · refine x_aload_n dm_125_61 rfl ?_
    refine im_chk _ (fun hk2 => ?_)
    refine x_getR dm_125_62 fl_8_74 rfl rfl hk2 ?_
    refine x_iconst (1) dm_125_65 (by decide) ?_
    refine im_bind (fun q3 hq3 => ?_)
    refine im_chk _ (fun hi4 => ?_)
    refine x_iaload dm_125_66 hq3 hi4 ?_
    refine x_goto 71 dm_125_67 rfl ?_
    exact im_lsub [(0, .inr (some j)), (1, .inl y1), (2, .inl y2), (4, .inl y4)] (im_sb_c rfl (im_sb_c rfl (im_sb_c rfl (im_sb_c rfl im_sb_n)))) (tn_125_71 j y1 y2 y4 _ h)
def fn_125_41 (j : Nat) (y1 : Int32) (y2 : Int32) (y3 : Int32) (y4 : Int32) (h : im_H) : Option (Int32 × im_H) :=
  if y4 = 0 then (fn_125_57 j y1 y2 y3 y4 h) else (if h.2.1 j = (0, 8) then (((im_gR h j 26)).bind fun q3 => if im_in h 2 q3 (2 : Int32) then (if (im_gI h q3 ((2 : Int32)).toNatClampNeg) = 0 then (fn_125_57 j y1 y2 y3 y4 h) else (some ((3 : Int32), h))) else none) else none)
set_option maxRecDepth 100000 in
set_option maxHeartbeats 4000000 in
theorem tn_125_41 (j : Nat) (y1 : Int32) (y2 : Int32) (y3 : Int32) (y4 : Int32) (h : im_H) : im_Go im_zI 2 fm_125 41 [(0, .inr (some j)), (1, .inl y1), (2, .inl y2), (3, .inl y3), (4, .inl y4)] [] h (fn_125_41 j y1 y2 y3 y4 h) := by
  unfold fn_125_41
  refine x_iload dm_125_41 rfl ?_
  refine x_if_eq 57 dm_125_43 rfl (fun c1 => ?_) (fun c1 => ?_)
  · exact im_lsub [(0, .inr (some j)), (1, .inl y1), (2, .inl y2), (3, .inl y3), (4, .inl y4)] (im_sb_c rfl (im_sb_c rfl (im_sb_c rfl (im_sb_c rfl (im_sb_c rfl im_sb_n))))) (tn_125_57 j y1 y2 y3 y4 h)
  · refine x_aload_n dm_125_46 rfl ?_
    refine im_chk _ (fun hk2 => ?_)
    refine x_getR dm_125_47 fl_8_77 rfl rfl hk2 ?_
    refine x_iconst (2) dm_125_50 (by decide) ?_
    refine im_bind (fun q3 hq3 => ?_)
    refine im_chk _ (fun hi4 => ?_)
    refine x_baload dm_125_51 hq3 hi4 ?_
    refine x_if_eq 57 dm_125_52 rfl (fun c5 => ?_) (fun c5 => ?_)
    · exact im_lsub [(0, .inr (some j)), (1, .inl y1), (2, .inl y2), (3, .inl y3), (4, .inl y4)] (im_sb_c rfl (im_sb_c rfl (im_sb_c rfl (im_sb_c rfl (im_sb_c rfl im_sb_n))))) (tn_125_57 j y1 y2 y3 y4 h)
    · refine x_iconst (3) dm_125_55 (by decide) ?_
      exact x_ireturn dm_125_56 rfl
def fn_125_19 (j : Nat) (y1 : Int32) (y2 : Int32) (s0 : Int32) (h : im_H) : Option (Int32 × im_H) :=
  (fn_92 y2 (4 : Int32) (5 : Int32) h).bind fun b1 => if s0 = 0 then (fn_125_41 j y1 y2 s0 b1.1 b1.2) else (if b1.2.2.1 j = (0, 8) then (((im_gR b1.2 j 26)).bind fun q4 => if im_in b1.2 2 q4 (1 : Int32) then (if (im_gI b1.2 q4 ((1 : Int32)).toNatClampNeg) = 0 then (fn_125_41 j y1 y2 s0 b1.1 b1.2) else (some ((3 : Int32), b1.2))) else none) else none)
set_option maxRecDepth 100000 in
set_option maxHeartbeats 4000000 in
theorem tn_125_19 (j : Nat) (y1 : Int32) (y2 : Int32) (s0 : Int32) (h : im_H) : im_Go im_zI 2 fm_125 19 [(0, .inr (some j)), (1, .inl y1), (2, .inl y2)] [.inl s0] h (fn_125_19 j y1 y2 s0 h) := by
  unfold fn_125_19
  refine x_istore_n dm_125_19 (Nat.le_of_ble_eq_true rfl) ?_
  refine x_iload_n dm_125_20 rfl ?_
  refine x_iconst (4) dm_125_21 (by decide) ?_
  refine x_iconst (5) dm_125_22 (by decide) ?_
  refine im_callI mf_92 rfl (tn_92 y2 (4 : Int32) (5 : Int32) h) (im_runS (as := [.inl y2, .inl (4 : Int32), .inl (5 : Int32)]) (rest := []) dm_125_23 mf_92 (Nat.le_of_ble_eq_true rfl) ml_8_83 mi_92 mp_92 (Nat.le_of_ble_eq_true rfl)) rfl (fun b1 hb1 => ?_)
  refine x_istore dm_125_26 (Nat.le_of_ble_eq_true rfl) ?_
  refine x_iload_n dm_125_28 rfl ?_
  refine x_if_eq 41 dm_125_29 rfl (fun c2 => ?_) (fun c2 => ?_)
  · exact im_lsub [(0, .inr (some j)), (1, .inl y1), (2, .inl y2), (3, .inl s0), (4, .inl b1.1)] (im_sb_c rfl (im_sb_c rfl (im_sb_c rfl (im_sb_c rfl (im_sb_c rfl im_sb_n))))) (tn_125_41 j y1 y2 s0 b1.1 b1.2)
  · refine x_aload_n dm_125_32 rfl ?_
    refine im_chk _ (fun hk3 => ?_)
    refine x_getR dm_125_33 fl_8_77 rfl rfl hk3 ?_
    refine x_iconst (1) dm_125_36 (by decide) ?_
    refine im_bind (fun q4 hq4 => ?_)
    refine im_chk _ (fun hi5 => ?_)
    refine x_baload dm_125_37 hq4 hi5 ?_
    refine x_if_ne 55 dm_125_38 rfl (fun c6 => ?_) (fun c6 => ?_)
    · exact im_lsub [(0, .inr (some j)), (1, .inl y1), (2, .inl y2), (3, .inl s0), (4, .inl b1.1)] (im_sb_c rfl (im_sb_c rfl (im_sb_c rfl (im_sb_c rfl (im_sb_c rfl im_sb_n))))) (tn_125_41 j y1 y2 s0 b1.1 b1.2)
    · refine x_iconst (3) dm_125_55 (by decide) ?_
      exact x_ireturn dm_125_56 rfl
def fn_125_14 (j : Nat) (y1 : Int32) (y2 : Int32) (h : im_H) : Option (Int32 × im_H) :=
  fn_125_19 j y1 y2 (1 : Int32) h
set_option maxRecDepth 100000 in
set_option maxHeartbeats 4000000 in
theorem tn_125_14 (j : Nat) (y1 : Int32) (y2 : Int32) (h : im_H) : im_Go im_zI 2 fm_125 14 [(0, .inr (some j)), (1, .inl y1), (2, .inl y2)] [] h (fn_125_14 j y1 y2 h) := by
  unfold fn_125_14
  refine x_iconst (1) dm_125_14 (by decide) ?_
  refine x_goto 19 dm_125_15 rfl ?_
  exact im_lsub [(0, .inr (some j)), (1, .inl y1), (2, .inl y2)] (im_sb_c rfl (im_sb_c rfl (im_sb_c rfl im_sb_n))) (tn_125_19 j y1 y2 (1 : Int32) h)
/-- FencedModulesModel.ask(II)I -/
def fn_125 (j : Nat) (x1 : Int32) (x2 : Int32) (h : im_H) : Option (Int32 × im_H) :=
  if x2 = (1 : Int32) then (fn_125_14 j x1 x2 h) else ((fn_92 x2 (3 : Int32) (5 : Int32) h).bind fun b2 => if b2.1 = 0 then (fn_125_19 j x1 x2 (0 : Int32) b2.2) else (fn_125_14 j x1 x2 b2.2))
set_option maxRecDepth 100000 in
set_option maxHeartbeats 4000000 in
theorem tn_125 (j : Nat) (x1 : Int32) (x2 : Int32) (h : im_H) : im_Go im_zI 2 fm_125 0 (im_en 0 [.inr (some j), .inl x1, .inl x2]) [] h (fn_125 j x1 x2 h) := by
  unfold fn_125
  refine x_iload_n dm_125_0 rfl ?_
  refine x_iconst (1) dm_125_1 (by decide) ?_
  refine x_icmp_eq 14 dm_125_2 rfl (fun c1 => ?_) (fun c1 => ?_)
  · exact im_lsub [(0, .inr (some j)), (1, .inl x1), (2, .inl x2)] (im_sb_c rfl (im_sb_c rfl (im_sb_c rfl im_sb_n))) (tn_125_14 j x1 x2 h)
  · refine x_iload_n dm_125_5 rfl ?_
    refine x_iconst (3) dm_125_6 (by decide) ?_
    refine x_iconst (5) dm_125_7 (by decide) ?_
    refine im_callI mf_92 rfl (tn_92 x2 (3 : Int32) (5 : Int32) h) (im_runS (as := [.inl x2, .inl (3 : Int32), .inl (5 : Int32)]) (rest := []) dm_125_8 mf_92 (Nat.le_of_ble_eq_true rfl) ml_8_83 mi_92 mp_92 (Nat.le_of_ble_eq_true rfl)) rfl (fun b2 hb2 => ?_)
    refine x_if_eq 18 dm_125_11 rfl (fun c3 => ?_) (fun c3 => ?_)
    · refine x_iconst (0) dm_125_18 (by decide) ?_
      exact im_lsub [(0, .inr (some j)), (1, .inl x1), (2, .inl x2)] (im_sb_c rfl (im_sb_c rfl (im_sb_c rfl im_sb_n))) (tn_125_19 j x1 x2 (0 : Int32) b2.2)
    · exact im_lsub [(0, .inr (some j)), (1, .inl x1), (2, .inl x2)] (im_sb_c rfl (im_sb_c rfl (im_sb_c rfl im_sb_n))) (tn_125_14 j x1 x2 b2.2)
def fn_102_25 (j : Nat) : Nat → Int32 → Int32 → im_H → Option (Int32 × im_H)
  | 0, _, _, _ => none
  | n + 1, y1, y2, h =>
    if h.2.1 j = (0, 8) then (if (im_gI h j 16) ≤ y2 then ((fn_100 j (0 : Int32) h).bind fun b3 => if b3.2.1 j = (0, 8) then (some ((im_gI b3 j 23), b3)) else none) else ((fn_103 j y2 y1 h).bind fun b5 => let v6 : Int32 := (y2 + (1 : Int32)); fn_102_25 j n y1 v6 b5)) else none
set_option maxRecDepth 100000 in
set_option maxHeartbeats 4000000 in
theorem tn_102_25 (j : Nat) : ∀ (n : Nat) (y1 : Int32) (y2 : Int32) (h : im_H), im_Go im_zI 3 fm_102 25 [(0, .inr (some j)), (1, .inl y1), (2, .inl y2)] [] h (fn_102_25 j n y1 y2 h)
  | 0, y1, y2, h => im_none
  | n + 1, y1, y2, h => by
    have ih := tn_102_25 j n
    unfold fn_102_25
    refine x_iload_n dm_102_25 rfl ?_
    refine x_aload_n dm_102_26 rfl ?_
    refine im_chk _ (fun hk1 => ?_)
    refine x_getI dm_102_27 fl_8_89 rfl rfl hk1 ?_
    refine x_icmp_ge 45 dm_102_30 rfl (fun c2 => ?_) (fun c2 => ?_)
    · refine x_aload_n dm_102_45 rfl ?_
      refine x_iconst (0) dm_102_46 (by decide) ?_
      refine im_callV mf_100 rfl (tn_100 j (0 : Int32) h) (im_runV (as := [.inl (0 : Int32)]) (rest := []) dm_102_47 mf_100 (Nat.le_of_ble_eq_true rfl) ml_8_112 mi_100 ms_100 mp_100 (Nat.le_of_ble_eq_true rfl) rfl hk1 ⟨_, _, rfl⟩) rfl (fun b3 hb3 => ?_)
      refine x_aload_n dm_102_50 rfl ?_
      refine im_chk _ (fun hk4 => ?_)
      refine x_getI dm_102_51 fl_8_93 rfl rfl hk4 ?_
      exact x_ireturn dm_102_54 rfl
    · refine x_aload_n dm_102_33 rfl ?_
      refine x_iload_n dm_102_34 rfl ?_
      refine x_iload_n dm_102_35 rfl ?_
      refine im_callV mf_103 rfl (tn_103 j y2 y1 h) (im_runV (as := [.inl y2, .inl y1]) (rest := []) dm_102_36 mf_103 (Nat.le_of_ble_eq_true rfl) ml_8_108 mi_103 ms_103 mp_103 (Nat.le_of_ble_eq_true rfl) rfl hk1 ⟨_, _, rfl⟩) rfl (fun b5 hb5 => ?_)
      refine x_iinc (1) dm_102_39 rfl (by decide) (Nat.le_of_ble_eq_true rfl) ?_
      refine x_goto 25 dm_102_42 rfl ?_
      exact im_lsub [(0, .inr (some j)), (1, .inl y1), (2, .inl _)] (im_sb_c rfl (im_sb_c rfl (im_sb_c rfl im_sb_n))) (ih y1 _ b5)
/-- FencedModulesModel.rewrite(I)I -/
def fn_102 (j : Nat) (x1 : Int32) (h : im_H) : Option (Int32 × im_H) :=
  (fn_92 x1 (0 : Int32) (2 : Int32) h).bind fun b1 => if b1.1 = 0 then (some ((-1 : Int32), b1.2)) else (if b1.2.2.1 j = (0, 8) then ((fn_98 j b1.2).bind fun b4 => if b4.1 = 0 then (some ((-1 : Int32), b4.2)) else (if b4.2.2.1 j = (0, 8) then (let h7 : im_H := im_pI b4.2 j 23 (0 : Int32); fn_102_25 j 1000 x1 (0 : Int32) h7) else none)) else none)
set_option maxRecDepth 100000 in
set_option maxHeartbeats 4000000 in
theorem tn_102 (j : Nat) (x1 : Int32) (h : im_H) : im_Go im_zI 3 fm_102 0 (im_en 0 [.inr (some j), .inl x1]) [] h (fn_102 j x1 h) := by
  unfold fn_102
  refine x_iload_n dm_102_0 rfl ?_
  refine x_iconst (0) dm_102_1 (by decide) ?_
  refine x_iconst (2) dm_102_2 (by decide) ?_
  refine im_callI mf_92 rfl (tn_92 x1 (0 : Int32) (2 : Int32) h) (im_runS (as := [.inl x1, .inl (0 : Int32), .inl (2 : Int32)]) (rest := []) dm_102_3 mf_92 (Nat.le_of_ble_eq_true rfl) ml_8_83 mi_92 mp_92 (Nat.le_of_ble_eq_true rfl)) rfl (fun b1 hb1 => ?_)
  refine x_if_eq 16 dm_102_6 rfl (fun c2 => ?_) (fun c2 => ?_)
  · refine x_iconst (-1) dm_102_16 (by decide) ?_
    exact x_ireturn dm_102_17 rfl
  · refine x_aload_n dm_102_9 rfl ?_
    refine im_chk _ (fun hk3 => ?_)
    refine im_callI mf_98 rfl (tn_98 j b1.2) (im_runV (as := []) (rest := []) dm_102_10 mf_98 (Nat.le_of_ble_eq_true rfl) ml_8_104 mi_98 ms_98 mp_98 (Nat.le_of_ble_eq_true rfl) rfl hk3 ⟨_, _, rfl⟩) rfl (fun b4 hb4 => ?_)
    refine x_if_ne 18 dm_102_13 rfl (fun c5 => ?_) (fun c5 => ?_)
    · refine x_iconst (-1) dm_102_16 (by decide) ?_
      exact x_ireturn dm_102_17 rfl
    · refine x_aload_n dm_102_18 rfl ?_
      refine x_iconst (0) dm_102_19 (by decide) ?_
      refine im_chk _ (fun hk6 => ?_)
      refine x_putI dm_102_20 fl_8_93 rfl rfl hk6 ?_
      refine x_iconst (0) dm_102_23 (by decide) ?_
      refine x_istore_n dm_102_24 (Nat.le_of_ble_eq_true rfl) ?_
      exact im_lsub [(0, .inr (some j)), (1, .inl x1), (2, .inl (0 : Int32))] (im_sb_c rfl (im_sb_c rfl (im_sb_c rfl im_sb_n))) (tn_102_25 j 1000 x1 (0 : Int32) _)
def fn_108_143 (j : Nat) (y1 : Int32) (y2 : Int32) (y6 : Int32) (h : im_H) : Option (Int32 × im_H) :=
  if y6 = 0 then (some ((0 : Int32), h)) else (if h.2.1 j = (0, 8) then ((fn_107 j y1 (6 : Int32) ((16 : Int32) * y2) (15 : Int32) h).bind fun b3 => if b3.1 = 0 then (some ((0 : Int32), b3.2)) else (if b3.2.2.1 j = (0, 8) then ((fn_107 j y1 (7 : Int32) ((64 : Int32) + ((32 : Int32) * y2)) (31 : Int32) b3.2).bind fun b6 => if b6.1 = 0 then (some ((0 : Int32), b6.2)) else (some ((1 : Int32), b6.2))) else none)) else none)
set_option maxRecDepth 100000 in
set_option maxHeartbeats 4000000 in
theorem tn_108_143 (j : Nat) (y1 : Int32) (y2 : Int32) (y6 : Int32) (h : im_H) : im_Go im_zI 3 fm_108 143 [(0, .inr (some j)), (1, .inl y1), (2, .inl y2), (6, .inl y6)] [] h (fn_108_143 j y1 y2 y6 h) := by
  unfold fn_108_143
  refine x_iload dm_108_143 rfl ?_
  refine x_if_eq 187 dm_108_145 rfl (fun c1 => ?_) (fun c1 => ?_)
  · refine x_iconst (0) dm_108_187 (by decide) ?_
    exact x_zreturn dm_108_188 rfl (by decide)
  · refine x_aload_n dm_108_148 rfl ?_
    refine x_iload_n dm_108_149 rfl ?_
    refine x_bipush (6) dm_108_150 (by decide) ?_
    refine x_bipush (16) dm_108_152 (by decide) ?_
    refine x_iload_n dm_108_154 rfl ?_
    refine x_imul dm_108_155 ?_
    refine x_bipush (15) dm_108_156 (by decide) ?_
    refine im_chk _ (fun hk2 => ?_)
    refine im_callI mf_107 rfl (tn_107 j y1 (6 : Int32) _ (15 : Int32) h) (im_runV (as := [.inl y1, .inl (6 : Int32), .inl _, .inl (15 : Int32)]) (rest := []) dm_108_158 mf_107 (Nat.le_of_ble_eq_true rfl) ml_8_127 mi_107 ms_107 mp_107 (Nat.le_of_ble_eq_true rfl) rfl hk2 ⟨_, _, rfl⟩) rfl (fun b3 hb3 => ?_)
    refine x_if_eq 187 dm_108_161 rfl (fun c4 => ?_) (fun c4 => ?_)
    · refine x_iconst (0) dm_108_187 (by decide) ?_
      exact x_zreturn dm_108_188 rfl (by decide)
    · refine x_aload_n dm_108_164 rfl ?_
      refine x_iload_n dm_108_165 rfl ?_
      refine x_bipush (7) dm_108_166 (by decide) ?_
      refine x_bipush (64) dm_108_168 (by decide) ?_
      refine x_bipush (32) dm_108_170 (by decide) ?_
      refine x_iload_n dm_108_172 rfl ?_
      refine x_imul dm_108_173 ?_
      refine x_iadd dm_108_174 ?_
      refine x_bipush (31) dm_108_175 (by decide) ?_
      refine im_chk _ (fun hk5 => ?_)
      refine im_callI mf_107 rfl (tn_107 j y1 (7 : Int32) _ (31 : Int32) b3.2) (im_runV (as := [.inl y1, .inl (7 : Int32), .inl _, .inl (31 : Int32)]) (rest := []) dm_108_177 mf_107 (Nat.le_of_ble_eq_true rfl) ml_8_127 mi_107 ms_107 mp_107 (Nat.le_of_ble_eq_true rfl) rfl hk5 ⟨_, _, rfl⟩) rfl (fun b6 hb6 => ?_)
      refine x_if_eq 187 dm_108_180 rfl (fun c7 => ?_) (fun c7 => ?_)
      · refine x_iconst (0) dm_108_187 (by decide) ?_
        exact x_zreturn dm_108_188 rfl (by decide)
      · refine x_iconst (1) dm_108_183 (by decide) ?_
        refine x_goto 188 dm_108_184 rfl ?_
        exact x_zreturn dm_108_188 rfl (by decide)
def fn_108_141 (j : Nat) (y1 : Int32) (y2 : Int32) (s0 : Int32) (h : im_H) : Option (Int32 × im_H) :=
  fn_108_143 j y1 y2 s0 h
set_option maxRecDepth 100000 in
set_option maxHeartbeats 4000000 in
theorem tn_108_141 (j : Nat) (y1 : Int32) (y2 : Int32) (s0 : Int32) (h : im_H) : im_Go im_zI 3 fm_108 141 [(0, .inr (some j)), (1, .inl y1), (2, .inl y2)] [.inl s0] h (fn_108_141 j y1 y2 s0 h) := by
  unfold fn_108_141
  refine x_istore dm_108_141 (Nat.le_of_ble_eq_true rfl) ?_
  exact im_lsub [(0, .inr (some j)), (1, .inl y1), (2, .inl y2), (6, .inl s0)] (im_sb_c rfl (im_sb_c rfl (im_sb_c rfl (im_sb_c rfl im_sb_n)))) (tn_108_143 j y1 y2 s0 h)
def fn_108_140 (j : Nat) (y1 : Int32) (y2 : Int32) (h : im_H) : Option (Int32 × im_H) :=
  fn_108_141 j y1 y2 (0 : Int32) h
set_option maxRecDepth 100000 in
set_option maxHeartbeats 4000000 in
theorem tn_108_140 (j : Nat) (y1 : Int32) (y2 : Int32) (h : im_H) : im_Go im_zI 3 fm_108 140 [(0, .inr (some j)), (1, .inl y1), (2, .inl y2)] [] h (fn_108_140 j y1 y2 h) := by
  unfold fn_108_140
  refine x_iconst (0) dm_108_140 (by decide) ?_
  exact im_lsub [(0, .inr (some j)), (1, .inl y1), (2, .inl y2)] (im_sb_c rfl (im_sb_c rfl (im_sb_c rfl im_sb_n))) (tn_108_141 j y1 y2 (0 : Int32) h)
def fn_108_119 (j : Nat) (y1 : Int32) (y2 : Int32) (y3 : Int32) (y5 : Int32) (h : im_H) : Option (Int32 × im_H) :=
  if ((y3 >>> ((7 : Int32) &&& 31)) &&& (7 : Int32)) = (6 : Int32) then (if y5 = 0 then (fn_108_141 j y1 y2 (1 : Int32) h) else (fn_108_140 j y1 y2 h)) else (fn_108_140 j y1 y2 h)
set_option maxRecDepth 100000 in
set_option maxHeartbeats 4000000 in
theorem tn_108_119 (j : Nat) (y1 : Int32) (y2 : Int32) (y3 : Int32) (y5 : Int32) (h : im_H) : im_Go im_zI 3 fm_108 119 [(0, .inr (some j)), (1, .inl y1), (2, .inl y2), (3, .inl y3), (5, .inl y5)] [] h (fn_108_119 j y1 y2 y3 y5 h) := by
  unfold fn_108_119
  refine x_iload_n dm_108_119 rfl ?_
  refine x_bipush (7) dm_108_120 (by decide) ?_
  refine x_ishr dm_108_122 ?_
  refine x_bipush (7) dm_108_123 (by decide) ?_
  refine x_iand dm_108_125 ?_
  refine x_bipush (6) dm_108_126 (by decide) ?_
  refine x_icmp_ne 140 dm_108_128 rfl (fun c1 => ?_) (fun c1 => ?_)
  · refine x_iload dm_108_131 rfl ?_
    refine x_if_ne 140 dm_108_133 rfl (fun c2 => ?_) (fun c2 => ?_)
    · refine x_iconst (1) dm_108_136 (by decide) ?_
      refine x_goto 141 dm_108_137 rfl ?_
      exact im_lsub [(0, .inr (some j)), (1, .inl y1), (2, .inl y2)] (im_sb_c rfl (im_sb_c rfl (im_sb_c rfl im_sb_n))) (tn_108_141 j y1 y2 (1 : Int32) h)
    · exact im_lsub [(0, .inr (some j)), (1, .inl y1), (2, .inl y2)] (im_sb_c rfl (im_sb_c rfl (im_sb_c rfl im_sb_n))) (tn_108_140 j y1 y2 h)
  · exact im_lsub [(0, .inr (some j)), (1, .inl y1), (2, .inl y2)] (im_sb_c rfl (im_sb_c rfl (im_sb_c rfl im_sb_n))) (tn_108_140 j y1 y2 h)
def fn_108_105 (j : Nat) (y1 : Int32) (y2 : Int32) (y3 : Int32) (y4 : Int32) (y5 : Int32) (y6 : Int32) (h : im_H) : Option (Int32 × im_H) :=
  if y4 = (8 : Int32) then (fn_108_119 j y1 y2 y3 y5 h) else (if y4 = (9 : Int32) then (fn_108_119 j y1 y2 y3 y5 h) else (fn_108_143 j y1 y2 y6 h))
set_option maxRecDepth 100000 in
set_option maxHeartbeats 4000000 in
theorem tn_108_105 (j : Nat) (y1 : Int32) (y2 : Int32) (y3 : Int32) (y4 : Int32) (y5 : Int32) (y6 : Int32) (h : im_H) : im_Go im_zI 3 fm_108 105 [(0, .inr (some j)), (1, .inl y1), (2, .inl y2), (3, .inl y3), (4, .inl y4), (5, .inl y5), (6, .inl y6)] [] h (fn_108_105 j y1 y2 y3 y4 y5 y6 h) := by
  unfold fn_108_105
  refine x_iload dm_108_105 rfl ?_
  refine x_bipush (8) dm_108_107 (by decide) ?_
  refine x_icmp_eq 119 dm_108_109 rfl (fun c1 => ?_) (fun c1 => ?_)
  · exact im_lsub [(0, .inr (some j)), (1, .inl y1), (2, .inl y2), (3, .inl y3), (5, .inl y5)] (im_sb_c rfl (im_sb_c rfl (im_sb_c rfl (im_sb_c rfl (im_sb_c rfl im_sb_n))))) (tn_108_119 j y1 y2 y3 y5 h)
  · refine x_iload dm_108_112 rfl ?_
    refine x_bipush (9) dm_108_114 (by decide) ?_
    refine x_icmp_ne 143 dm_108_116 rfl (fun c2 => ?_) (fun c2 => ?_)
    · exact im_lsub [(0, .inr (some j)), (1, .inl y1), (2, .inl y2), (3, .inl y3), (5, .inl y5)] (im_sb_c rfl (im_sb_c rfl (im_sb_c rfl (im_sb_c rfl (im_sb_c rfl im_sb_n))))) (tn_108_119 j y1 y2 y3 y5 h)
    · exact im_lsub [(0, .inr (some j)), (1, .inl y1), (2, .inl y2), (6, .inl y6)] (im_sb_c rfl (im_sb_c rfl (im_sb_c rfl (im_sb_c rfl im_sb_n)))) (tn_108_143 j y1 y2 y6 h)
def fn_108_88 (j : Nat) (y1 : Int32) (y2 : Int32) (y3 : Int32) (y4 : Int32) (y5 : Int32) (y6 : Int32) (h : im_H) : Option (Int32 × im_H) :=
  if y4 = (14 : Int32) then ((fn_92 y5 (0 : Int32) (6 : Int32) h).bind fun b2 => fn_108_105 j y1 y2 y3 y4 y5 b2.1 b2.2) else (fn_108_105 j y1 y2 y3 y4 y5 y6 h)
set_option maxRecDepth 100000 in
set_option maxHeartbeats 4000000 in
theorem tn_108_88 (j : Nat) (y1 : Int32) (y2 : Int32) (y3 : Int32) (y4 : Int32) (y5 : Int32) (y6 : Int32) (h : im_H) : im_Go im_zI 3 fm_108 88 [(0, .inr (some j)), (1, .inl y1), (2, .inl y2), (3, .inl y3), (4, .inl y4), (5, .inl y5), (6, .inl y6)] [] h (fn_108_88 j y1 y2 y3 y4 y5 y6 h) := by
  unfold fn_108_88
  refine x_iload dm_108_88 rfl ?_
  refine x_bipush (14) dm_108_90 (by decide) ?_
  refine x_icmp_ne 105 dm_108_92 rfl (fun c1 => ?_) (fun c1 => ?_)
  · refine x_iload dm_108_95 rfl ?_
    refine x_iconst (0) dm_108_97 (by decide) ?_
    refine x_bipush (6) dm_108_98 (by decide) ?_
    refine im_callI mf_92 rfl (tn_92 y5 (0 : Int32) (6 : Int32) h) (im_runS (as := [.inl y5, .inl (0 : Int32), .inl (6 : Int32)]) (rest := []) dm_108_100 mf_92 (Nat.le_of_ble_eq_true rfl) ml_8_83 mi_92 mp_92 (Nat.le_of_ble_eq_true rfl)) rfl (fun b2 hb2 => ?_)
    refine x_istore dm_108_103 (Nat.le_of_ble_eq_true rfl) ?_
    exact im_lsub [(0, .inr (some j)), (1, .inl y1), (2, .inl y2), (3, .inl y3), (4, .inl y4), (5, .inl y5), (6, .inl b2.1)] (im_sb_c rfl (im_sb_c rfl (im_sb_c rfl (im_sb_c rfl (im_sb_c rfl (im_sb_c rfl (im_sb_c rfl im_sb_n))))))) (tn_108_105 j y1 y2 y3 y4 y5 b2.1 b2.2)
  · exact im_lsub [(0, .inr (some j)), (1, .inl y1), (2, .inl y2), (3, .inl y3), (4, .inl y4), (5, .inl y5), (6, .inl y6)] (im_sb_c rfl (im_sb_c rfl (im_sb_c rfl (im_sb_c rfl (im_sb_c rfl (im_sb_c rfl (im_sb_c rfl im_sb_n))))))) (tn_108_105 j y1 y2 y3 y4 y5 y6 h)
def fn_108_86 (j : Nat) (y1 : Int32) (y2 : Int32) (y3 : Int32) (y4 : Int32) (y5 : Int32) (s0 : Int32) (h : im_H) : Option (Int32 × im_H) :=
  fn_108_88 j y1 y2 y3 y4 y5 s0 h
set_option maxRecDepth 100000 in
set_option maxHeartbeats 4000000 in
theorem tn_108_86 (j : Nat) (y1 : Int32) (y2 : Int32) (y3 : Int32) (y4 : Int32) (y5 : Int32) (s0 : Int32) (h : im_H) : im_Go im_zI 3 fm_108 86 [(0, .inr (some j)), (1, .inl y1), (2, .inl y2), (3, .inl y3), (4, .inl y4), (5, .inl y5)] [.inl s0] h (fn_108_86 j y1 y2 y3 y4 y5 s0 h) := by
  unfold fn_108_86
  refine x_istore dm_108_86 (Nat.le_of_ble_eq_true rfl) ?_
  exact im_lsub [(0, .inr (some j)), (1, .inl y1), (2, .inl y2), (3, .inl y3), (4, .inl y4), (5, .inl y5), (6, .inl s0)] (im_sb_c rfl (im_sb_c rfl (im_sb_c rfl (im_sb_c rfl (im_sb_c rfl (im_sb_c rfl (im_sb_c rfl im_sb_n))))))) (tn_108_88 j y1 y2 y3 y4 y5 s0 h)
def fn_108_63 (j : Nat) (y1 : Int32) (y2 : Int32) (y3 : Int32) (y4 : Int32) (y5 : Int32) (y6 : Int32) (h : im_H) : Option (Int32 × im_H) :=
  if y4 = (13 : Int32) then (if ((y3 >>> ((4 : Int32) &&& 31)) &&& (7 : Int32)) = (7 : Int32) then (fn_108_86 j y1 y2 y3 y4 y5 (1 : Int32) h) else (fn_108_86 j y1 y2 y3 y4 y5 (0 : Int32) h)) else (fn_108_88 j y1 y2 y3 y4 y5 y6 h)
set_option maxRecDepth 100000 in
set_option maxHeartbeats 4000000 in
theorem tn_108_63 (j : Nat) (y1 : Int32) (y2 : Int32) (y3 : Int32) (y4 : Int32) (y5 : Int32) (y6 : Int32) (h : im_H) : im_Go im_zI 3 fm_108 63 [(0, .inr (some j)), (1, .inl y1), (2, .inl y2), (3, .inl y3), (4, .inl y4), (5, .inl y5), (6, .inl y6)] [] h (fn_108_63 j y1 y2 y3 y4 y5 y6 h) := by
  unfold fn_108_63
  refine x_iload dm_108_63 rfl ?_
  refine x_bipush (13) dm_108_65 (by decide) ?_
  refine x_icmp_ne 88 dm_108_67 rfl (fun c1 => ?_) (fun c1 => ?_)
  · refine x_iload_n dm_108_70 rfl ?_
    refine x_iconst (4) dm_108_71 (by decide) ?_
    refine x_ishr dm_108_72 ?_
    refine x_bipush (7) dm_108_73 (by decide) ?_
    refine x_iand dm_108_75 ?_
    refine x_bipush (7) dm_108_76 (by decide) ?_
    refine x_icmp_ne 85 dm_108_78 rfl (fun c2 => ?_) (fun c2 => ?_)
    · refine x_iconst (1) dm_108_81 (by decide) ?_
      refine x_goto 86 dm_108_82 rfl ?_
      exact im_lsub [(0, .inr (some j)), (1, .inl y1), (2, .inl y2), (3, .inl y3), (4, .inl y4), (5, .inl y5)] (im_sb_c rfl (im_sb_c rfl (im_sb_c rfl (im_sb_c rfl (im_sb_c rfl (im_sb_c rfl im_sb_n)))))) (tn_108_86 j y1 y2 y3 y4 y5 (1 : Int32) h)
    · refine x_iconst (0) dm_108_85 (by decide) ?_
      exact im_lsub [(0, .inr (some j)), (1, .inl y1), (2, .inl y2), (3, .inl y3), (4, .inl y4), (5, .inl y5)] (im_sb_c rfl (im_sb_c rfl (im_sb_c rfl (im_sb_c rfl (im_sb_c rfl (im_sb_c rfl im_sb_n)))))) (tn_108_86 j y1 y2 y3 y4 y5 (0 : Int32) h)
  · exact im_lsub [(0, .inr (some j)), (1, .inl y1), (2, .inl y2), (3, .inl y3), (4, .inl y4), (5, .inl y5), (6, .inl y6)] (im_sb_c rfl (im_sb_c rfl (im_sb_c rfl (im_sb_c rfl (im_sb_c rfl (im_sb_c rfl (im_sb_c rfl im_sb_n))))))) (tn_108_88 j y1 y2 y3 y4 y5 y6 h)
def fn_108_31 (j : Nat) (y1 : Int32) (y2 : Int32) (y3 : Int32) (y4 : Int32) (y5 : Int32) (s0 : Int32) (h : im_H) : Option (Int32 × im_H) :=
  (fn_92 y4 (10 : Int32) (12 : Int32) h).bind fun b1 => if b1.1 = 0 then (fn_108_63 j y1 y2 y3 y4 y5 s0 b1.2) else (if b1.2.2.1 j = (0, 8) then ((fn_92 ((y1 + (1 : Int32)) + y5) (0 : Int32) ((im_gI b1.2 j 23) - (1 : Int32)) b1.2).bind fun b4 => fn_108_63 j y1 y2 y3 y4 y5 b4.1 b4.2) else none)
set_option maxRecDepth 100000 in
set_option maxHeartbeats 4000000 in
theorem tn_108_31 (j : Nat) (y1 : Int32) (y2 : Int32) (y3 : Int32) (y4 : Int32) (y5 : Int32) (s0 : Int32) (h : im_H) : im_Go im_zI 3 fm_108 31 [(0, .inr (some j)), (1, .inl y1), (2, .inl y2), (3, .inl y3), (4, .inl y4), (5, .inl y5)] [.inl s0] h (fn_108_31 j y1 y2 y3 y4 y5 s0 h) := by
  unfold fn_108_31
  refine x_istore dm_108_31 (Nat.le_of_ble_eq_true rfl) ?_
  refine x_iload dm_108_33 rfl ?_
  refine x_bipush (10) dm_108_35 (by decide) ?_
  refine x_bipush (12) dm_108_37 (by decide) ?_
  refine im_callI mf_92 rfl (tn_92 y4 (10 : Int32) (12 : Int32) h) (im_runS (as := [.inl y4, .inl (10 : Int32), .inl (12 : Int32)]) (rest := []) dm_108_39 mf_92 (Nat.le_of_ble_eq_true rfl) ml_8_83 mi_92 mp_92 (Nat.le_of_ble_eq_true rfl)) rfl (fun b1 hb1 => ?_)
  refine x_if_eq 63 dm_108_42 rfl (fun c2 => ?_) (fun c2 => ?_)
  · exact im_lsub [(0, .inr (some j)), (1, .inl y1), (2, .inl y2), (3, .inl y3), (4, .inl y4), (5, .inl y5), (6, .inl s0)] (im_sb_c rfl (im_sb_c rfl (im_sb_c rfl (im_sb_c rfl (im_sb_c rfl (im_sb_c rfl (im_sb_c rfl im_sb_n))))))) (tn_108_63 j y1 y2 y3 y4 y5 s0 b1.2)
  · refine x_iload_n dm_108_45 rfl ?_
    refine x_iconst (1) dm_108_46 (by decide) ?_
    refine x_iadd dm_108_47 ?_
    refine x_iload dm_108_48 rfl ?_
    refine x_iadd dm_108_50 ?_
    refine x_iconst (0) dm_108_51 (by decide) ?_
    refine x_aload_n dm_108_52 rfl ?_
    refine im_chk _ (fun hk3 => ?_)
    refine x_getI dm_108_53 fl_8_93 rfl rfl hk3 ?_
    refine x_iconst (1) dm_108_56 (by decide) ?_
    refine x_isub dm_108_57 ?_
    refine im_callI mf_92 rfl (tn_92 _ (0 : Int32) _ b1.2) (im_runS (as := [.inl _, .inl (0 : Int32), .inl _]) (rest := []) dm_108_58 mf_92 (Nat.le_of_ble_eq_true rfl) ml_8_83 mi_92 mp_92 (Nat.le_of_ble_eq_true rfl)) rfl (fun b4 hb4 => ?_)
    refine x_istore dm_108_61 (Nat.le_of_ble_eq_true rfl) ?_
    exact im_lsub [(0, .inr (some j)), (1, .inl y1), (2, .inl y2), (3, .inl y3), (4, .inl y4), (5, .inl y5), (6, .inl b4.1)] (im_sb_c rfl (im_sb_c rfl (im_sb_c rfl (im_sb_c rfl (im_sb_c rfl (im_sb_c rfl (im_sb_c rfl im_sb_n))))))) (tn_108_63 j y1 y2 y3 y4 y5 b4.1 b4.2)
/-- FencedModulesModel.safe(II)Z -/
def fn_108 (j : Nat) (x1 : Int32) (x2 : Int32) (h : im_H) : Option (Int32 × im_H) :=
  if h.2.1 j = (0, 8) then (((im_gR h j 24)).bind fun q2 => if im_in h 1 q2 x1 then (let v4 : Int32 := (im_gI h q2 (x1).toNatClampNeg); let v5 : Int32 := (v4 &&& (15 : Int32)); let v6 : Int32 := (v4 >>> ((10 : Int32) &&& 31)); if v5 = (15 : Int32) then (fn_108_31 j x1 x2 v4 v5 v6 (0 : Int32) h) else (fn_108_31 j x1 x2 v4 v5 v6 (1 : Int32) h)) else none) else none
set_option maxRecDepth 100000 in
set_option maxHeartbeats 4000000 in
theorem tn_108 (j : Nat) (x1 : Int32) (x2 : Int32) (h : im_H) : im_Go im_zI 3 fm_108 0 (im_en 0 [.inr (some j), .inl x1, .inl x2]) [] h (fn_108 j x1 x2 h) := by
  unfold fn_108
  refine x_aload_n dm_108_0 rfl ?_
  refine im_chk _ (fun hk1 => ?_)
  refine x_getR dm_108_1 fl_8_71 rfl rfl hk1 ?_
  refine x_iload_n dm_108_4 rfl ?_
  refine im_bind (fun q2 hq2 => ?_)
  refine im_chk _ (fun hi3 => ?_)
  refine x_iaload dm_108_5 hq2 hi3 ?_
  refine x_istore_n dm_108_6 (Nat.le_of_ble_eq_true rfl) ?_
  refine x_iload_n dm_108_7 rfl ?_
  refine x_bipush (15) dm_108_8 (by decide) ?_
  refine x_iand dm_108_10 ?_
  refine x_istore dm_108_11 (Nat.le_of_ble_eq_true rfl) ?_
  refine x_iload_n dm_108_13 rfl ?_
  refine x_bipush (10) dm_108_14 (by decide) ?_
  refine x_ishr dm_108_16 ?_
  refine x_istore dm_108_17 (Nat.le_of_ble_eq_true rfl) ?_
  refine x_iload dm_108_19 rfl ?_
  refine x_bipush (15) dm_108_21 (by decide) ?_
  refine x_icmp_eq 30 dm_108_23 rfl (fun c7 => ?_) (fun c7 => ?_)
  · refine x_iconst (0) dm_108_30 (by decide) ?_
    exact im_lsub [(0, .inr (some j)), (1, .inl x1), (2, .inl x2), (3, .inl _), (4, .inl _), (5, .inl _)] (im_sb_c rfl (im_sb_c rfl (im_sb_c rfl (im_sb_c rfl (im_sb_c rfl (im_sb_c rfl im_sb_n)))))) (tn_108_31 j x1 x2 _ _ _ (0 : Int32) h)
  · refine x_iconst (1) dm_108_26 (by decide) ?_
    refine x_goto 31 dm_108_27 rfl ?_
    exact im_lsub [(0, .inr (some j)), (1, .inl x1), (2, .inl x2), (3, .inl _), (4, .inl _), (5, .inl _)] (im_sb_c rfl (im_sb_c rfl (im_sb_c rfl (im_sb_c rfl (im_sb_c rfl (im_sb_c rfl im_sb_n)))))) (tn_108_31 j x1 x2 _ _ _ (1 : Int32) h)
