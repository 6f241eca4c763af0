def fn_116_100 (j : Nat) (s0 : Int32) (s1 : Int32) (s2 : Option Nat) (h : im_H) : Option (im_H) :=
  (s2).bind fun q1 => if im_in h 1 q1 s1 then (let h3 : im_H := im_pI h q1 (s1).toNatClampNeg s0; some h3) else none
set_option maxRecDepth 100000 in
set_option maxHeartbeats 4000000 in
theorem tn_116_100 (j : Nat) (s0 : Int32) (s1 : Int32) (s2 : Option Nat) (h : im_H) : im_Go im_zV 3 fm_116 100 [] [.inl s0, .inl s1, .inr s2] h (fn_116_100 j s0 s1 s2 h) := by
  unfold fn_116_100
  refine im_bind (fun q1 hq1 => ?_)
  refine im_chk _ (fun hi2 => ?_)
  refine x_iastore dm_116_100 hq1 hi2 ?_
  exact x_return dm_116_101 rfl
def fn_116_85 (j : Nat) (y1 : Int32) (y4 : Int32) (h : im_H) : Option (im_H) :=
  if h.2.1 j = (0, 8) then (if y4 = 0 then (fn_116_100 j (3 : Int32) y1 (im_gR h j 1) h) else (fn_116_100 j (2 : Int32) y1 (im_gR h j 1) h)) else none
set_option maxRecDepth 100000 in
set_option maxHeartbeats 4000000 in
theorem tn_116_85 (j : Nat) (y1 : Int32) (y4 : Int32) (h : im_H) : im_Go im_zV 3 fm_116 85 [(0, .inr (some j)), (1, .inl y1), (4, .inl y4)] [] h (fn_116_85 j y1 y4 h) := by
  unfold fn_116_85
  refine x_aload_n dm_116_85 rfl ?_
  refine im_chk _ (fun hk1 => ?_)
  refine x_getR dm_116_86 fl_8_13 rfl rfl hk1 ?_
  refine x_iload_n dm_116_89 rfl ?_
  refine x_iload dm_116_90 rfl ?_
  refine x_if_ne 99 dm_116_92 rfl (fun c2 => ?_) (fun c2 => ?_)
  · refine x_iconst (3) dm_116_95 (by decide) ?_
    refine x_goto 100 dm_116_96 rfl ?_
    exact im_lsub [] im_sb_n (tn_116_100 j (3 : Int32) y1 _ h)
  · refine x_iconst (2) dm_116_99 (by decide) ?_
    exact im_lsub [] im_sb_n (tn_116_100 j (2 : Int32) y1 _ h)
def fn_116_70 (j : Nat) (y1 : Int32) (y4 : Int32) (h : im_H) : Option (im_H) :=
  if y4 = (14 : Int32) then (if h.2.1 j = (0, 8) then ((fn_113 j y1 (0 : Int32) (0 : Int32) (0 : Int32) h).bind fun b3 => fn_116_85 j y1 y4 b3) else none) else (fn_116_85 j y1 y4 h)
set_option maxRecDepth 100000 in
set_option maxHeartbeats 4000000 in
theorem tn_116_70 (j : Nat) (y1 : Int32) (y4 : Int32) (h : im_H) : im_Go im_zV 3 fm_116 70 [(0, .inr (some j)), (1, .inl y1), (4, .inl y4)] [] h (fn_116_70 j y1 y4 h) := by
  unfold fn_116_70
  refine x_iload dm_116_70 rfl ?_
  refine x_bipush (14) dm_116_72 (by decide) ?_
  refine x_icmp_ne 85 dm_116_74 rfl (fun c1 => ?_) (fun c1 => ?_)
  · refine x_aload_n dm_116_77 rfl ?_
    refine x_iload_n dm_116_78 rfl ?_
    refine x_iconst (0) dm_116_79 (by decide) ?_
    refine x_iconst (0) dm_116_80 (by decide) ?_
    refine x_iconst (0) dm_116_81 (by decide) ?_
    refine im_chk _ (fun hk2 => ?_)
    refine im_callV mf_113 rfl (tn_113 j y1 (0 : Int32) (0 : Int32) (0 : Int32) h) (im_runV (as := [.inl y1, .inl (0 : Int32), .inl (0 : Int32), .inl (0 : Int32)]) (rest := []) dm_116_82 mf_113 (Nat.le_of_ble_eq_true rfl) ml_8_144 mi_113 ms_113 mp_113 (Nat.le_of_ble_eq_true rfl) rfl hk2 ⟨_, _, rfl⟩) rfl (fun b3 hb3 => ?_)
    exact im_lsub [(0, .inr (some j)), (1, .inl y1), (4, .inl y4)] (im_sb_c rfl (im_sb_c rfl (im_sb_c rfl im_sb_n))) (tn_116_85 j y1 y4 b3)
  · exact im_lsub [(0, .inr (some j)), (1, .inl y1), (4, .inl y4)] (im_sb_c rfl (im_sb_c rfl (im_sb_c rfl im_sb_n))) (tn_116_85 j y1 y4 h)
def fn_116_261 (j : Nat) (s0 : Int32) (s1 : Int32) (s2 : Option Nat) (h : im_H) : Option (im_H) :=
  (s2).bind fun q1 => if im_in h 1 q1 s1 then (let h3 : im_H := im_pI h q1 (s1).toNatClampNeg s0; some h3) else none
set_option maxRecDepth 100000 in
set_option maxHeartbeats 4000000 in
theorem tn_116_261 (j : Nat) (s0 : Int32) (s1 : Int32) (s2 : Option Nat) (h : im_H) : im_Go im_zV 3 fm_116 261 [] [.inl s0, .inl s1, .inr s2] h (fn_116_261 j s0 s1 s2 h) := by
  unfold fn_116_261
  refine im_bind (fun q1 hq1 => ?_)
  refine im_chk _ (fun hi2 => ?_)
  refine x_iastore dm_116_261 hq1 hi2 ?_
  refine x_goto 293 dm_116_262 rfl ?_
  exact x_return dm_116_293 rfl
def fn_116_102 (j : Nat) (y1 : Int32) (y2 : Int32) (y4 : Int32) (y5 : Int32) (y6 : Int32) (y7 : Int32) (h : im_H) : Option (im_H) :=
  if h.2.1 j = (0, 8) then (((im_gR h j 3)).bind fun q2 => if im_in h 1 q2 y1 then (let h4 : im_H := im_pI h q2 (y1).toNatClampNeg (y2 + (1 : Int32)); if y4 = (14 : Int32) then ((fn_114 j y1 y5 h4).bind fun b6 => some b6) else (if y4 = (8 : Int32) then (((im_gR h j 2)).bind fun q8 => if im_in h 1 q8 y7 then (((im_gR h j 0)).bind fun q10 => if im_in h 1 q10 ((im_gI h4 q8 (y7).toNatClampNeg) + y5) then (if im_in h 1 q8 y6 then (let h13 : im_H := im_pI h4 q8 (y6).toNatClampNeg (im_gI h4 q10 (((im_gI h4 q8 (y7).toNatClampNeg) + y5)).toNatClampNeg); some h13) else none) else none) else none) else (if y4 = (9 : Int32) then (((im_gR h j 2)).bind fun q15 => if im_in h 1 q15 y7 then (if im_in h 1 q15 y6 then (((im_gR h j 0)).bind fun q18 => if im_in h 1 q18 ((im_gI h4 q15 (y7).toNatClampNeg) + y5) then (let h20 : im_H := im_pI h4 q18 (((im_gI h4 q15 (y7).toNatClampNeg) + y5)).toNatClampNeg (im_gI h4 q15 (y6).toNatClampNeg); some h20) else none) else none) else none) else (if y4 = (13 : Int32) then (((im_gR h j 2)).bind fun q22 => if im_in h 1 q22 y6 then (let h24 : im_H := im_pI h4 q2 (y1).toNatClampNeg (im_gI h4 q22 (y6).toNatClampNeg); some h24) else none) else (if y4 ≤ (9 : Int32) then (((im_gR h j 2)).bind fun q26 => if im_in h 1 q26 y6 then (if im_in h 1 q26 y7 then ((fn_118 y4 (im_gI h4 q26 (y6).toNatClampNeg) (im_gI h4 q26 (y7).toNatClampNeg) y5 h4).bind fun b29 => if im_in b29.2 1 q26 y6 then (let h31 : im_H := im_pI b29.2 q26 (y6).toNatClampNeg b29.1; some h31) else none) else none) else none) else (((im_gR h j 2)).bind fun q32 => if im_in h 1 q32 y6 then (if im_in h 1 q32 y7 then ((fn_117 y4 (im_gI h4 q32 (y6).toNatClampNeg) (im_gI h4 q32 (y7).toNatClampNeg) h4).bind fun b35 => if b35.1 = 0 then (fn_116_261 j (y2 + (1 : Int32)) y1 (im_gR h j 3) b35.2) else (fn_116_261 j ((y2 + (1 : Int32)) + y5) y1 (im_gR h j 3) b35.2)) else none) else none)))))) else none) else none
set_option maxRecDepth 100000 in
set_option maxHeartbeats 4000000 in
theorem tn_116_102 (j : Nat) (y1 : Int32) (y2 : Int32) (y4 : Int32) (y5 : Int32) (y6 : Int32) (y7 : Int32) (h : im_H) : im_Go im_zV 3 fm_116 102 [(0, .inr (some j)), (1, .inl y1), (2, .inl y2), (4, .inl y4), (5, .inl y5), (6, .inl y6), (7, .inl y7)] [] h (fn_116_102 j y1 y2 y4 y5 y6 y7 h) := by
  unfold fn_116_102
  refine x_aload_n dm_116_102 rfl ?_
  refine im_chk _ (fun hk1 => ?_)
  refine x_getR dm_116_103 fl_8_19 rfl rfl hk1 ?_
  refine x_iload_n dm_116_106 rfl ?_
  refine x_iload_n dm_116_107 rfl ?_
  refine x_iconst (1) dm_116_108 (by decide) ?_
  refine x_iadd dm_116_109 ?_
  refine im_bind (fun q2 hq2 => ?_)
  refine im_chk _ (fun hi3 => ?_)
  refine x_iastore dm_116_110 hq2 hi3 ?_
  refine x_iload dm_116_111 rfl ?_
  refine x_bipush (14) dm_116_113 (by decide) ?_
  refine x_icmp_ne 128 dm_116_115 rfl (fun c5 => ?_) (fun c5 => ?_)
  · refine x_aload_n dm_116_118 rfl ?_
    refine x_iload_n dm_116_119 rfl ?_
    refine x_iload dm_116_120 rfl ?_
    refine im_callV mf_114 rfl (tn_114 j y1 y5 _) (im_runV (as := [.inl y1, .inl y5]) (rest := []) dm_116_122 mf_114 (Nat.le_of_ble_eq_true rfl) ml_8_154 mi_114 ms_114 mp_114 (Nat.le_of_ble_eq_true rfl) rfl hk1 ⟨_, _, rfl⟩) rfl (fun b6 hb6 => ?_)
    refine x_goto 293 dm_116_125 rfl ?_
    exact x_return dm_116_293 rfl
  · refine x_iload dm_116_128 rfl ?_
    refine x_bipush (8) dm_116_130 (by decide) ?_
    refine x_icmp_ne 160 dm_116_132 rfl (fun c7 => ?_) (fun c7 => ?_)
    · refine x_aload_n dm_116_135 rfl ?_
      refine x_getR dm_116_136 fl_8_16 rfl rfl hk1 ?_
      refine x_iload dm_116_139 rfl ?_
      refine x_aload_n dm_116_141 rfl ?_
      refine x_getR dm_116_142 fl_8_7 rfl rfl hk1 ?_
      refine x_aload_n dm_116_145 rfl ?_
      refine x_getR dm_116_146 fl_8_16 rfl rfl hk1 ?_
      refine x_iload dm_116_149 rfl ?_
      refine im_bind (fun q8 hq8 => ?_)
      refine im_chk _ (fun hi9 => ?_)
      refine x_iaload dm_116_151 hq8 hi9 ?_
      refine x_iload dm_116_152 rfl ?_
      refine x_iadd dm_116_154 ?_
      refine im_bind (fun q10 hq10 => ?_)
      refine im_chk _ (fun hi11 => ?_)
      refine x_iaload dm_116_155 hq10 hi11 ?_
      refine im_chk _ (fun hi12 => ?_)
      refine x_iastore dm_116_156 hq8 hi12 ?_
      refine x_goto 293 dm_116_157 rfl ?_
      exact x_return dm_116_293 rfl
    · refine x_iload dm_116_160 rfl ?_
      refine x_bipush (9) dm_116_162 (by decide) ?_
      refine x_icmp_ne 192 dm_116_164 rfl (fun c14 => ?_) (fun c14 => ?_)
      · refine x_aload_n dm_116_167 rfl ?_
        refine x_getR dm_116_168 fl_8_7 rfl rfl hk1 ?_
        refine x_aload_n dm_116_171 rfl ?_
        refine x_getR dm_116_172 fl_8_16 rfl rfl hk1 ?_
        refine x_iload dm_116_175 rfl ?_
        refine im_bind (fun q15 hq15 => ?_)
        refine im_chk _ (fun hi16 => ?_)
        refine x_iaload dm_116_177 hq15 hi16 ?_
        refine x_iload dm_116_178 rfl ?_
        refine x_iadd dm_116_180 ?_
        refine x_aload_n dm_116_181 rfl ?_
        refine x_getR dm_116_182 fl_8_16 rfl rfl hk1 ?_
        refine x_iload dm_116_185 rfl ?_
        refine im_chk _ (fun hi17 => ?_)
        refine x_iaload dm_116_187 hq15 hi17 ?_
        refine im_bind (fun q18 hq18 => ?_)
        refine im_chk _ (fun hi19 => ?_)
        refine x_iastore dm_116_188 hq18 hi19 ?_
        refine x_goto 293 dm_116_189 rfl ?_
        exact x_return dm_116_293 rfl
      · refine x_iload dm_116_192 rfl ?_
        refine x_bipush (13) dm_116_194 (by decide) ?_
        refine x_icmp_ne 215 dm_116_196 rfl (fun c21 => ?_) (fun c21 => ?_)
        · refine x_aload_n dm_116_199 rfl ?_
          refine x_getR dm_116_200 fl_8_19 rfl rfl hk1 ?_
          refine x_iload_n dm_116_203 rfl ?_
          refine x_aload_n dm_116_204 rfl ?_
          refine x_getR dm_116_205 fl_8_16 rfl rfl hk1 ?_
          refine x_iload dm_116_208 rfl ?_
          refine im_bind (fun q22 hq22 => ?_)
          refine im_chk _ (fun hi23 => ?_)
          refine x_iaload dm_116_210 hq22 hi23 ?_
          refine x_iastore dm_116_211 hq2 hi3 ?_
          refine x_goto 293 dm_116_212 rfl ?_
          exact x_return dm_116_293 rfl
        · refine x_iload dm_116_215 rfl ?_
          refine x_bipush (9) dm_116_217 (by decide) ?_
          refine x_icmp_le 265 dm_116_219 rfl (fun c25 => ?_) (fun c25 => ?_)
          · refine x_aload_n dm_116_265 rfl ?_
            refine x_getR dm_116_266 fl_8_16 rfl rfl hk1 ?_
            refine x_iload dm_116_269 rfl ?_
            refine x_iload dm_116_271 rfl ?_
            refine x_aload_n dm_116_273 rfl ?_
            refine x_getR dm_116_274 fl_8_16 rfl rfl hk1 ?_
            refine x_iload dm_116_277 rfl ?_
            refine im_bind (fun q26 hq26 => ?_)
            refine im_chk _ (fun hi27 => ?_)
            refine x_iaload dm_116_279 hq26 hi27 ?_
            refine x_aload_n dm_116_280 rfl ?_
            refine x_getR dm_116_281 fl_8_16 rfl rfl hk1 ?_
            refine x_iload dm_116_284 rfl ?_
            refine im_chk _ (fun hi28 => ?_)
            refine x_iaload dm_116_286 hq26 hi28 ?_
            refine x_iload dm_116_287 rfl ?_
            refine im_callI mf_118 rfl (tn_118 y4 _ _ y5 _) (im_runS (as := [.inl y4, .inl _, .inl _, .inl y5]) (rest := [.inl y6, .inr _]) dm_116_289 mf_118 (Nat.le_of_ble_eq_true rfl) ml_8_160 mi_118 mp_118 (Nat.le_of_ble_eq_true rfl)) rfl (fun b29 hb29 => ?_)
            refine im_chk _ (fun hi30 => ?_)
            refine x_iastore dm_116_292 hq26 hi30 ?_
            exact x_return dm_116_293 rfl
          · refine x_aload_n dm_116_222 rfl ?_
            refine x_getR dm_116_223 fl_8_19 rfl rfl hk1 ?_
            refine x_iload_n dm_116_226 rfl ?_
            refine x_iload dm_116_227 rfl ?_
            refine x_aload_n dm_116_229 rfl ?_
            refine x_getR dm_116_230 fl_8_16 rfl rfl hk1 ?_
            refine x_iload dm_116_233 rfl ?_
            refine im_bind (fun q32 hq32 => ?_)
            refine im_chk _ (fun hi33 => ?_)
            refine x_iaload dm_116_235 hq32 hi33 ?_
            refine x_aload_n dm_116_236 rfl ?_
            refine x_getR dm_116_237 fl_8_16 rfl rfl hk1 ?_
            refine x_iload dm_116_240 rfl ?_
            refine im_chk _ (fun hi34 => ?_)
            refine x_iaload dm_116_242 hq32 hi34 ?_
            refine im_callI mf_117 rfl (tn_117 y4 _ _ _) (im_runS (as := [.inl y4, .inl _, .inl _]) (rest := [.inl y1, .inr _]) dm_116_243 mf_117 (Nat.le_of_ble_eq_true rfl) ml_8_157 mi_117 mp_117 (Nat.le_of_ble_eq_true rfl)) rfl (fun b35 hb35 => ?_)
            refine x_if_eq 258 dm_116_246 rfl (fun c36 => ?_) (fun c36 => ?_)
            · refine x_iload_n dm_116_258 rfl ?_
              refine x_iconst (1) dm_116_259 (by decide) ?_
              refine x_iadd dm_116_260 ?_
              exact im_lsub [] im_sb_n (tn_116_261 j _ y1 _ b35.2)
            · refine x_iload_n dm_116_249 rfl ?_
              refine x_iconst (1) dm_116_250 (by decide) ?_
              refine x_iadd dm_116_251 ?_
              refine x_iload dm_116_252 rfl ?_
              refine x_iadd dm_116_254 ?_
              refine x_goto 261 dm_116_255 rfl ?_
              exact im_lsub [] im_sb_n (tn_116_261 j _ y1 _ b35.2)
/-- FencedModulesModel.step(I)V -/
def fn_116 (j : Nat) (x1 : Int32) (h : im_H) : Option (im_H) :=
  if h.2.1 j = (0, 8) then (((im_gR h j 3)).bind fun q2 => if im_in h 1 q2 x1 then (let v4 : Int32 := (im_gI h q2 (x1).toNatClampNeg); ((im_gR h j 0)).bind fun q5 => if im_in h 1 q5 v4 then (let v7 : Int32 := (im_gI h q5 (v4).toNatClampNeg); let v8 : Int32 := (v7 &&& (15 : Int32)); let v9 : Int32 := (v7 >>> ((10 : Int32) &&& 31)); let v10 : Int32 := (((8 : Int32) * x1) + ((v7 >>> ((4 : Int32) &&& 31)) &&& (7 : Int32))); let v11 : Int32 := (((8 : Int32) * x1) + ((v7 >>> ((7 : Int32) &&& 31)) &&& (7 : Int32))); if v8 = 0 then (fn_116_70 j x1 v8 h) else (if v8 = (14 : Int32) then (if v9 = 0 then (fn_116_70 j x1 v8 h) else (fn_116_102 j x1 v4 v8 v9 v10 v11 h)) else (fn_116_102 j x1 v4 v8 v9 v10 v11 h))) else none) else none) else none
set_option maxRecDepth 100000 in
set_option maxHeartbeats 4000000 in
theorem tn_116 (j : Nat) (x1 : Int32) (h : im_H) : im_Go im_zV 3 fm_116 0 (im_en 0 [.inr (some j), .inl x1]) [] h (fn_116 j x1 h) := by
  unfold fn_116
  refine x_aload_n dm_116_0 rfl ?_
  refine im_chk _ (fun hk1 => ?_)
  refine x_getR dm_116_1 fl_8_19 rfl rfl hk1 ?_
  refine x_iload_n dm_116_4 rfl ?_
  refine im_bind (fun q2 hq2 => ?_)
  refine im_chk _ (fun hi3 => ?_)
  refine x_iaload dm_116_5 hq2 hi3 ?_
  refine x_istore_n dm_116_6 (Nat.le_of_ble_eq_true rfl) ?_
  refine x_aload_n dm_116_7 rfl ?_
  refine x_getR dm_116_8 fl_8_7 rfl rfl hk1 ?_
  refine x_iload_n dm_116_11 rfl ?_
  refine im_bind (fun q5 hq5 => ?_)
  refine im_chk _ (fun hi6 => ?_)
  refine x_iaload dm_116_12 hq5 hi6 ?_
  refine x_istore_n dm_116_13 (Nat.le_of_ble_eq_true rfl) ?_
  refine x_iload_n dm_116_14 rfl ?_
  refine x_bipush (15) dm_116_15 (by decide) ?_
  refine x_iand dm_116_17 ?_
  refine x_istore dm_116_18 (Nat.le_of_ble_eq_true rfl) ?_
  refine x_iload_n dm_116_20 rfl ?_
  refine x_bipush (10) dm_116_21 (by decide) ?_
  refine x_ishr dm_116_23 ?_
  refine x_istore dm_116_24 (Nat.le_of_ble_eq_true rfl) ?_
  refine x_bipush (8) dm_116_26 (by decide) ?_
  refine x_iload_n dm_116_28 rfl ?_
  refine x_imul dm_116_29 ?_
  refine x_iload_n dm_116_30 rfl ?_
  refine x_iconst (4) dm_116_31 (by decide) ?_
  refine x_ishr dm_116_32 ?_
  refine x_bipush (7) dm_116_33 (by decide) ?_
  refine x_iand dm_116_35 ?_
  refine x_iadd dm_116_36 ?_
  refine x_istore dm_116_37 (Nat.le_of_ble_eq_true rfl) ?_
  refine x_bipush (8) dm_116_39 (by decide) ?_
  refine x_iload_n dm_116_41 rfl ?_
  refine x_imul dm_116_42 ?_
  refine x_iload_n dm_116_43 rfl ?_
  refine x_bipush (7) dm_116_44 (by decide) ?_
  refine x_ishr dm_116_46 ?_
  refine x_bipush (7) dm_116_47 (by decide) ?_
  refine x_iand dm_116_49 ?_
  refine x_iadd dm_116_50 ?_
  refine x_istore dm_116_51 (Nat.le_of_ble_eq_true rfl) ?_
  refine x_iload dm_116_53 rfl ?_
  refine x_if_eq 70 dm_116_55 rfl (fun c12 => ?_) (fun c12 => ?_)
  · exact im_lsub [(0, .inr (some j)), (1, .inl x1), (4, .inl _)] (im_sb_c rfl (im_sb_c rfl (im_sb_c rfl im_sb_n))) (tn_116_70 j x1 _ h)
  · refine x_iload dm_116_58 rfl ?_
    refine x_bipush (14) dm_116_60 (by decide) ?_
    refine x_icmp_ne 102 dm_116_62 rfl (fun c13 => ?_) (fun c13 => ?_)
    · refine x_iload dm_116_65 rfl ?_
      refine x_if_ne 102 dm_116_67 rfl (fun c14 => ?_) (fun c14 => ?_)
      · exact im_lsub [(0, .inr (some j)), (1, .inl x1), (4, .inl _)] (im_sb_c rfl (im_sb_c rfl (im_sb_c rfl im_sb_n))) (tn_116_70 j x1 _ h)
      · exact im_lsub [(0, .inr (some j)), (1, .inl x1), (2, .inl _), (4, .inl _), (5, .inl _), (6, .inl _), (7, .inl _)] (im_sb_c rfl (im_sb_c rfl (im_sb_c rfl (im_sb_c rfl (im_sb_c rfl (im_sb_c rfl (im_sb_c rfl im_sb_n))))))) (tn_116_102 j x1 _ _ _ _ _ h)
    · exact im_lsub [(0, .inr (some j)), (1, .inl x1), (2, .inl _), (4, .inl _), (5, .inl _), (6, .inl _), (7, .inl _)] (im_sb_c rfl (im_sb_c rfl (im_sb_c rfl (im_sb_c rfl (im_sb_c rfl (im_sb_c rfl (im_sb_c rfl im_sb_n))))))) (tn_116_102 j x1 _ _ _ _ _ h)
def fn_124_452 (j : Nat) (s0 : Int32) (s1 : Option Nat) (h : im_H) : Option (Int32 × im_H) :=
  (s1).bind fun q1 => if h.2.1 q1 = (0, 8) then (let h3 : im_H := im_pI h q1 27 s0; some ((0 : Int32), h3)) else none
set_option maxRecDepth 100000 in
set_option maxHeartbeats 4000000 in
theorem tn_124_452 (j : Nat) (s0 : Int32) (s1 : Option Nat) (h : im_H) : im_Go im_zI 3 fm_124 452 [] [.inl s0, .inr s1] h (fn_124_452 j s0 s1 h) := by
  unfold fn_124_452
  refine im_bind (fun q1 hq1 => ?_)
  refine im_chk _ (fun hk2 => ?_)
  refine x_putI dm_124_452 fl_8_173 rfl hq1 hk2 ?_
  refine x_iconst (0) dm_124_455 (by decide) ?_
  exact x_ireturn dm_124_456 rfl
def fn_124_446 (j : Nat) (s0 : Option Nat) (h : im_H) : Option (Int32 × im_H) :=
  if h.2.1 j = (0, 8) then (fn_124_452 j ((im_gI h j 27) + (1 : Int32)) s0 h) else none
set_option maxRecDepth 100000 in
set_option maxHeartbeats 4000000 in
theorem tn_124_446 (j : Nat) (s0 : Option Nat) (h : im_H) : im_Go im_zI 3 fm_124 446 [(0, .inr (some j))] [.inr s0] h (fn_124_446 j s0 h) := by
  unfold fn_124_446
  refine x_aload_n dm_124_446 rfl ?_
  refine im_chk _ (fun hk1 => ?_)
  refine x_getI dm_124_447 fl_8_173 rfl rfl hk1 ?_
  refine x_iconst (1) dm_124_450 (by decide) ?_
  refine x_iadd dm_124_451 ?_
  exact im_lsub [] im_sb_n (tn_124_452 j _ s0 h)
def fn_124_404 (j : Nat) (y2 : Int32) (y3 : Int32) (y4 : Int32) (y5 : Int32) (h : im_H) : Option (Int32 × im_H) :=
  (fn_92 y2 (10 : Int32) (12 : Int32) h).bind fun b1 => if b1.1 = 0 then (fn_124_446 j (some j) b1.2) else (if b1.2.2.1 j = (0, 8) then (((im_gR b1.2 j 25)).bind fun q4 => if im_in b1.2 1 q4 y3 then (if im_in b1.2 1 q4 y4 then ((fn_117 y2 (im_gI b1.2 q4 (y3).toNatClampNeg) (im_gI b1.2 q4 (y4).toNatClampNeg) b1.2).bind fun b7 => if b7.1 = 0 then (fn_124_446 j (some j) b7.2) else (if b7.2.2.1 j = (0, 8) then (((im_gR b7.2 j 22)).bind fun q10 => if im_in b7.2 1 q10 y5 then (fn_124_452 j (im_gI b7.2 q10 (y5).toNatClampNeg) (some j) b7.2) else none) else none)) else none) else none) else none)
set_option maxRecDepth 100000 in
set_option maxHeartbeats 4000000 in
theorem tn_124_404 (j : Nat) (y2 : Int32) (y3 : Int32) (y4 : Int32) (y5 : Int32) (h : im_H) : im_Go im_zI 3 fm_124 404 [(0, .inr (some j)), (2, .inl y2), (3, .inl y3), (4, .inl y4), (5, .inl y5)] [] h (fn_124_404 j y2 y3 y4 y5 h) := by
  unfold fn_124_404
  refine x_aload_n dm_124_404 rfl ?_
  refine x_iload_n dm_124_405 rfl ?_
  refine x_bipush (10) dm_124_406 (by decide) ?_
  refine x_bipush (12) dm_124_408 (by decide) ?_
  refine im_callI mf_92 rfl (tn_92 y2 (10 : Int32) (12 : Int32) h) (im_runS (as := [.inl y2, .inl (10 : Int32), .inl (12 : Int32)]) (rest := [.inr (some j)]) dm_124_410 mf_92 (Nat.le_of_ble_eq_true rfl) ml_8_83 mi_92 mp_92 (Nat.le_of_ble_eq_true rfl)) rfl (fun b1 hb1 => ?_)
  refine x_if_eq 446 dm_124_413 rfl (fun c2 => ?_) (fun c2 => ?_)
  · exact im_lsub [(0, .inr (some j))] (im_sb_c rfl im_sb_n) (tn_124_446 j (some j) b1.2)
  · refine x_iload_n dm_124_416 rfl ?_
    refine x_aload_n dm_124_417 rfl ?_
    refine im_chk _ (fun hk3 => ?_)
    refine x_getR dm_124_418 fl_8_74 rfl rfl hk3 ?_
    refine x_iload_n dm_124_421 rfl ?_
    refine im_bind (fun q4 hq4 => ?_)
    refine im_chk _ (fun hi5 => ?_)
    refine x_iaload dm_124_422 hq4 hi5 ?_
    refine x_aload_n dm_124_423 rfl ?_
    refine x_getR dm_124_424 fl_8_74 rfl rfl hk3 ?_
    refine x_iload dm_124_427 rfl ?_
    refine im_chk _ (fun hi6 => ?_)
    refine x_iaload dm_124_429 hq4 hi6 ?_
    refine im_callI mf_117 rfl (tn_117 y2 _ _ b1.2) (im_runS (as := [.inl y2, .inl _, .inl _]) (rest := [.inr (some j)]) dm_124_430 mf_117 (Nat.le_of_ble_eq_true rfl) ml_8_157 mi_117 mp_117 (Nat.le_of_ble_eq_true rfl)) rfl (fun b7 hb7 => ?_)
    refine x_if_eq 446 dm_124_433 rfl (fun c8 => ?_) (fun c8 => ?_)
    · exact im_lsub [(0, .inr (some j))] (im_sb_c rfl im_sb_n) (tn_124_446 j (some j) b7.2)
    · refine x_aload_n dm_124_436 rfl ?_
      refine im_chk _ (fun hk9 => ?_)
      refine x_getR dm_124_437 fl_8_68 rfl rfl hk9 ?_
      refine x_iload dm_124_440 rfl ?_
      refine im_bind (fun q10 hq10 => ?_)
      refine im_chk _ (fun hi11 => ?_)
      refine x_iaload dm_124_442 hq10 hi11 ?_
      refine x_goto 452 dm_124_443 rfl ?_
      exact im_lsub [] im_sb_n (tn_124_452 j _ (some j) b7.2)
def fn_124_318 (j : Nat) (y2 : Int32) (y3 : Int32) (y4 : Int32) (y5 : Int32) (h : im_H) : Option (Int32 × im_H) :=
  fn_124_404 j y2 y3 y4 y5 h
set_option maxRecDepth 100000 in
set_option maxHeartbeats 4000000 in
theorem tn_124_318 (j : Nat) (y2 : Int32) (y3 : Int32) (y4 : Int32) (y5 : Int32) (h : im_H) : im_Go im_zI 3 fm_124 318 [(0, .inr (some j)), (2, .inl y2), (3, .inl y3), (4, .inl y4), (5, .inl y5)] [] h (fn_124_318 j y2 y3 y4 y5 h) := by
  unfold fn_124_318
  refine x_goto 404 dm_124_318 rfl ?_
  exact im_lsub [(0, .inr (some j)), (2, .inl y2), (3, .inl y3), (4, .inl y4), (5, .inl y5)] (im_sb_c rfl (im_sb_c rfl (im_sb_c rfl (im_sb_c rfl (im_sb_c rfl im_sb_n))))) (tn_124_404 j y2 y3 y4 y5 h)
def fn_124_238 (j : Nat) (y2 : Int32) (y3 : Int32) (y4 : Int32) (y5 : Int32) (h : im_H) : Option (Int32 × im_H) :=
  if h.2.1 j = (0, 8) then (((im_gR h j 25)).bind fun q2 => if im_in h 1 q2 y4 then (let v4 : Int32 := ((im_gI h q2 (y4).toNatClampNeg) + y5); (fn_92 v4 (0 : Int32) (15 : Int32) h).bind fun b5 => if b5.1 = 0 then (some ((5 : Int32), b5.2)) else (if y2 = (8 : Int32) then (if b5.2.2.1 j = (0, 8) then (((im_gR b5.2 j 25)).bind fun q9 => if im_in b5.2 1 q9 ((8 : Int32) + v4) then (((im_gR b5.2 j 26)).bind fun q11 => if im_in b5.2 2 q11 ((8 : Int32) + v4) then ((fn_122 j y3 (im_gI b5.2 q9 (((8 : Int32) + v4)).toNatClampNeg) (im_gI b5.2 q11 (((8 : Int32) + v4)).toNatClampNeg) b5.2).bind fun b13 => fn_124_318 j y2 y3 y4 y5 b13) else none) else none) else none) else (if b5.2.2.1 j = (0, 8) then (((im_gR b5.2 j 25)).bind fun q15 => if im_in b5.2 1 q15 y3 then (((im_gR b5.2 j 26)).bind fun q17 => if im_in b5.2 2 q17 y3 then ((fn_122 j ((8 : Int32) + v4) (im_gI b5.2 q15 (y3).toNatClampNeg) (im_gI b5.2 q17 (y3).toNatClampNeg) b5.2).bind fun b19 => fn_124_318 j y2 y3 y4 y5 b19) else none) else none) else none))) else none) else none
set_option maxRecDepth 100000 in
set_option maxHeartbeats 4000000 in
theorem tn_124_238 (j : Nat) (y2 : Int32) (y3 : Int32) (y4 : Int32) (y5 : Int32) (h : im_H) : im_Go im_zI 3 fm_124 238 [(0, .inr (some j)), (2, .inl y2), (3, .inl y3), (4, .inl y4), (5, .inl y5)] [] h (fn_124_238 j y2 y3 y4 y5 h) := by
  unfold fn_124_238
  refine x_aload_n dm_124_238 rfl ?_
  refine im_chk _ (fun hk1 => ?_)
  refine x_getR dm_124_239 fl_8_74 rfl rfl hk1 ?_
  refine x_iload dm_124_242 rfl ?_
  refine im_bind (fun q2 hq2 => ?_)
  refine im_chk _ (fun hi3 => ?_)
  refine x_iaload dm_124_244 hq2 hi3 ?_
  refine x_iload dm_124_245 rfl ?_
  refine x_iadd dm_124_247 ?_
  refine x_istore dm_124_248 (Nat.le_of_ble_eq_true rfl) ?_
  refine x_iload dm_124_250 rfl ?_
  refine x_iconst (0) dm_124_252 (by decide) ?_
  refine x_bipush (15) dm_124_253 (by decide) ?_
  refine im_callI mf_92 rfl (tn_92 _ (0 : Int32) (15 : Int32) h) (im_runS (as := [.inl _, .inl (0 : Int32), .inl (15 : Int32)]) (rest := []) dm_124_255 mf_92 (Nat.le_of_ble_eq_true rfl) ml_8_83 mi_92 mp_92 (Nat.le_of_ble_eq_true rfl)) rfl (fun b5 hb5 => ?_)
  refine x_if_ne 263 dm_124_258 rfl (fun c6 => ?_) (fun c6 => ?_)
  · refine x_iconst (5) dm_124_261 (by decide) ?_
    exact x_ireturn dm_124_262 rfl
  · refine x_iload_n dm_124_263 rfl ?_
    refine x_bipush (8) dm_124_264 (by decide) ?_
    refine x_icmp_ne 297 dm_124_266 rfl (fun c7 => ?_) (fun c7 => ?_)
    · refine x_aload_n dm_124_269 rfl ?_
      refine x_iload_n dm_124_270 rfl ?_
      refine x_aload_n dm_124_271 rfl ?_
      refine im_chk _ (fun hk8 => ?_)
      refine x_getR dm_124_272 fl_8_74 rfl rfl hk8 ?_
      refine x_bipush (8) dm_124_275 (by decide) ?_
      refine x_iload dm_124_277 rfl ?_
      refine x_iadd dm_124_279 ?_
      refine im_bind (fun q9 hq9 => ?_)
      refine im_chk _ (fun hi10 => ?_)
      refine x_iaload dm_124_280 hq9 hi10 ?_
      refine x_aload_n dm_124_281 rfl ?_
      refine x_getR dm_124_282 fl_8_77 rfl rfl hk8 ?_
      refine x_bipush (8) dm_124_285 (by decide) ?_
      refine x_iload dm_124_287 rfl ?_
      refine x_iadd dm_124_289 ?_
      refine im_bind (fun q11 hq11 => ?_)
      refine im_chk _ (fun hi12 => ?_)
      refine x_baload dm_124_290 hq11 hi12 ?_
      refine im_callV mf_122 rfl (tn_122 j y3 _ _ b5.2) (im_runV (as := [.inl y3, .inl _, .inl _]) (rest := []) dm_124_291 mf_122 (Nat.le_of_ble_eq_true rfl) ml_8_169 mi_122 ms_122 mp_122 (Nat.le_of_ble_eq_true rfl) rfl hk8 ⟨_, _, rfl⟩) rfl (fun b13 hb13 => ?_)
      refine x_goto 318 dm_124_294 rfl ?_
      exact im_lsub [(0, .inr (some j)), (2, .inl y2), (3, .inl y3), (4, .inl y4), (5, .inl y5)] (im_sb_c rfl (im_sb_c rfl (im_sb_c rfl (im_sb_c rfl (im_sb_c rfl im_sb_n))))) (tn_124_318 j y2 y3 y4 y5 b13)
    · refine x_aload_n dm_124_297 rfl ?_
      refine x_bipush (8) dm_124_298 (by decide) ?_
      refine x_iload dm_124_300 rfl ?_
      refine x_iadd dm_124_302 ?_
      refine x_aload_n dm_124_303 rfl ?_
      refine im_chk _ (fun hk14 => ?_)
      refine x_getR dm_124_304 fl_8_74 rfl rfl hk14 ?_
      refine x_iload_n dm_124_307 rfl ?_
      refine im_bind (fun q15 hq15 => ?_)
      refine im_chk _ (fun hi16 => ?_)
      refine x_iaload dm_124_308 hq15 hi16 ?_
      refine x_aload_n dm_124_309 rfl ?_
      refine x_getR dm_124_310 fl_8_77 rfl rfl hk14 ?_
      refine x_iload_n dm_124_313 rfl ?_
      refine im_bind (fun q17 hq17 => ?_)
      refine im_chk _ (fun hi18 => ?_)
      refine x_baload dm_124_314 hq17 hi18 ?_
      refine im_callV mf_122 rfl (tn_122 j _ _ _ b5.2) (im_runV (as := [.inl _, .inl _, .inl _]) (rest := []) dm_124_315 mf_122 (Nat.le_of_ble_eq_true rfl) ml_8_169 mi_122 ms_122 mp_122 (Nat.le_of_ble_eq_true rfl) rfl hk14 ⟨_, _, rfl⟩) rfl (fun b19 hb19 => ?_)
      exact im_lsub [(0, .inr (some j)), (2, .inl y2), (3, .inl y3), (4, .inl y4), (5, .inl y5)] (im_sb_c rfl (im_sb_c rfl (im_sb_c rfl (im_sb_c rfl (im_sb_c rfl im_sb_n))))) (tn_124_318 j y2 y3 y4 y5 b19)
def fn_124_369 (j : Nat) (y2 : Int32) (y3 : Int32) (y4 : Int32) (y5 : Int32) (h : im_H) : Option (Int32 × im_H) :=
  if (8 : Int32) ≤ y2 then (fn_124_404 j y2 y3 y4 y5 h) else (if h.2.1 j = (0, 8) then (((im_gR h j 25)).bind fun q3 => if im_in h 1 q3 y3 then (if im_in h 1 q3 y4 then ((fn_118 y2 (im_gI h q3 (y3).toNatClampNeg) (im_gI h q3 (y4).toNatClampNeg) y5 h).bind fun b6 => if b6.2.2.1 j = (0, 8) then ((fn_122 j y3 b6.1 (0 : Int32) b6.2).bind fun b8 => fn_124_404 j y2 y3 y4 y5 b8) else none) else none) else none) else none)
set_option maxRecDepth 100000 in
set_option maxHeartbeats 4000000 in
theorem tn_124_369 (j : Nat) (y2 : Int32) (y3 : Int32) (y4 : Int32) (y5 : Int32) (h : im_H) : im_Go im_zI 3 fm_124 369 [(0, .inr (some j)), (2, .inl y2), (3, .inl y3), (4, .inl y4), (5, .inl y5)] [] h (fn_124_369 j y2 y3 y4 y5 h) := by
  unfold fn_124_369
  refine x_iload_n dm_124_369 rfl ?_
  refine x_bipush (8) dm_124_370 (by decide) ?_
  refine x_icmp_ge 404 dm_124_372 rfl (fun c1 => ?_) (fun c1 => ?_)
  · exact im_lsub [(0, .inr (some j)), (2, .inl y2), (3, .inl y3), (4, .inl y4), (5, .inl y5)] (im_sb_c rfl (im_sb_c rfl (im_sb_c rfl (im_sb_c rfl (im_sb_c rfl im_sb_n))))) (tn_124_404 j y2 y3 y4 y5 h)
  · refine x_iload_n dm_124_375 rfl ?_
    refine x_aload_n dm_124_376 rfl ?_
    refine im_chk _ (fun hk2 => ?_)
    refine x_getR dm_124_377 fl_8_74 rfl rfl hk2 ?_
    refine x_iload_n dm_124_380 rfl ?_
    refine im_bind (fun q3 hq3 => ?_)
    refine im_chk _ (fun hi4 => ?_)
    refine x_iaload dm_124_381 hq3 hi4 ?_
    refine x_aload_n dm_124_382 rfl ?_
    refine x_getR dm_124_383 fl_8_74 rfl rfl hk2 ?_
    refine x_iload dm_124_386 rfl ?_
    refine im_chk _ (fun hi5 => ?_)
    refine x_iaload dm_124_388 hq3 hi5 ?_
    refine x_iload dm_124_389 rfl ?_
    refine im_callI mf_118 rfl (tn_118 y2 _ _ y5 h) (im_runS (as := [.inl y2, .inl _, .inl _, .inl y5]) (rest := []) dm_124_391 mf_118 (Nat.le_of_ble_eq_true rfl) ml_8_160 mi_118 mp_118 (Nat.le_of_ble_eq_true rfl)) rfl (fun b6 hb6 => ?_)
    refine x_istore dm_124_394 (Nat.le_of_ble_eq_true rfl) ?_
    refine x_aload_n dm_124_396 rfl ?_
    refine x_iload_n dm_124_397 rfl ?_
    refine x_iload dm_124_398 rfl ?_
    refine x_iconst (0) dm_124_400 (by decide) ?_
    refine im_chk _ (fun hk7 => ?_)
    refine im_callV mf_122 rfl (tn_122 j y3 b6.1 (0 : Int32) b6.2) (im_runV (as := [.inl y3, .inl b6.1, .inl (0 : Int32)]) (rest := []) dm_124_401 mf_122 (Nat.le_of_ble_eq_true rfl) ml_8_169 mi_122 ms_122 mp_122 (Nat.le_of_ble_eq_true rfl) rfl hk7 ⟨_, _, rfl⟩) rfl (fun b8 hb8 => ?_)
    exact im_lsub [(0, .inr (some j)), (2, .inl y2), (3, .inl y3), (4, .inl y4), (5, .inl y5)] (im_sb_c rfl (im_sb_c rfl (im_sb_c rfl (im_sb_c rfl (im_sb_c rfl im_sb_n))))) (tn_124_404 j y2 y3 y4 y5 b8)
def fn_124_169 (j : Nat) (y1 : Int32) (y2 : Int32) (y3 : Int32) (y4 : Int32) (y5 : Int32) (s0 : Int32) (h : im_H) : Option (Int32 × im_H) :=
  if s0 = 0 then (if y2 = (13 : Int32) then (if h.2.1 j = (0, 8) then (((im_gR h j 26)).bind fun q4 => if im_in h 2 q4 y3 then (if (im_gI h q4 (y3).toNatClampNeg) = 0 then (some ((4 : Int32), h)) else (((im_gR h j 25)).bind fun q7 => if im_in h 1 q7 y3 then (((im_gR h j 22)).bind fun q9 => if im_in h 1 q9 (im_gI h q7 (y3).toNatClampNeg) then (let h11 : im_H := im_pI h j 27 (im_gI h q9 ((im_gI h q7 (y3).toNatClampNeg)).toNatClampNeg); some ((0 : Int32), h11)) else none) else none)) else none) else none) else (if y2 = (14 : Int32) then (if h.2.1 j = (0, 8) then ((fn_125 j y1 y5 h).bind fun b14 => some (b14.1, b14.2)) else none) else (if y2 = (8 : Int32) then (fn_124_238 j y2 y3 y4 y5 h) else (if y2 = (9 : Int32) then (fn_124_238 j y2 y3 y4 y5 h) else (if y2 = (15 : Int32) then (if h.2.1 j = (0, 8) then ((fn_122 j y3 y5 (1 : Int32) h).bind fun b19 => fn_124_404 j y2 y3 y4 y5 b19) else none) else (if y2 = (2 : Int32) then (if h.2.1 j = (0, 8) then (((im_gR h j 26)).bind fun q22 => if im_in h 2 q22 y4 then (if (im_gI h q22 (y4).toNatClampNeg) = 0 then (fn_124_369 j y2 y3 y4 y5 h) else (((im_gR h j 25)).bind fun q25 => if im_in h 1 q25 y4 then ((fn_122 j y3 (im_gI h q25 (y4).toNatClampNeg) (1 : Int32) h).bind fun b27 => fn_124_404 j y2 y3 y4 y5 b27) else none)) else none) else none) else (fn_124_369 j y2 y3 y4 y5 h))))))) else (some ((3 : Int32), h))
set_option maxRecDepth 100000 in
set_option maxHeartbeats 4000000 in
theorem tn_124_169 (j : Nat) (y1 : Int32) (y2 : Int32) (y3 : Int32) (y4 : Int32) (y5 : Int32) (s0 : Int32) (h : im_H) : im_Go im_zI 3 fm_124 169 [(0, .inr (some j)), (1, .inl y1), (2, .inl y2), (3, .inl y3), (4, .inl y4), (5, .inl y5)] [.inl s0] h (fn_124_169 j y1 y2 y3 y4 y5 s0 h) := by
  unfold fn_124_169
  refine x_istore dm_124_169 (Nat.le_of_ble_eq_true rfl) ?_
  refine x_iload dm_124_171 rfl ?_
  refine x_if_eq 178 dm_124_173 rfl (fun c1 => ?_) (fun c1 => ?_)
  · refine x_iload_n dm_124_178 rfl ?_
    refine x_bipush (13) dm_124_179 (by decide) ?_
    refine x_icmp_ne 212 dm_124_181 rfl (fun c2 => ?_) (fun c2 => ?_)
    · refine x_aload_n dm_124_184 rfl ?_
      refine im_chk _ (fun hk3 => ?_)
      refine x_getR dm_124_185 fl_8_77 rfl rfl hk3 ?_
      refine x_iload_n dm_124_188 rfl ?_
      refine im_bind (fun q4 hq4 => ?_)
      refine im_chk _ (fun hi5 => ?_)
      refine x_baload dm_124_189 hq4 hi5 ?_
      refine x_if_ne 195 dm_124_190 rfl (fun c6 => ?_) (fun c6 => ?_)
      · refine x_iconst (4) dm_124_193 (by decide) ?_
        exact x_ireturn dm_124_194 rfl
      · refine x_aload_n dm_124_195 rfl ?_
        refine x_aload_n dm_124_196 rfl ?_
        refine x_getR dm_124_197 fl_8_68 rfl rfl hk3 ?_
        refine x_aload_n dm_124_200 rfl ?_
        refine x_getR dm_124_201 fl_8_74 rfl rfl hk3 ?_
        refine x_iload_n dm_124_204 rfl ?_
        refine im_bind (fun q7 hq7 => ?_)
        refine im_chk _ (fun hi8 => ?_)
        refine x_iaload dm_124_205 hq7 hi8 ?_
        refine im_bind (fun q9 hq9 => ?_)
        refine im_chk _ (fun hi10 => ?_)
        refine x_iaload dm_124_206 hq9 hi10 ?_
        refine x_putI dm_124_207 fl_8_173 rfl rfl hk3 ?_
        refine x_iconst (0) dm_124_210 (by decide) ?_
        exact x_ireturn dm_124_211 rfl
    · refine x_iload_n dm_124_212 rfl ?_
      refine x_bipush (14) dm_124_213 (by decide) ?_
      refine x_icmp_ne 226 dm_124_215 rfl (fun c12 => ?_) (fun c12 => ?_)
      · refine x_aload_n dm_124_218 rfl ?_
        refine x_iload_n dm_124_219 rfl ?_
        refine x_iload dm_124_220 rfl ?_
        refine im_chk _ (fun hk13 => ?_)
        refine im_callI mf_125 rfl (tn_125 j y1 y5 h) (im_runV (as := [.inl y1, .inl y5]) (rest := []) dm_124_222 mf_125 (Nat.le_of_ble_eq_true rfl) ml_8_188 mi_125 ms_125 mp_125 (Nat.le_of_ble_eq_true rfl) rfl hk13 ⟨_, _, rfl⟩) rfl (fun b14 hb14 => ?_)
        exact x_ireturn dm_124_225 rfl
      · refine x_iload_n dm_124_226 rfl ?_
        refine x_bipush (8) dm_124_227 (by decide) ?_
        refine x_icmp_eq 238 dm_124_229 rfl (fun c15 => ?_) (fun c15 => ?_)
        · exact im_lsub [(0, .inr (some j)), (2, .inl y2), (3, .inl y3), (4, .inl y4), (5, .inl y5)] (im_sb_c rfl (im_sb_c rfl (im_sb_c rfl (im_sb_c rfl (im_sb_c rfl im_sb_n))))) (tn_124_238 j y2 y3 y4 y5 h)
        · refine x_iload_n dm_124_232 rfl ?_
          refine x_bipush (9) dm_124_233 (by decide) ?_
          refine x_icmp_ne 321 dm_124_235 rfl (fun c16 => ?_) (fun c16 => ?_)
          · exact im_lsub [(0, .inr (some j)), (2, .inl y2), (3, .inl y3), (4, .inl y4), (5, .inl y5)] (im_sb_c rfl (im_sb_c rfl (im_sb_c rfl (im_sb_c rfl (im_sb_c rfl im_sb_n))))) (tn_124_238 j y2 y3 y4 y5 h)
          · refine x_iload_n dm_124_321 rfl ?_
            refine x_bipush (15) dm_124_322 (by decide) ?_
            refine x_icmp_ne 338 dm_124_324 rfl (fun c17 => ?_) (fun c17 => ?_)
            · refine x_aload_n dm_124_327 rfl ?_
              refine x_iload_n dm_124_328 rfl ?_
              refine x_iload dm_124_329 rfl ?_
              refine x_iconst (1) dm_124_331 (by decide) ?_
              refine im_chk _ (fun hk18 => ?_)
              refine im_callV mf_122 rfl (tn_122 j y3 y5 (1 : Int32) h) (im_runV (as := [.inl y3, .inl y5, .inl (1 : Int32)]) (rest := []) dm_124_332 mf_122 (Nat.le_of_ble_eq_true rfl) ml_8_169 mi_122 ms_122 mp_122 (Nat.le_of_ble_eq_true rfl) rfl hk18 ⟨_, _, rfl⟩) rfl (fun b19 hb19 => ?_)
              refine x_goto 404 dm_124_335 rfl ?_
              exact im_lsub [(0, .inr (some j)), (2, .inl y2), (3, .inl y3), (4, .inl y4), (5, .inl y5)] (im_sb_c rfl (im_sb_c rfl (im_sb_c rfl (im_sb_c rfl (im_sb_c rfl im_sb_n))))) (tn_124_404 j y2 y3 y4 y5 b19)
            · refine x_iload_n dm_124_338 rfl ?_
              refine x_iconst (2) dm_124_339 (by decide) ?_
              refine x_icmp_ne 369 dm_124_340 rfl (fun c20 => ?_) (fun c20 => ?_)
              · refine x_aload_n dm_124_343 rfl ?_
                refine im_chk _ (fun hk21 => ?_)
                refine x_getR dm_124_344 fl_8_77 rfl rfl hk21 ?_
                refine x_iload dm_124_347 rfl ?_
                refine im_bind (fun q22 hq22 => ?_)
                refine im_chk _ (fun hi23 => ?_)
                refine x_baload dm_124_349 hq22 hi23 ?_
                refine x_if_eq 369 dm_124_350 rfl (fun c24 => ?_) (fun c24 => ?_)
                · exact im_lsub [(0, .inr (some j)), (2, .inl y2), (3, .inl y3), (4, .inl y4), (5, .inl y5)] (im_sb_c rfl (im_sb_c rfl (im_sb_c rfl (im_sb_c rfl (im_sb_c rfl im_sb_n))))) (tn_124_369 j y2 y3 y4 y5 h)
                · refine x_aload_n dm_124_353 rfl ?_
                  refine x_iload_n dm_124_354 rfl ?_
                  refine x_aload_n dm_124_355 rfl ?_
                  refine x_getR dm_124_356 fl_8_74 rfl rfl hk21 ?_
                  refine x_iload dm_124_359 rfl ?_
                  refine im_bind (fun q25 hq25 => ?_)
                  refine im_chk _ (fun hi26 => ?_)
                  refine x_iaload dm_124_361 hq25 hi26 ?_
                  refine x_iconst (1) dm_124_362 (by decide) ?_
                  refine im_callV mf_122 rfl (tn_122 j y3 _ (1 : Int32) h) (im_runV (as := [.inl y3, .inl _, .inl (1 : Int32)]) (rest := []) dm_124_363 mf_122 (Nat.le_of_ble_eq_true rfl) ml_8_169 mi_122 ms_122 mp_122 (Nat.le_of_ble_eq_true rfl) rfl hk21 ⟨_, _, rfl⟩) rfl (fun b27 hb27 => ?_)
                  refine x_goto 404 dm_124_366 rfl ?_
                  exact im_lsub [(0, .inr (some j)), (2, .inl y2), (3, .inl y3), (4, .inl y4), (5, .inl y5)] (im_sb_c rfl (im_sb_c rfl (im_sb_c rfl (im_sb_c rfl (im_sb_c rfl im_sb_n))))) (tn_124_404 j y2 y3 y4 y5 b27)
              · exact im_lsub [(0, .inr (some j)), (2, .inl y2), (3, .inl y3), (4, .inl y4), (5, .inl y5)] (im_sb_c rfl (im_sb_c rfl (im_sb_c rfl (im_sb_c rfl (im_sb_c rfl im_sb_n))))) (tn_124_369 j y2 y3 y4 y5 h)
  · refine x_iconst (3) dm_124_176 (by decide) ?_
    exact x_ireturn dm_124_177 rfl
def fn_124_91 (j : Nat) (y1 : Int32) (y2 : Int32) (y3 : Int32) (y4 : Int32) (y5 : Int32) (h : im_H) : Option (Int32 × im_H) :=
  fn_124_169 j y1 y2 y3 y4 y5 (0 : Int32) h
set_option maxRecDepth 100000 in
set_option maxHeartbeats 4000000 in
theorem tn_124_91 (j : Nat) (y1 : Int32) (y2 : Int32) (y3 : Int32) (y4 : Int32) (y5 : Int32) (h : im_H) : im_Go im_zI 3 fm_124 91 [(0, .inr (some j)), (1, .inl y1), (2, .inl y2), (3, .inl y3), (4, .inl y4), (5, .inl y5)] [] h (fn_124_91 j y1 y2 y3 y4 y5 h) := by
  unfold fn_124_91
  refine x_iconst (0) dm_124_91 (by decide) ?_
  refine x_goto 169 dm_124_92 rfl ?_
  exact im_lsub [(0, .inr (some j)), (1, .inl y1), (2, .inl y2), (3, .inl y3), (4, .inl y4), (5, .inl y5)] (im_sb_c rfl (im_sb_c rfl (im_sb_c rfl (im_sb_c rfl (im_sb_c rfl (im_sb_c rfl im_sb_n)))))) (tn_124_169 j y1 y2 y3 y4 y5 (0 : Int32) h)
def fn_124_135 (j : Nat) (y1 : Int32) (y2 : Int32) (y3 : Int32) (y4 : Int32) (y5 : Int32) (h : im_H) : Option (Int32 × im_H) :=
  fn_124_169 j y1 y2 y3 y4 y5 (1 : Int32) h
set_option maxRecDepth 100000 in
set_option maxHeartbeats 4000000 in
theorem tn_124_135 (j : Nat) (y1 : Int32) (y2 : Int32) (y3 : Int32) (y4 : Int32) (y5 : Int32) (h : im_H) : im_Go im_zI 3 fm_124 135 [(0, .inr (some j)), (1, .inl y1), (2, .inl y2), (3, .inl y3), (4, .inl y4), (5, .inl y5)] [] h (fn_124_135 j y1 y2 y3 y4 y5 h) := by
  unfold fn_124_135
  refine x_iconst (1) dm_124_135 (by decide) ?_
  refine x_goto 169 dm_124_136 rfl ?_
  exact im_lsub [(0, .inr (some j)), (1, .inl y1), (2, .inl y2), (3, .inl y3), (4, .inl y4), (5, .inl y5)] (im_sb_c rfl (im_sb_c rfl (im_sb_c rfl (im_sb_c rfl (im_sb_c rfl (im_sb_c rfl im_sb_n)))))) (tn_124_169 j y1 y2 y3 y4 y5 (1 : Int32) h)
def fn_124_116 (j : Nat) (y1 : Int32) (y2 : Int32) (y3 : Int32) (y4 : Int32) (y5 : Int32) (h : im_H) : Option (Int32 × im_H) :=
  if h.2.1 j = (0, 8) then (((im_gR h j 26)).bind fun q2 => if im_in h 2 q2 y3 then (if (im_gI h q2 (y3).toNatClampNeg) = 0 then (if im_in h 2 q2 y4 then (if (im_gI h q2 (y4).toNatClampNeg) = 0 then (fn_124_169 j y1 y2 y3 y4 y5 (0 : Int32) h) else (fn_124_135 j y1 y2 y3 y4 y5 h)) else none) else (fn_124_135 j y1 y2 y3 y4 y5 h)) else none) else none
set_option maxRecDepth 100000 in
set_option maxHeartbeats 4000000 in
theorem tn_124_116 (j : Nat) (y1 : Int32) (y2 : Int32) (y3 : Int32) (y4 : Int32) (y5 : Int32) (h : im_H) : im_Go im_zI 3 fm_124 116 [(0, .inr (some j)), (1, .inl y1), (2, .inl y2), (3, .inl y3), (4, .inl y4), (5, .inl y5)] [] h (fn_124_116 j y1 y2 y3 y4 y5 h) := by
  unfold fn_124_116
  refine x_aload_n dm_124_116 rfl ?_
  refine im_chk _ (fun hk1 => ?_)
  refine x_getR dm_124_117 fl_8_77 rfl rfl hk1 ?_
  refine x_iload_n dm_124_120 rfl ?_
  refine im_bind (fun q2 hq2 => ?_)
  refine im_chk _ (fun hi3 => ?_)
  refine x_baload dm_124_121 hq2 hi3 ?_
  refine x_if_ne 135 dm_124_122 rfl (fun c4 => ?_) (fun c4 => ?_)
  · refine x_aload_n dm_124_125 rfl ?_
    refine x_getR dm_124_126 fl_8_77 rfl rfl hk1 ?_
    refine x_iload dm_124_129 rfl ?_
    refine im_chk _ (fun hi5 => ?_)
    refine x_baload dm_124_131 hq2 hi5 ?_
    refine x_if_eq 139 dm_124_132 rfl (fun c6 => ?_) (fun c6 => ?_)
    · refine x_iconst (0) dm_124_139 (by decide) ?_
      refine x_goto 169 dm_124_140 rfl ?_
      exact im_lsub [(0, .inr (some j)), (1, .inl y1), (2, .inl y2), (3, .inl y3), (4, .inl y4), (5, .inl y5)] (im_sb_c rfl (im_sb_c rfl (im_sb_c rfl (im_sb_c rfl (im_sb_c rfl (im_sb_c rfl im_sb_n)))))) (tn_124_169 j y1 y2 y3 y4 y5 (0 : Int32) h)
    · exact im_lsub [(0, .inr (some j)), (1, .inl y1), (2, .inl y2), (3, .inl y3), (4, .inl y4), (5, .inl y5)] (im_sb_c rfl (im_sb_c rfl (im_sb_c rfl (im_sb_c rfl (im_sb_c rfl (im_sb_c rfl im_sb_n)))))) (tn_124_135 j y1 y2 y3 y4 y5 h)
  · exact im_lsub [(0, .inr (some j)), (1, .inl y1), (2, .inl y2), (3, .inl y3), (4, .inl y4), (5, .inl y5)] (im_sb_c rfl (im_sb_c rfl (im_sb_c rfl (im_sb_c rfl (im_sb_c rfl (im_sb_c rfl im_sb_n)))))) (tn_124_135 j y1 y2 y3 y4 y5 h)
def fn_124_168 (j : Nat) (y1 : Int32) (y2 : Int32) (y3 : Int32) (y4 : Int32) (y5 : Int32) (h : im_H) : Option (Int32 × im_H) :=
  fn_124_169 j y1 y2 y3 y4 y5 (0 : Int32) h
set_option maxRecDepth 100000 in
set_option maxHeartbeats 4000000 in
theorem tn_124_168 (j : Nat) (y1 : Int32) (y2 : Int32) (y3 : Int32) (y4 : Int32) (y5 : Int32) (h : im_H) : im_Go im_zI 3 fm_124 168 [(0, .inr (some j)), (1, .inl y1), (2, .inl y2), (3, .inl y3), (4, .inl y4), (5, .inl y5)] [] h (fn_124_168 j y1 y2 y3 y4 y5 h) := by
  unfold fn_124_168
  refine x_iconst (0) dm_124_168 (by decide) ?_
  exact im_lsub [(0, .inr (some j)), (1, .inl y1), (2, .inl y2), (3, .inl y3), (4, .inl y4), (5, .inl y5)] (im_sb_c rfl (im_sb_c rfl (im_sb_c rfl (im_sb_c rfl (im_sb_c rfl (im_sb_c rfl im_sb_n)))))) (tn_124_169 j y1 y2 y3 y4 y5 (0 : Int32) h)
/-- FencedModulesModel.along(I)I -/
def fn_124 (j : Nat) (x1 : Int32) (h : im_H) : Option (Int32 × im_H) :=
  if h.2.1 j = (0, 8) then (if (im_gI h j 16) ≤ (im_gI h j 27) then (some ((2 : Int32), h)) else (((im_gR h j 17)).bind fun q3 => if im_in h 1 q3 (im_gI h j 27) then (if (im_gI h q3 ((im_gI h j 27)).toNatClampNeg) = 0 then (some ((2 : Int32), h)) else (let v6 : Int32 := (im_gI h q3 ((im_gI h j 27)).toNatClampNeg); ((im_gR h j 18)).bind fun q7 => if im_in h 1 q7 (im_gI h j 27) then (let v9 : Int32 := (im_gI h q7 ((im_gI h j 27)).toNatClampNeg); ((im_gR h j 19)).bind fun q10 => if im_in h 1 q10 (im_gI h j 27) then (let v12 : Int32 := (im_gI h q10 ((im_gI h j 27)).toNatClampNeg); ((im_gR h j 20)).bind fun q13 => if im_in h 1 q13 (im_gI h j 27) then (let v15 : Int32 := (im_gI h q13 ((im_gI h j 27)).toNatClampNeg); if v6 = (2 : Int32) then (((im_gR h j 26)).bind fun q17 => if im_in h 2 q17 v12 then (if (im_gI h q17 (v12).toNatClampNeg) = 0 then (fn_124_91 j x1 v6 v9 v12 v15 h) else (if v15 = 0 then (fn_124_91 j x1 v6 v9 v12 v15 h) else (fn_124_169 j x1 v6 v9 v12 v15 (1 : Int32) h))) else none) else ((fn_92 v6 (3 : Int32) (5 : Int32) h).bind fun b21 => if b21.1 = 0 then (if v6 = (10 : Int32) then (fn_124_116 j x1 v6 v9 v12 v15 b21.2) else (if v6 = (11 : Int32) then (fn_124_116 j x1 v6 v9 v12 v15 b21.2) else ((fn_92 v6 (6 : Int32) (9 : Int32) b21.2).bind fun b25 => if b25.1 = 0 then (fn_124_168 j x1 v6 v9 v12 v15 b25.2) else (if b25.2.2.1 j = (0, 8) then (((im_gR b25.2 j 26)).bind fun q28 => if im_in b25.2 2 q28 v12 then (if (im_gI b25.2 q28 (v12).toNatClampNeg) = 0 then (fn_124_168 j x1 v6 v9 v12 v15 b25.2) else (fn_124_169 j x1 v6 v9 v12 v15 (1 : Int32) b25.2)) else none) else none)))) else (fn_124_116 j x1 v6 v9 v12 v15 b21.2))) else none) else none) else none)) else none)) else none
set_option maxRecDepth 100000 in
set_option maxHeartbeats 4000000 in
theorem tn_124 (j : Nat) (x1 : Int32) (h : im_H) : im_Go im_zI 3 fm_124 0 (im_en 0 [.inr (some j), .inl x1]) [] h (fn_124 j x1 h) := by
  unfold fn_124
  refine x_aload_n dm_124_0 rfl ?_
  refine im_chk _ (fun hk1 => ?_)
  refine x_getI dm_124_1 fl_8_173 rfl rfl hk1 ?_
  refine x_aload_n dm_124_4 rfl ?_
  refine x_getI dm_124_5 fl_8_89 rfl rfl hk1 ?_
  refine x_icmp_ge 23 dm_124_8 rfl (fun c2 => ?_) (fun c2 => ?_)
  · refine x_iconst (2) dm_124_23 (by decide) ?_
    exact x_ireturn dm_124_24 rfl
  · refine x_aload_n dm_124_11 rfl ?_
    refine x_getR dm_124_12 fl_8_52 rfl rfl hk1 ?_
    refine x_aload_n dm_124_15 rfl ?_
    refine x_getI dm_124_16 fl_8_173 rfl rfl hk1 ?_
    refine im_bind (fun q3 hq3 => ?_)
    refine im_chk _ (fun hi4 => ?_)
    refine x_iaload dm_124_19 hq3 hi4 ?_
    refine x_if_ne 25 dm_124_20 rfl (fun c5 => ?_) (fun c5 => ?_)
    · refine x_iconst (2) dm_124_23 (by decide) ?_
      exact x_ireturn dm_124_24 rfl
    · refine x_aload_n dm_124_25 rfl ?_
      refine x_getR dm_124_26 fl_8_52 rfl rfl hk1 ?_
      refine x_aload_n dm_124_29 rfl ?_
      refine x_getI dm_124_30 fl_8_173 rfl rfl hk1 ?_
      refine x_iaload dm_124_33 hq3 hi4 ?_
      refine x_istore_n dm_124_34 (Nat.le_of_ble_eq_true rfl) ?_
      refine x_aload_n dm_124_35 rfl ?_
      refine x_getR dm_124_36 fl_8_55 rfl rfl hk1 ?_
      refine x_aload_n dm_124_39 rfl ?_
      refine x_getI dm_124_40 fl_8_173 rfl rfl hk1 ?_
      refine im_bind (fun q7 hq7 => ?_)
      refine im_chk _ (fun hi8 => ?_)
      refine x_iaload dm_124_43 hq7 hi8 ?_
      refine x_istore_n dm_124_44 (Nat.le_of_ble_eq_true rfl) ?_
      refine x_aload_n dm_124_45 rfl ?_
      refine x_getR dm_124_46 fl_8_58 rfl rfl hk1 ?_
      refine x_aload_n dm_124_49 rfl ?_
      refine x_getI dm_124_50 fl_8_173 rfl rfl hk1 ?_
      refine im_bind (fun q10 hq10 => ?_)
      refine im_chk _ (fun hi11 => ?_)
      refine x_iaload dm_124_53 hq10 hi11 ?_
      refine x_istore dm_124_54 (Nat.le_of_ble_eq_true rfl) ?_
      refine x_aload_n dm_124_56 rfl ?_
      refine x_getR dm_124_57 fl_8_61 rfl rfl hk1 ?_
      refine x_aload_n dm_124_60 rfl ?_
      refine x_getI dm_124_61 fl_8_173 rfl rfl hk1 ?_
      refine im_bind (fun q13 hq13 => ?_)
      refine im_chk _ (fun hi14 => ?_)
      refine x_iaload dm_124_64 hq13 hi14 ?_
      refine x_istore dm_124_65 (Nat.le_of_ble_eq_true rfl) ?_
      refine x_iload_n dm_124_67 rfl ?_
      refine x_iconst (2) dm_124_68 (by decide) ?_
      refine x_icmp_ne 95 dm_124_69 rfl (fun c16 => ?_) (fun c16 => ?_)
      · refine x_aload_n dm_124_72 rfl ?_
        refine x_getR dm_124_73 fl_8_77 rfl rfl hk1 ?_
        refine x_iload dm_124_76 rfl ?_
        refine im_bind (fun q17 hq17 => ?_)
        refine im_chk _ (fun hi18 => ?_)
        refine x_baload dm_124_78 hq17 hi18 ?_
        refine x_if_eq 91 dm_124_79 rfl (fun c19 => ?_) (fun c19 => ?_)
        · exact im_lsub [(0, .inr (some j)), (1, .inl x1), (2, .inl _), (3, .inl _), (4, .inl _), (5, .inl _)] (im_sb_c rfl (im_sb_c rfl (im_sb_c rfl (im_sb_c rfl (im_sb_c rfl (im_sb_c rfl im_sb_n)))))) (tn_124_91 j x1 _ _ _ _ h)
        · refine x_iload dm_124_82 rfl ?_
          refine x_if_eq 91 dm_124_84 rfl (fun c20 => ?_) (fun c20 => ?_)
          · exact im_lsub [(0, .inr (some j)), (1, .inl x1), (2, .inl _), (3, .inl _), (4, .inl _), (5, .inl _)] (im_sb_c rfl (im_sb_c rfl (im_sb_c rfl (im_sb_c rfl (im_sb_c rfl (im_sb_c rfl im_sb_n)))))) (tn_124_91 j x1 _ _ _ _ h)
          · refine x_iconst (1) dm_124_87 (by decide) ?_
            refine x_goto 169 dm_124_88 rfl ?_
            exact im_lsub [(0, .inr (some j)), (1, .inl x1), (2, .inl _), (3, .inl _), (4, .inl _), (5, .inl _)] (im_sb_c rfl (im_sb_c rfl (im_sb_c rfl (im_sb_c rfl (im_sb_c rfl (im_sb_c rfl im_sb_n)))))) (tn_124_169 j x1 _ _ _ _ (1 : Int32) h)
      · refine x_iload_n dm_124_95 rfl ?_
        refine x_iconst (3) dm_124_96 (by decide) ?_
        refine x_iconst (5) dm_124_97 (by decide) ?_
        refine im_callI mf_92 rfl (tn_92 _ (3 : Int32) (5 : Int32) h) (im_runS (as := [.inl _, .inl (3 : Int32), .inl (5 : Int32)]) (rest := []) dm_124_98 mf_92 (Nat.le_of_ble_eq_true rfl) ml_8_83 mi_92 mp_92 (Nat.le_of_ble_eq_true rfl)) rfl (fun b21 hb21 => ?_)
        refine x_if_ne 116 dm_124_101 rfl (fun c22 => ?_) (fun c22 => ?_)
        · refine x_iload_n dm_124_104 rfl ?_
          refine x_bipush (10) dm_124_105 (by decide) ?_
          refine x_icmp_eq 116 dm_124_107 rfl (fun c23 => ?_) (fun c23 => ?_)
          · exact im_lsub [(0, .inr (some j)), (1, .inl x1), (2, .inl _), (3, .inl _), (4, .inl _), (5, .inl _)] (im_sb_c rfl (im_sb_c rfl (im_sb_c rfl (im_sb_c rfl (im_sb_c rfl (im_sb_c rfl im_sb_n)))))) (tn_124_116 j x1 _ _ _ _ b21.2)
          · refine x_iload_n dm_124_110 rfl ?_
            refine x_bipush (11) dm_124_111 (by decide) ?_
            refine x_icmp_ne 143 dm_124_113 rfl (fun c24 => ?_) (fun c24 => ?_)
            · exact im_lsub [(0, .inr (some j)), (1, .inl x1), (2, .inl _), (3, .inl _), (4, .inl _), (5, .inl _)] (im_sb_c rfl (im_sb_c rfl (im_sb_c rfl (im_sb_c rfl (im_sb_c rfl (im_sb_c rfl im_sb_n)))))) (tn_124_116 j x1 _ _ _ _ b21.2)
            · refine x_iload_n dm_124_143 rfl ?_
              refine x_bipush (6) dm_124_144 (by decide) ?_
              refine x_bipush (9) dm_124_146 (by decide) ?_
              refine im_callI mf_92 rfl (tn_92 _ (6 : Int32) (9 : Int32) b21.2) (im_runS (as := [.inl _, .inl (6 : Int32), .inl (9 : Int32)]) (rest := []) dm_124_148 mf_92 (Nat.le_of_ble_eq_true rfl) ml_8_83 mi_92 mp_92 (Nat.le_of_ble_eq_true rfl)) rfl (fun b25 hb25 => ?_)
              refine x_if_eq 168 dm_124_151 rfl (fun c26 => ?_) (fun c26 => ?_)
              · exact im_lsub [(0, .inr (some j)), (1, .inl x1), (2, .inl _), (3, .inl _), (4, .inl _), (5, .inl _)] (im_sb_c rfl (im_sb_c rfl (im_sb_c rfl (im_sb_c rfl (im_sb_c rfl (im_sb_c rfl im_sb_n)))))) (tn_124_168 j x1 _ _ _ _ b25.2)
              · refine x_aload_n dm_124_154 rfl ?_
                refine im_chk _ (fun hk27 => ?_)
                refine x_getR dm_124_155 fl_8_77 rfl rfl hk27 ?_
                refine x_iload dm_124_158 rfl ?_
                refine im_bind (fun q28 hq28 => ?_)
                refine im_chk _ (fun hi29 => ?_)
                refine x_baload dm_124_160 hq28 hi29 ?_
                refine x_if_eq 168 dm_124_161 rfl (fun c30 => ?_) (fun c30 => ?_)
                · exact im_lsub [(0, .inr (some j)), (1, .inl x1), (2, .inl _), (3, .inl _), (4, .inl _), (5, .inl _)] (im_sb_c rfl (im_sb_c rfl (im_sb_c rfl (im_sb_c rfl (im_sb_c rfl (im_sb_c rfl im_sb_n)))))) (tn_124_168 j x1 _ _ _ _ b25.2)
                · refine x_iconst (1) dm_124_164 (by decide) ?_
                  refine x_goto 169 dm_124_165 rfl ?_
                  exact im_lsub [(0, .inr (some j)), (1, .inl x1), (2, .inl _), (3, .inl _), (4, .inl _), (5, .inl _)] (im_sb_c rfl (im_sb_c rfl (im_sb_c rfl (im_sb_c rfl (im_sb_c rfl (im_sb_c rfl im_sb_n)))))) (tn_124_169 j x1 _ _ _ _ (1 : Int32) b25.2)
        · exact im_lsub [(0, .inr (some j)), (1, .inl x1), (2, .inl _), (3, .inl _), (4, .inl _), (5, .inl _)] (im_sb_c rfl (im_sb_c rfl (im_sb_c rfl (im_sb_c rfl (im_sb_c rfl (im_sb_c rfl im_sb_n)))))) (tn_124_116 j x1 _ _ _ _ b21.2)
