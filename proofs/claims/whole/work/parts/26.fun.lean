/-- FencedModules.load(I)Z -/
def fn_80 (j : Nat) (x1 : Int32) (h : im_H) : Option (Int32 × im_H) :=
  (fn_45 x1 h).bind fun b1 => if b1.1 = 0 then (some ((0 : Int32), b1.2)) else (if b1.2.2.1 j = (0, 7) then ((fn_139 (im_gR b1.2 j 1) x1 b1.2).bind fun b4 => if b4.1 = (-1 : Int32) then (if b4.2.2.1 j = (0, 7) then (((im_gR b4.2 j 2)).bind fun q7 => if b4.2.2.1 q7 = (0, 4) then ((fn_34 q7 (im_gR b4.2 j 1) x1 b4.2).bind fun b9 => some ((1 : Int32), b9)) else none) else none) else (some ((0 : Int32), b4.2))) else none)
set_option maxRecDepth 100000 in
set_option maxHeartbeats 4000000 in
theorem tn_80 (j : Nat) (x1 : Int32) (h : im_H) : im_Go im_zI 4 fm_80 0 (im_en 0 [.inr (some j), .inl x1]) [] h (fn_80 j x1 h) := by
  unfold fn_80
  refine x_iload_n dm_80_0 rfl ?_
  refine im_callI mf_45 rfl (tn_45 x1 h) (im_runS (as := [.inl x1]) (rest := []) dm_80_1 mf_45 (Nat.le_of_ble_eq_true rfl) ml_7_49 mi_45 mp_45 (Nat.le_of_ble_eq_true rfl)) rfl (fun b1 hb1 => ?_)
  refine x_if_eq 19 dm_80_4 rfl (fun c2 => ?_) (fun c2 => ?_)
  · refine x_iconst (0) dm_80_19 (by decide) ?_
    exact x_zreturn dm_80_20 rfl (by decide)
  · refine x_aload_n dm_80_7 rfl ?_
    refine im_chk _ (fun hk3 => ?_)
    refine x_getR dm_80_8 fl_7_19 rfl rfl hk3 ?_
    refine x_iload_n dm_80_11 rfl ?_
    refine im_callI mf_139 rfl (tn_139 _ x1 b1.2) (im_runS (as := [.inr _, .inl x1]) (rest := []) dm_80_12 mf_139 (Nat.le_of_ble_eq_true rfl) ml_7_75 mi_139 mp_139 (Nat.le_of_ble_eq_true rfl)) rfl (fun b4 hb4 => ?_)
    refine x_iconst (-1) dm_80_15 (by decide) ?_
    refine x_icmp_eq 21 dm_80_16 rfl (fun c5 => ?_) (fun c5 => ?_)
    · refine x_aload_n dm_80_21 rfl ?_
      refine im_chk _ (fun hk6 => ?_)
      refine x_getR dm_80_22 fl_7_26 rfl rfl hk6 ?_
      refine x_aload_n dm_80_25 rfl ?_
      refine x_getR dm_80_26 fl_7_19 rfl rfl hk6 ?_
      refine x_iload_n dm_80_29 rfl ?_
      refine im_bind (fun q7 hq7 => ?_)
      refine im_chk _ (fun hk8 => ?_)
      refine im_callV mf_34 rfl (im_eqo hq7 (tn_34 q7 _ x1 b4.2)) (im_runV (as := [.inr _, .inl x1]) (rest := []) dm_80_30 mf_34 (Nat.le_of_ble_eq_true rfl) ml_7_81 mi_34 ms_34 mp_34 (Nat.le_of_ble_eq_true rfl) hq7 hk8 ⟨_, _, rfl⟩) rfl (fun b9 hb9 => ?_)
      refine x_iconst (1) dm_80_33 (by decide) ?_
      exact x_zreturn dm_80_34 rfl (by decide)
    · refine x_iconst (0) dm_80_19 (by decide) ?_
      exact x_zreturn dm_80_20 rfl (by decide)
def fn_134_76 (y2 : Int32) (y3 : Option Nat) (y4 : Int32) (y5 : Int32) (y6 : Int32) (y7 : Int32) (h : im_H) : Option (im_H) :=
  (fn_147 (2 : Int32) (5 : Int32) y6 y7 h).bind fun b1 => (y3).bind fun q2 => if b1.2.2.1 q2 = (0, 1) then ((fn_6 q2 b1.1 b1.2).bind fun b4 => (fn_46 y2 b4.2).bind fun b5 => (fn_135 y3 (6 : Int32) (5 : Int32) (15 : Int32) b5.1 b5.2).bind fun b6 => (fn_147 y4 y5 (6 : Int32) (0 : Int32) b6).bind fun b7 => if b7.2.2.1 q2 = (0, 1) then ((fn_6 q2 b7.1 b7.2).bind fun b9 => some b9.2) else none) else none
set_option maxRecDepth 100000 in
set_option maxHeartbeats 4000000 in
theorem tn_134_76 (y2 : Int32) (y3 : Option Nat) (y4 : Int32) (y5 : Int32) (y6 : Int32) (y7 : Int32) (h : im_H) : im_Go im_zV 4 fm_134 76 [(2, .inl y2), (3, .inr y3), (4, .inl y4), (5, .inl y5), (6, .inl y6), (7, .inl y7)] [] h (fn_134_76 y2 y3 y4 y5 y6 y7 h) := by
  unfold fn_134_76
  refine x_aload_n dm_134_76 rfl ?_
  refine x_iconst (2) dm_134_77 (by decide) ?_
  refine x_iconst (5) dm_134_78 (by decide) ?_
  refine x_iload dm_134_79 rfl ?_
  refine x_iload dm_134_81 rfl ?_
  refine im_callI mf_147 rfl (tn_147 (2 : Int32) (5 : Int32) y6 y7 h) (im_runS (as := [.inl (2 : Int32), .inl (5 : Int32), .inl y6, .inl y7]) (rest := [.inr y3]) dm_134_83 mf_147 (Nat.le_of_ble_eq_true rfl) ml_9_26 mi_147 mp_147 (Nat.le_of_ble_eq_true rfl)) rfl (fun b1 hb1 => ?_)
  refine im_bind (fun q2 hq2 => ?_)
  refine im_chk _ (fun hk3 => ?_)
  refine im_callI mf_6 rfl (im_eqo hq2 (tn_6 q2 b1.1 b1.2)) (im_runV (as := [.inl b1.1]) (rest := []) dm_134_86 mf_6 (Nat.le_of_ble_eq_true rfl) ml_9_30 mi_6 ms_6 mp_6 (Nat.le_of_ble_eq_true rfl) hq2 hk3 ⟨_, _, rfl⟩) rfl (fun b4 hb4 => ?_)
  refine x_pop dm_134_89 ?_
  refine x_aload_n dm_134_90 rfl ?_
  refine x_bipush (6) dm_134_91 (by decide) ?_
  refine x_iconst (5) dm_134_93 (by decide) ?_
  refine x_bipush (15) dm_134_94 (by decide) ?_
  refine x_iload_n dm_134_96 rfl ?_
  refine im_callI mf_46 rfl (tn_46 y2 b4.2) (im_runS (as := [.inl y2]) (rest := [.inl (15 : Int32), .inl (5 : Int32), .inl (6 : Int32), .inr y3]) dm_134_97 mf_46 (Nat.le_of_ble_eq_true rfl) ml_9_49 mi_46 mp_46 (Nat.le_of_ble_eq_true rfl)) rfl (fun b5 hb5 => ?_)
  refine im_callV mf_135 rfl (tn_135 y3 (6 : Int32) (5 : Int32) (15 : Int32) b5.1 b5.2) (im_runS (as := [.inr y3, .inl (6 : Int32), .inl (5 : Int32), .inl (15 : Int32), .inl b5.1]) (rest := []) dm_134_100 mf_135 (Nat.le_of_ble_eq_true rfl) ml_9_52 mi_135 mp_135 (Nat.le_of_ble_eq_true rfl)) rfl (fun b6 hb6 => ?_)
  refine x_aload_n dm_134_103 rfl ?_
  refine x_iload dm_134_104 rfl ?_
  refine x_iload dm_134_106 rfl ?_
  refine x_bipush (6) dm_134_108 (by decide) ?_
  refine x_iconst (0) dm_134_110 (by decide) ?_
  refine im_callI mf_147 rfl (tn_147 y4 y5 (6 : Int32) (0 : Int32) b6) (im_runS (as := [.inl y4, .inl y5, .inl (6 : Int32), .inl (0 : Int32)]) (rest := [.inr y3]) dm_134_111 mf_147 (Nat.le_of_ble_eq_true rfl) ml_9_26 mi_147 mp_147 (Nat.le_of_ble_eq_true rfl)) rfl (fun b7 hb7 => ?_)
  refine im_chk _ (fun hk8 => ?_)
  refine im_callI mf_6 rfl (im_eqo hq2 (tn_6 q2 b7.1 b7.2)) (im_runV (as := [.inl b7.1]) (rest := []) dm_134_114 mf_6 (Nat.le_of_ble_eq_true rfl) ml_9_30 mi_6 ms_6 mp_6 (Nat.le_of_ble_eq_true rfl) hq2 hk8 ⟨_, _, rfl⟩) rfl (fun b9 hb9 => ?_)
  refine x_pop dm_134_117 ?_
  refine x_goto 240 dm_134_118 rfl ?_
  exact x_return dm_134_240 rfl
def fn_134_178 (y0 : Option Nat) (y3 : Option Nat) (y4 : Int32) (y5 : Int32) (y6 : Int32) (y7 : Int32) (h : im_H) : Option (im_H) :=
  (fn_137 y0 y7 y3 h).bind fun b1 => (fn_147 y4 y5 y6 b1.1 b1.2).bind fun b2 => (y3).bind fun q3 => if b2.2.2.1 q3 = (0, 1) then ((fn_6 q3 b2.1 b2.2).bind fun b5 => some b5.2) else none
set_option maxRecDepth 100000 in
set_option maxHeartbeats 4000000 in
theorem tn_134_178 (y0 : Option Nat) (y3 : Option Nat) (y4 : Int32) (y5 : Int32) (y6 : Int32) (y7 : Int32) (h : im_H) : im_Go im_zV 4 fm_134 178 [(0, .inr y0), (3, .inr y3), (4, .inl y4), (5, .inl y5), (6, .inl y6), (7, .inl y7)] [] h (fn_134_178 y0 y3 y4 y5 y6 y7 h) := by
  unfold fn_134_178
  refine x_aload_n dm_134_178 rfl ?_
  refine x_iload dm_134_179 rfl ?_
  refine x_iload dm_134_181 rfl ?_
  refine x_iload dm_134_183 rfl ?_
  refine x_aload_n dm_134_185 rfl ?_
  refine x_iload dm_134_186 rfl ?_
  refine x_aload_n dm_134_188 rfl ?_
  refine im_callI mf_137 rfl (tn_137 y0 y7 y3 h) (im_runS (as := [.inr y0, .inl y7, .inr y3]) (rest := [.inl y6, .inl y5, .inl y4, .inr y3]) dm_134_189 mf_137 (Nat.le_of_ble_eq_true rfl) ml_9_63 mi_137 mp_137 (Nat.le_of_ble_eq_true rfl)) rfl (fun b1 hb1 => ?_)
  refine im_callI mf_147 rfl (tn_147 y4 y5 y6 b1.1 b1.2) (im_runS (as := [.inl y4, .inl y5, .inl y6, .inl b1.1]) (rest := [.inr y3]) dm_134_192 mf_147 (Nat.le_of_ble_eq_true rfl) ml_9_26 mi_147 mp_147 (Nat.le_of_ble_eq_true rfl)) rfl (fun b2 hb2 => ?_)
  refine im_bind (fun q3 hq3 => ?_)
  refine im_chk _ (fun hk4 => ?_)
  refine im_callI mf_6 rfl (im_eqo hq3 (tn_6 q3 b2.1 b2.2)) (im_runV (as := [.inl b2.1]) (rest := []) dm_134_195 mf_6 (Nat.le_of_ble_eq_true rfl) ml_9_30 mi_6 ms_6 mp_6 (Nat.le_of_ble_eq_true rfl) hq3 hk4 ⟨_, _, rfl⟩) rfl (fun b5 hb5 => ?_)
  refine x_pop dm_134_198 ?_
  refine x_goto 240 dm_134_199 rfl ?_
  exact x_return dm_134_240 rfl
def fn_134_224 (y3 : Option Nat) (y4 : Int32) (y5 : Int32) (y6 : Int32) (y7 : Int32) (h : im_H) : Option (im_H) :=
  (fn_138 y4 y5 y6 y7 h).bind fun b1 => (y3).bind fun q2 => if b1.2.2.1 q2 = (0, 1) then ((fn_6 q2 b1.1 b1.2).bind fun b4 => some b4.2) else none
set_option maxRecDepth 100000 in
set_option maxHeartbeats 4000000 in
theorem tn_134_224 (y3 : Option Nat) (y4 : Int32) (y5 : Int32) (y6 : Int32) (y7 : Int32) (h : im_H) : im_Go im_zV 4 fm_134 224 [(3, .inr y3), (4, .inl y4), (5, .inl y5), (6, .inl y6), (7, .inl y7)] [] h (fn_134_224 y3 y4 y5 y6 y7 h) := by
  unfold fn_134_224
  refine x_aload_n dm_134_224 rfl ?_
  refine x_iload dm_134_225 rfl ?_
  refine x_iload dm_134_227 rfl ?_
  refine x_iload dm_134_229 rfl ?_
  refine x_iload dm_134_231 rfl ?_
  refine im_callI mf_138 rfl (tn_138 y4 y5 y6 y7 h) (im_runS (as := [.inl y4, .inl y5, .inl y6, .inl y7]) (rest := [.inr y3]) dm_134_233 mf_138 (Nat.le_of_ble_eq_true rfl) ml_9_67 mi_138 mp_138 (Nat.le_of_ble_eq_true rfl)) rfl (fun b1 hb1 => ?_)
  refine im_bind (fun q2 hq2 => ?_)
  refine im_chk _ (fun hk3 => ?_)
  refine im_callI mf_6 rfl (im_eqo hq2 (tn_6 q2 b1.1 b1.2)) (im_runV (as := [.inl b1.1]) (rest := []) dm_134_236 mf_6 (Nat.le_of_ble_eq_true rfl) ml_9_30 mi_6 ms_6 mp_6 (Nat.le_of_ble_eq_true rfl) hq2 hk3 ⟨_, _, rfl⟩) rfl (fun b4 hb4 => ?_)
  refine x_pop dm_134_239 ?_
  exact x_return dm_134_240 rfl
/-- FencedModules$Rewriter.translateLine(LFencedModules$Source;IILFencedModules$Code;)V -/
def fn_134 (x0 : Option Nat) (x1 : Int32) (x2 : Int32) (x3 : Option Nat) (h : im_H) : Option (im_H) :=
  (x0).bind fun q1 => if h.2.1 q1 = (0, 6) then ((fn_61 q1 x1 h).bind fun b3 => if b3.2.2.1 q1 = (0, 6) then ((fn_62 q1 x1 b3.2).bind fun b5 => if b5.2.2.1 q1 = (0, 6) then ((fn_63 q1 x1 b5.2).bind fun b7 => if b7.2.2.1 q1 = (0, 6) then ((fn_64 q1 x1 b7.2).bind fun b9 => if b3.1 = 8 then (fn_134_76 x2 x3 b3.1 b5.1 b7.1 b9.1 b9.2) else (if b3.1 = 9 then (fn_134_76 x2 x3 b3.1 b5.1 b7.1 b9.1 b9.2) else (if b3.1 = 10 then (fn_134_178 x0 x3 b3.1 b5.1 b7.1 b9.1 b9.2) else (if b3.1 = 11 then (fn_134_178 x0 x3 b3.1 b5.1 b7.1 b9.1 b9.2) else (if b3.1 = 12 then ((fn_137 x0 b9.1 x3 b9.2).bind fun b15 => (fn_147 b3.1 (0 : Int32) (0 : Int32) b15.1 b15.2).bind fun b16 => (x3).bind fun q17 => if b16.2.2.1 q17 = (0, 1) then ((fn_6 q17 b16.1 b16.2).bind fun b19 => some b19.2) else none) else (if b3.1 = 13 then ((fn_47 x2 b9.2).bind fun b21 => (fn_135 x3 (7 : Int32) b5.1 (31 : Int32) b21.1 b21.2).bind fun b22 => (fn_147 b3.1 (7 : Int32) (0 : Int32) (0 : Int32) b22).bind fun b23 => (x3).bind fun q24 => if b23.2.2.1 q24 = (0, 1) then ((fn_6 q24 b23.1 b23.2).bind fun b26 => some b26.2) else none) else (if b3.1 = 14 then (fn_134_224 x3 b3.1 b5.1 b7.1 b9.1 b9.2) else (if b3.1 = 15 then ((fn_47 x2 b9.2).bind fun b29 => (fn_136 x0 b9.1 b29.2).bind fun b30 => (fn_147 (1 : Int32) b5.1 (0 : Int32) (b29.1 + b30.1) b30.2).bind fun b31 => (x3).bind fun q32 => if b31.2.2.1 q32 = (0, 1) then ((fn_6 q32 b31.1 b31.2).bind fun b34 => some b34.2) else none) else (fn_134_224 x3 b3.1 b5.1 b7.1 b9.1 b9.2))))))))) else none) else none) else none) else none
set_option maxRecDepth 100000 in
set_option maxHeartbeats 4000000 in
theorem tn_134 (x0 : Option Nat) (x1 : Int32) (x2 : Int32) (x3 : Option Nat) (h : im_H) : im_Go im_zV 4 fm_134 0 (im_en 0 [.inr x0, .inl x1, .inl x2, .inr x3]) [] h (fn_134 x0 x1 x2 x3 h) := by
  unfold fn_134
  refine x_aload_n dm_134_0 rfl ?_
  refine x_iload_n dm_134_1 rfl ?_
  refine im_bind (fun q1 hq1 => ?_)
  refine im_chk _ (fun hk2 => ?_)
  refine im_callI mf_61 rfl (im_eqo hq1 (tn_61 q1 x1 h)) (im_runV (as := [.inl x1]) (rest := []) dm_134_2 mf_61 (Nat.le_of_ble_eq_true rfl) ml_9_34 mi_61 ms_61 mp_61 (Nat.le_of_ble_eq_true rfl) hq1 hk2 ⟨_, _, rfl⟩) rfl (fun b3 hb3 => ?_)
  refine x_istore dm_134_5 (Nat.le_of_ble_eq_true rfl) ?_
  refine x_aload_n dm_134_7 rfl ?_
  refine x_iload_n dm_134_8 rfl ?_
  refine im_chk _ (fun hk4 => ?_)
  refine im_callI mf_62 rfl (im_eqo hq1 (tn_62 q1 x1 b3.2)) (im_runV (as := [.inl x1]) (rest := []) dm_134_9 mf_62 (Nat.le_of_ble_eq_true rfl) ml_9_38 mi_62 ms_62 mp_62 (Nat.le_of_ble_eq_true rfl) hq1 hk4 ⟨_, _, rfl⟩) rfl (fun b5 hb5 => ?_)
  refine x_istore dm_134_12 (Nat.le_of_ble_eq_true rfl) ?_
  refine x_aload_n dm_134_14 rfl ?_
  refine x_iload_n dm_134_15 rfl ?_
  refine im_chk _ (fun hk6 => ?_)
  refine im_callI mf_63 rfl (im_eqo hq1 (tn_63 q1 x1 b5.2)) (im_runV (as := [.inl x1]) (rest := []) dm_134_16 mf_63 (Nat.le_of_ble_eq_true rfl) ml_9_41 mi_63 ms_63 mp_63 (Nat.le_of_ble_eq_true rfl) hq1 hk6 ⟨_, _, rfl⟩) rfl (fun b7 hb7 => ?_)
  refine x_istore dm_134_19 (Nat.le_of_ble_eq_true rfl) ?_
  refine x_aload_n dm_134_21 rfl ?_
  refine x_iload_n dm_134_22 rfl ?_
  refine im_chk _ (fun hk8 => ?_)
  refine im_callI mf_64 rfl (im_eqo hq1 (tn_64 q1 x1 b7.2)) (im_runV (as := [.inl x1]) (rest := []) dm_134_23 mf_64 (Nat.le_of_ble_eq_true rfl) ml_9_44 mi_64 ms_64 mp_64 (Nat.le_of_ble_eq_true rfl) hq1 hk8 ⟨_, _, rfl⟩) rfl (fun b9 hb9 => ?_)
  refine x_istore dm_134_26 (Nat.le_of_ble_eq_true rfl) ?_
  refine x_iload dm_134_28 rfl ?_
  refine im_test _ (fun c10 => ?_) (fun c10 => ?_)
  · refine x_tabIn 8 76 dm_134_30 c10 (by decide) (by decide) rfl rfl ?_
    exact im_lsub [(2, .inl x2), (3, .inr x3), (4, .inl b3.1), (5, .inl b5.1), (6, .inl b7.1), (7, .inl b9.1)] (im_sb_c rfl (im_sb_c rfl (im_sb_c rfl (im_sb_c rfl (im_sb_c rfl (im_sb_c rfl im_sb_n)))))) (tn_134_76 x2 x3 b3.1 b5.1 b7.1 b9.1 b9.2)
  refine im_test _ (fun c11 => ?_) (fun c11 => ?_)
  · refine x_tabIn 9 76 dm_134_30 c11 (by decide) (by decide) rfl rfl ?_
    exact im_lsub [(2, .inl x2), (3, .inr x3), (4, .inl b3.1), (5, .inl b5.1), (6, .inl b7.1), (7, .inl b9.1)] (im_sb_c rfl (im_sb_c rfl (im_sb_c rfl (im_sb_c rfl (im_sb_c rfl (im_sb_c rfl im_sb_n)))))) (tn_134_76 x2 x3 b3.1 b5.1 b7.1 b9.1 b9.2)
  refine im_test _ (fun c12 => ?_) (fun c12 => ?_)
  · refine x_tabIn 10 178 dm_134_30 c12 (by decide) (by decide) rfl rfl ?_
    exact im_lsub [(0, .inr x0), (3, .inr x3), (4, .inl b3.1), (5, .inl b5.1), (6, .inl b7.1), (7, .inl b9.1)] (im_sb_c rfl (im_sb_c rfl (im_sb_c rfl (im_sb_c rfl (im_sb_c rfl (im_sb_c rfl im_sb_n)))))) (tn_134_178 x0 x3 b3.1 b5.1 b7.1 b9.1 b9.2)
  refine im_test _ (fun c13 => ?_) (fun c13 => ?_)
  · refine x_tabIn 11 178 dm_134_30 c13 (by decide) (by decide) rfl rfl ?_
    exact im_lsub [(0, .inr x0), (3, .inr x3), (4, .inl b3.1), (5, .inl b5.1), (6, .inl b7.1), (7, .inl b9.1)] (im_sb_c rfl (im_sb_c rfl (im_sb_c rfl (im_sb_c rfl (im_sb_c rfl (im_sb_c rfl im_sb_n)))))) (tn_134_178 x0 x3 b3.1 b5.1 b7.1 b9.1 b9.2)
  refine im_test _ (fun c14 => ?_) (fun c14 => ?_)
  · refine x_tabIn 12 202 dm_134_30 c14 (by decide) (by decide) rfl rfl ?_
    refine x_aload_n dm_134_202 rfl ?_
    refine x_iload dm_134_203 rfl ?_
    refine x_iconst (0) dm_134_205 (by decide) ?_
    refine x_iconst (0) dm_134_206 (by decide) ?_
    refine x_aload_n dm_134_207 rfl ?_
    refine x_iload dm_134_208 rfl ?_
    refine x_aload_n dm_134_210 rfl ?_
    refine im_callI mf_137 rfl (tn_137 x0 b9.1 x3 b9.2) (im_runS (as := [.inr x0, .inl b9.1, .inr x3]) (rest := [.inl (0 : Int32), .inl (0 : Int32), .inl b3.1, .inr x3]) dm_134_211 mf_137 (Nat.le_of_ble_eq_true rfl) ml_9_63 mi_137 mp_137 (Nat.le_of_ble_eq_true rfl)) rfl (fun b15 hb15 => ?_)
    refine im_callI mf_147 rfl (tn_147 b3.1 (0 : Int32) (0 : Int32) b15.1 b15.2) (im_runS (as := [.inl b3.1, .inl (0 : Int32), .inl (0 : Int32), .inl b15.1]) (rest := [.inr x3]) dm_134_214 mf_147 (Nat.le_of_ble_eq_true rfl) ml_9_26 mi_147 mp_147 (Nat.le_of_ble_eq_true rfl)) rfl (fun b16 hb16 => ?_)
    refine im_bind (fun q17 hq17 => ?_)
    refine im_chk _ (fun hk18 => ?_)
    refine im_callI mf_6 rfl (im_eqo hq17 (tn_6 q17 b16.1 b16.2)) (im_runV (as := [.inl b16.1]) (rest := []) dm_134_217 mf_6 (Nat.le_of_ble_eq_true rfl) ml_9_30 mi_6 ms_6 mp_6 (Nat.le_of_ble_eq_true rfl) hq17 hk18 ⟨_, _, rfl⟩) rfl (fun b19 hb19 => ?_)
    refine x_pop dm_134_220 ?_
    refine x_goto 240 dm_134_221 rfl ?_
    exact x_return dm_134_240 rfl
  refine im_test _ (fun c20 => ?_) (fun c20 => ?_)
  · refine x_tabIn 13 121 dm_134_30 c20 (by decide) (by decide) rfl rfl ?_
    refine x_aload_n dm_134_121 rfl ?_
    refine x_bipush (7) dm_134_122 (by decide) ?_
    refine x_iload dm_134_124 rfl ?_
    refine x_bipush (31) dm_134_126 (by decide) ?_
    refine x_iload_n dm_134_128 rfl ?_
    refine im_callI mf_47 rfl (tn_47 x2 b9.2) (im_runS (as := [.inl x2]) (rest := [.inl (31 : Int32), .inl b5.1, .inl (7 : Int32), .inr x3]) dm_134_129 mf_47 (Nat.le_of_ble_eq_true rfl) ml_9_56 mi_47 mp_47 (Nat.le_of_ble_eq_true rfl)) rfl (fun b21 hb21 => ?_)
    refine im_callV mf_135 rfl (tn_135 x3 (7 : Int32) b5.1 (31 : Int32) b21.1 b21.2) (im_runS (as := [.inr x3, .inl (7 : Int32), .inl b5.1, .inl (31 : Int32), .inl b21.1]) (rest := []) dm_134_132 mf_135 (Nat.le_of_ble_eq_true rfl) ml_9_52 mi_135 mp_135 (Nat.le_of_ble_eq_true rfl)) rfl (fun b22 hb22 => ?_)
    refine x_aload_n dm_134_135 rfl ?_
    refine x_iload dm_134_136 rfl ?_
    refine x_bipush (7) dm_134_138 (by decide) ?_
    refine x_iconst (0) dm_134_140 (by decide) ?_
    refine x_iconst (0) dm_134_141 (by decide) ?_
    refine im_callI mf_147 rfl (tn_147 b3.1 (7 : Int32) (0 : Int32) (0 : Int32) b22) (im_runS (as := [.inl b3.1, .inl (7 : Int32), .inl (0 : Int32), .inl (0 : Int32)]) (rest := [.inr x3]) dm_134_142 mf_147 (Nat.le_of_ble_eq_true rfl) ml_9_26 mi_147 mp_147 (Nat.le_of_ble_eq_true rfl)) rfl (fun b23 hb23 => ?_)
    refine im_bind (fun q24 hq24 => ?_)
    refine im_chk _ (fun hk25 => ?_)
    refine im_callI mf_6 rfl (im_eqo hq24 (tn_6 q24 b23.1 b23.2)) (im_runV (as := [.inl b23.1]) (rest := []) dm_134_145 mf_6 (Nat.le_of_ble_eq_true rfl) ml_9_30 mi_6 ms_6 mp_6 (Nat.le_of_ble_eq_true rfl) hq24 hk25 ⟨_, _, rfl⟩) rfl (fun b26 hb26 => ?_)
    refine x_pop dm_134_148 ?_
    refine x_goto 240 dm_134_149 rfl ?_
    exact x_return dm_134_240 rfl
  refine im_test _ (fun c27 => ?_) (fun c27 => ?_)
  · refine x_tabIn 14 224 dm_134_30 c27 (by decide) (by decide) rfl rfl ?_
    exact im_lsub [(3, .inr x3), (4, .inl b3.1), (5, .inl b5.1), (6, .inl b7.1), (7, .inl b9.1)] (im_sb_c rfl (im_sb_c rfl (im_sb_c rfl (im_sb_c rfl (im_sb_c rfl im_sb_n))))) (tn_134_224 x3 b3.1 b5.1 b7.1 b9.1 b9.2)
  refine im_test _ (fun c28 => ?_) (fun c28 => ?_)
  · refine x_tabIn 15 152 dm_134_30 c28 (by decide) (by decide) rfl rfl ?_
    refine x_aload_n dm_134_152 rfl ?_
    refine x_iconst (1) dm_134_153 (by decide) ?_
    refine x_iload dm_134_154 rfl ?_
    refine x_iconst (0) dm_134_156 (by decide) ?_
    refine x_iload_n dm_134_157 rfl ?_
    refine im_callI mf_47 rfl (tn_47 x2 b9.2) (im_runS (as := [.inl x2]) (rest := [.inl (0 : Int32), .inl b5.1, .inl (1 : Int32), .inr x3]) dm_134_158 mf_47 (Nat.le_of_ble_eq_true rfl) ml_9_56 mi_47 mp_47 (Nat.le_of_ble_eq_true rfl)) rfl (fun b29 hb29 => ?_)
    refine x_aload_n dm_134_161 rfl ?_
    refine x_iload dm_134_162 rfl ?_
    refine im_callI mf_136 rfl (tn_136 x0 b9.1 b29.2) (im_runS (as := [.inr x0, .inl b9.1]) (rest := [.inl b29.1, .inl (0 : Int32), .inl b5.1, .inl (1 : Int32), .inr x3]) dm_134_164 mf_136 (Nat.le_of_ble_eq_true rfl) ml_9_59 mi_136 mp_136 (Nat.le_of_ble_eq_true rfl)) rfl (fun b30 hb30 => ?_)
    refine x_iadd dm_134_167 ?_
    refine im_callI mf_147 rfl (tn_147 (1 : Int32) b5.1 (0 : Int32) _ b30.2) (im_runS (as := [.inl (1 : Int32), .inl b5.1, .inl (0 : Int32), .inl _]) (rest := [.inr x3]) dm_134_168 mf_147 (Nat.le_of_ble_eq_true rfl) ml_9_26 mi_147 mp_147 (Nat.le_of_ble_eq_true rfl)) rfl (fun b31 hb31 => ?_)
    refine im_bind (fun q32 hq32 => ?_)
    refine im_chk _ (fun hk33 => ?_)
    refine im_callI mf_6 rfl (im_eqo hq32 (tn_6 q32 b31.1 b31.2)) (im_runV (as := [.inl b31.1]) (rest := []) dm_134_171 mf_6 (Nat.le_of_ble_eq_true rfl) ml_9_30 mi_6 ms_6 mp_6 (Nat.le_of_ble_eq_true rfl) hq32 hk33 ⟨_, _, rfl⟩) rfl (fun b34 hb34 => ?_)
    refine x_pop dm_134_174 ?_
    refine x_goto 240 dm_134_175 rfl ?_
    exact x_return dm_134_240 rfl
  refine x_tabOut 224 dm_134_30 (im_swout (8) 8 (by decide) (by decide) (fun i hi => match i, hi with | 0, _ => c10 | 1, _ => c11 | 2, _ => c12 | 3, _ => c13 | 4, _ => c14 | 5, _ => c20 | 6, _ => c27 | 7, _ => c28 | i + 8, hi => absurd hi (by omega))) rfl ?_
  exact im_lsub [(3, .inr x3), (4, .inl b3.1), (5, .inl b5.1), (6, .inl b7.1), (7, .inl b9.1)] (im_sb_c rfl (im_sb_c rfl (im_sb_c rfl (im_sb_c rfl (im_sb_c rfl im_sb_n))))) (tn_134_224 x3 b3.1 b5.1 b7.1 b9.1 b9.2)
def fn_18_65 (r34 : Option Nat → Option Nat → Int32 → Int32 → Int32 → im_H → Option (Int32 × im_H)) (j : Nat) (y1 : Option Nat) (y2 : Option Nat) (y3 : Int32) (y4 : Int32) (y5 : Int32) (h : im_H) : Option (Int32 × im_H) :=
  let v1 : Int32 := (y5 + (1 : Int32)); r34 y1 y2 y3 y4 v1 h
set_option maxRecDepth 100000 in
set_option maxHeartbeats 4000000 in
theorem tn_18_65 (j : Nat) (r34 : Option Nat → Option Nat → Int32 → Int32 → Int32 → im_H → Option (Int32 × im_H)) (hr34 : ∀ (y1 : Option Nat) (y2 : Option Nat) (y3 : Int32) (y4 : Int32) (y5 : Int32) (h : im_H), im_Go im_zI 5 fm_18 34 [(0, .inr (some j)), (1, .inr y1), (2, .inr y2), (3, .inl y3), (4, .inl y4), (5, .inl y5)] [] h (r34 y1 y2 y3 y4 y5 h)) (y1 : Option Nat) (y2 : Option Nat) (y3 : Int32) (y4 : Int32) (y5 : Int32) (h : im_H) : im_Go im_zI 5 fm_18 65 [(0, .inr (some j)), (1, .inr y1), (2, .inr y2), (3, .inl y3), (4, .inl y4), (5, .inl y5)] [] h (fn_18_65 r34 j y1 y2 y3 y4 y5 h) := by
  unfold fn_18_65
  refine x_iinc (1) dm_18_65 rfl (by decide) (Nat.le_of_ble_eq_true rfl) ?_
  refine x_goto 34 dm_18_68 rfl ?_
  exact im_lsub [(0, .inr (some j)), (1, .inr y1), (2, .inr y2), (3, .inl y3), (4, .inl y4), (5, .inl _)] (im_sb_c rfl (im_sb_c rfl (im_sb_c rfl (im_sb_c rfl (im_sb_c rfl (im_sb_c rfl im_sb_n)))))) (hr34 y1 y2 y3 y4 _ h)
def fn_18_34 (j : Nat) : Nat → Option Nat → Option Nat → Int32 → Int32 → Int32 → im_H → Option (Int32 × im_H)
  | 0, _, _, _, _, _, _ => none
  | n + 1, y1, y2, y3, y4, y5, h =>
    if y3 ≤ y5 then (some (y4, h)) else (if y4 = 0 then (if h.2.1 j = (0, 3) then ((fn_19 j y1 h).bind fun b4 => if b4.1 = 0 then (if b4.2.2.1 j = (0, 3) then ((fn_25 j y1 y2 b4.2).bind fun b7 => fn_18_65 (fn_18_34 j n) j y1 y2 y3 b7.1 y5 b7.2) else none) else (fn_18_65 (fn_18_34 j n) j y1 y2 y3 b4.1 y5 b4.2)) else none) else (some (y4, h)))
set_option maxRecDepth 100000 in
set_option maxHeartbeats 4000000 in
theorem tn_18_34 (j : Nat) : ∀ (n : Nat) (y1 : Option Nat) (y2 : Option Nat) (y3 : Int32) (y4 : Int32) (y5 : Int32) (h : im_H), im_Go im_zI 5 fm_18 34 [(0, .inr (some j)), (1, .inr y1), (2, .inr y2), (3, .inl y3), (4, .inl y4), (5, .inl y5)] [] h (fn_18_34 j n y1 y2 y3 y4 y5 h)
  | 0, y1, y2, y3, y4, y5, h => im_none
  | n + 1, y1, y2, y3, y4, y5, h => by
    have ih := tn_18_34 j n
    unfold fn_18_34
    refine x_iload dm_18_34 rfl ?_
    refine x_iload_n dm_18_36 rfl ?_
    refine x_icmp_ge 71 dm_18_37 rfl (fun c1 => ?_) (fun c1 => ?_)
    · refine x_iload dm_18_71 rfl ?_
      exact x_ireturn dm_18_73 rfl
    · refine x_iload dm_18_40 rfl ?_
      refine x_if_ne 71 dm_18_42 rfl (fun c2 => ?_) (fun c2 => ?_)
      · refine x_aload_n dm_18_45 rfl ?_
        refine x_aload_n dm_18_46 rfl ?_
        refine im_chk _ (fun hk3 => ?_)
        refine im_callI mf_19 rfl (tn_19 j y1 h) (im_runV (as := [.inr y1]) (rest := []) dm_18_47 mf_19 (Nat.le_of_ble_eq_true rfl) ml_3_40 mi_19 ms_19 mp_19 (Nat.le_of_ble_eq_true rfl) rfl hk3 ⟨_, _, rfl⟩) rfl (fun b4 hb4 => ?_)
        refine x_istore dm_18_50 (Nat.le_of_ble_eq_true rfl) ?_
        refine x_iload dm_18_52 rfl ?_
        refine x_if_ne 65 dm_18_54 rfl (fun c5 => ?_) (fun c5 => ?_)
        · refine x_aload_n dm_18_57 rfl ?_
          refine x_aload_n dm_18_58 rfl ?_
          refine x_aload_n dm_18_59 rfl ?_
          refine im_chk _ (fun hk6 => ?_)
          refine im_callI mf_25 rfl (tn_25 j y1 y2 b4.2) (im_runV (as := [.inr y1, .inr y2]) (rest := []) dm_18_60 mf_25 (Nat.le_of_ble_eq_true rfl) ml_3_44 mi_25 ms_25 mp_25 (Nat.le_of_ble_eq_true rfl) rfl hk6 ⟨_, _, rfl⟩) rfl (fun b7 hb7 => ?_)
          refine x_istore dm_18_63 (Nat.le_of_ble_eq_true rfl) ?_
          exact im_lsub [(0, .inr (some j)), (1, .inr y1), (2, .inr y2), (3, .inl y3), (4, .inl b7.1), (5, .inl y5)] (im_sb_c rfl (im_sb_c rfl (im_sb_c rfl (im_sb_c rfl (im_sb_c rfl (im_sb_c rfl im_sb_n)))))) (tn_18_65 j (fn_18_34 j n) ih y1 y2 y3 b7.1 y5 b7.2)
        · exact im_lsub [(0, .inr (some j)), (1, .inr y1), (2, .inr y2), (3, .inl y3), (4, .inl b4.1), (5, .inl y5)] (im_sb_c rfl (im_sb_c rfl (im_sb_c rfl (im_sb_c rfl (im_sb_c rfl (im_sb_c rfl im_sb_n)))))) (tn_18_65 j (fn_18_34 j n) ih y1 y2 y3 b4.1 y5 b4.2)
      · refine x_iload dm_18_71 rfl ?_
        exact x_ireturn dm_18_73 rfl
/-- FencedModules$Follower.goThrough(LFencedModules$Source;LFencedModules$Sandbox;I)I -/
def fn_18 (j : Nat) (x1 : Option Nat) (x2 : Option Nat) (x3 : Int32) (h : im_H) : Option (Int32 × im_H) :=
  if h.2.1 j = (0, 3) then (((im_gR h j 0)).bind fun q2 => if h.2.1 q2 = (0, 2) then ((fn_13 q2 h).bind fun b4 => if b4.2.1 j = (0, 3) then ((fn_150 (im_gR b4 j 1) (0 : Int32) b4).bind fun b6 => if b6.2.1 j = (0, 3) then ((fn_150 (im_gR b6 j 2) (-1 : Int32) b6).bind fun b8 => if b8.2.1 j = (0, 3) then (let h10 : im_H := im_pI b8 j 3 (0 : Int32); fn_18_34 j 1000 x1 x2 x3 (0 : Int32) (0 : Int32) h10) else none) else none) else none) else none) else none
set_option maxRecDepth 100000 in
set_option maxHeartbeats 4000000 in
theorem tn_18 (j : Nat) (x1 : Option Nat) (x2 : Option Nat) (x3 : Int32) (h : im_H) : im_Go im_zI 5 fm_18 0 (im_en 0 [.inr (some j), .inr x1, .inr x2, .inl x3]) [] h (fn_18 j x1 x2 x3 h) := by
  unfold fn_18
  refine x_aload_n dm_18_0 rfl ?_
  refine im_chk _ (fun hk1 => ?_)
  refine x_getR dm_18_1 fl_3_16 rfl rfl hk1 ?_
  refine im_bind (fun q2 hq2 => ?_)
  refine im_chk _ (fun hk3 => ?_)
  refine im_callV mf_13 rfl (im_eqo hq2 (tn_13 q2 h)) (im_runV (as := []) (rest := []) dm_18_4 mf_13 (Nat.le_of_ble_eq_true rfl) ml_3_27 mi_13 ms_13 mp_13 (Nat.le_of_ble_eq_true rfl) hq2 hk3 ⟨_, _, rfl⟩) rfl (fun b4 hb4 => ?_)
  refine x_aload_n dm_18_7 rfl ?_
  refine im_chk _ (fun hk5 => ?_)
  refine x_getR dm_18_8 fl_3_20 rfl rfl hk5 ?_
  refine x_iconst (0) dm_18_11 (by decide) ?_
  refine im_callV mf_150 rfl (tn_150 _ (0 : Int32) b4) (im_runS (as := [.inr _, .inl (0 : Int32)]) (rest := []) dm_18_12 mf_150 (Nat.le_of_ble_eq_true rfl) ml_3_30 mi_150 mp_150 (Nat.le_of_ble_eq_true rfl)) rfl (fun b6 hb6 => ?_)
  refine x_aload_n dm_18_15 rfl ?_
  refine im_chk _ (fun hk7 => ?_)
  refine x_getR dm_18_16 fl_3_24 rfl rfl hk7 ?_
  refine x_iconst (-1) dm_18_19 (by decide) ?_
  refine im_callV mf_150 rfl (tn_150 _ (-1 : Int32) b6) (im_runS (as := [.inr _, .inl (-1 : Int32)]) (rest := []) dm_18_20 mf_150 (Nat.le_of_ble_eq_true rfl) ml_3_30 mi_150 mp_150 (Nat.le_of_ble_eq_true rfl)) rfl (fun b8 hb8 => ?_)
  refine x_aload_n dm_18_23 rfl ?_
  refine x_iconst (0) dm_18_24 (by decide) ?_
  refine im_chk _ (fun hk9 => ?_)
  refine x_putI dm_18_25 fl_3_36 rfl rfl hk9 ?_
  refine x_iconst (0) dm_18_28 (by decide) ?_
  refine x_istore dm_18_29 (Nat.le_of_ble_eq_true rfl) ?_
  refine x_iconst (0) dm_18_31 (by decide) ?_
  refine x_istore dm_18_32 (Nat.le_of_ble_eq_true rfl) ?_
  exact im_lsub [(0, .inr (some j)), (1, .inr x1), (2, .inr x2), (3, .inl x3), (4, .inl (0 : Int32)), (5, .inl (0 : Int32))] (im_sb_c rfl (im_sb_c rfl (im_sb_c rfl (im_sb_c rfl (im_sb_c rfl (im_sb_c rfl im_sb_n)))))) (tn_18_34 j 1000 x1 x2 x3 (0 : Int32) (0 : Int32) _)
def fn_35_2 (j : Nat) : Nat → Int32 → Int32 → im_H → Option (Int32 × im_H)
  | 0, _, _, _ => none
  | n + 1, y1, y2, h =>
    if y1 ≤ y2 then (some (y1, h)) else (if h.2.1 j = (0, 4) then ((fn_36 j h).bind fun b3 => if b3.1 = none then (some (y2, b3.2)) else (if b3.2.2.1 j = (0, 4) then ((fn_40 j b3.1 b3.2).bind fun b6 => if b6.2.1 j = (0, 4) then ((fn_37 j b3.1 b6).bind fun b8 => let v9 : Int32 := (y2 + (1 : Int32)); fn_35_2 j n y1 v9 b8) else none) else none)) else none)
set_option maxRecDepth 100000 in
set_option maxHeartbeats 4000000 in
theorem tn_35_2 (j : Nat) : ∀ (n : Nat) (y1 : Int32) (y2 : Int32) (h : im_H), im_Go im_zI 5 fm_35 2 [(0, .inr (some j)), (1, .inl y1), (2, .inl y2)] [] h (fn_35_2 j n y1 y2 h)
  | 0, y1, y2, h => im_none
  | n + 1, y1, y2, h => by
    have ih := tn_35_2 j n
    unfold fn_35_2
    refine x_iload_n dm_35_2 rfl ?_
    refine x_iload_n dm_35_3 rfl ?_
    refine x_icmp_ge 34 dm_35_4 rfl (fun c1 => ?_) (fun c1 => ?_)
    · refine x_iload_n dm_35_34 rfl ?_
      exact x_ireturn dm_35_35 rfl
    · refine x_aload_n dm_35_7 rfl ?_
      refine im_chk _ (fun hk2 => ?_)
      refine im_callR mf_36 rfl (tn_36 j h) (im_runV (as := []) (rest := []) dm_35_8 mf_36 (Nat.le_of_ble_eq_true rfl) ml_4_56 mi_36 ms_36 mp_36 (Nat.le_of_ble_eq_true rfl) rfl hk2 ⟨_, _, rfl⟩) rfl (fun b3 hb3 => ?_)
      refine x_astore_n dm_35_11 (Nat.le_of_ble_eq_true rfl) ?_
      refine x_aload_n dm_35_12 rfl ?_
      refine x_ifnonnull 18 dm_35_13 rfl (fun c4 => ?_) (fun c4 => ?_)
      · refine x_iload_n dm_35_16 rfl ?_
        exact x_ireturn dm_35_17 rfl
      · refine x_aload_n dm_35_18 rfl ?_
        refine x_aload_n dm_35_19 rfl ?_
        refine im_chk _ (fun hk5 => ?_)
        refine im_callV mf_40 rfl (tn_40 j b3.1 b3.2) (im_runV (as := [.inr b3.1]) (rest := []) dm_35_20 mf_40 (Nat.le_of_ble_eq_true rfl) ml_4_60 mi_40 ms_40 mp_40 (Nat.le_of_ble_eq_true rfl) rfl hk5 ⟨_, _, rfl⟩) rfl (fun b6 hb6 => ?_)
        refine x_aload_n dm_35_23 rfl ?_
        refine x_aload_n dm_35_24 rfl ?_
        refine im_chk _ (fun hk7 => ?_)
        refine im_callV mf_37 rfl (tn_37 j b3.1 b6) (im_runV (as := [.inr b3.1]) (rest := []) dm_35_25 mf_37 (Nat.le_of_ble_eq_true rfl) ml_4_64 mi_37 ms_37 mp_37 (Nat.le_of_ble_eq_true rfl) rfl hk7 ⟨_, _, rfl⟩) rfl (fun b8 hb8 => ?_)
        refine x_iinc (1) dm_35_28 rfl (by decide) (Nat.le_of_ble_eq_true rfl) ?_
        refine x_goto 2 dm_35_31 rfl ?_
        exact im_lsub [(0, .inr (some j)), (1, .inl y1), (2, .inl _)] (im_sb_c rfl (im_sb_c rfl (im_sb_c rfl im_sb_n))) (ih y1 _ b8)
/-- FencedModules$Machine.advance(I)I -/
def fn_35 (j : Nat) (x1 : Int32) (h : im_H) : Option (Int32 × im_H) :=
  fn_35_2 j 1000 x1 (0 : Int32) h
set_option maxRecDepth 100000 in
set_option maxHeartbeats 4000000 in
theorem tn_35 (j : Nat) (x1 : Int32) (h : im_H) : im_Go im_zI 5 fm_35 0 (im_en 0 [.inr (some j), .inl x1]) [] h (fn_35 j x1 h) := by
  unfold fn_35
  refine x_iconst (0) dm_35_0 (by decide) ?_
  refine x_istore_n dm_35_1 (Nat.le_of_ble_eq_true rfl) ?_
  exact im_lsub [(0, .inr (some j)), (1, .inl x1), (2, .inl (0 : Int32))] (im_sb_c rfl (im_sb_c rfl (im_sb_c rfl im_sb_n))) (tn_35_2 j 1000 x1 (0 : Int32) h)
/-- FencedModules.<init>()V -/
def fn_72 (j : Nat) (h : im_H) : Option (im_H) :=
  if im_oa h [(0, .inr (some j))] [.inr (some j)] = true then (let h2 : im_H := im_nw h (0, 6) 6; if ([(0, .inr (some j))] : im_L).all (fun q => im_ok h2.1.1 q.2) = true ∧ ([.inr (some h.1.1), .inr (some j)] : List im_V).all (im_ok h2.1.1) = true then ((fn_55 h.1.1 h2).bind fun b3 => if b3.2.1 j = (0, 7) then (let h6 : im_H := im_pR b3 j 0 (some h.1.1); if im_oa h6 [(0, .inr (some j))] [.inr (some j)] = true then (let h8 : im_H := im_nw h6 (0, 1) 2; if ([(0, .inr (some j))] : im_L).all (fun q => im_ok h8.1.1 q.2) = true ∧ ([.inr (some h6.1.1), .inr (some j)] : List im_V).all (im_ok h8.1.1) = true then ((fn_4 h6.1.1 h8).bind fun b9 => if b9.2.1 j = (0, 7) then (let h12 : im_H := im_pR b9 j 1 (some h6.1.1); if im_oa h12 [(0, .inr (some j))] [.inr (some j)] = true then (let h14 : im_H := im_nw h12 (0, 4) 4; if ([(0, .inr (some j))] : im_L).all (fun q => im_ok h14.1.1 q.2) = true ∧ ([.inr (some h12.1.1), .inr (some j)] : List im_V).all (im_ok h14.1.1) = true then ((fn_30 h12.1.1 h14).bind fun b15 => if b15.2.1 j = (0, 7) then (let h18 : im_H := im_pR b15 j 2 (some h12.1.1); if im_oa h18 [(0, .inr (some j))] [.inr (some j)] = true then (let h20 : im_H := im_nw h18 (0, 3) 4; if ([(0, .inr (some j))] : im_L).all (fun q => im_ok h20.1.1 q.2) = true ∧ ([.inr (some h18.1.1), .inr (some j)] : List im_V).all (im_ok h20.1.1) = true then ((fn_17 h18.1.1 h20).bind fun b21 => if b21.2.1 j = (0, 7) then (let h24 : im_H := im_pR b21 j 3 (some h18.1.1); some h24) else none) else none) else none) else none) else none) else none) else none) else none) else none) else none) else none) else none
set_option maxRecDepth 100000 in
set_option maxHeartbeats 4000000 in
theorem tn_72 (j : Nat) (h : im_H) : im_Go im_zV 5 fm_72 0 (im_en 0 [.inr (some j)]) [] h (fn_72 j h) := by
  unfold fn_72
  refine x_aload_n dm_72_0 rfl ?_
  refine x_objinit dm_72_1 ml_7_1 mo_i mo_c (Nat.le_of_ble_eq_true rfl) (Nat.le_of_ble_eq_true rfl) rfl ?_
  refine x_aload_n dm_72_4 rfl ?_
  refine im_chk _ (fun ho1 => ?_)
  refine x_new dm_72_5 fc_6 ct_6 cl_7_7 cn_6 ci_6 rfl ho1 ?_
  refine x_dup dm_72_8 ?_
  refine im_chk _ (fun ho4 => ?_)
  refine im_callA mf_55 rfl (tn_55 _ _) (im_runI (as := []) (rest := [.inr _, .inr (some j)]) dm_72_9 mf_55 (Nat.le_of_ble_eq_true rfl) rfl ml_7_9 mi_55 rfl mp_55 (Nat.le_of_ble_eq_true rfl) rfl) rfl ho4 (fun b3 hb3 => ?_)
  refine im_chk _ (fun hk5 => ?_)
  refine x_putFR dm_72_12 fl_7_10 rfl rfl rfl rfl hk5 ?_
  refine x_aload_n dm_72_15 rfl ?_
  refine im_chk _ (fun ho7 => ?_)
  refine x_new dm_72_16 fc_1 ct_1 cl_7_16 cn_1 ci_1 rfl ho7 ?_
  refine x_dup dm_72_19 ?_
  refine im_chk _ (fun ho10 => ?_)
  refine im_callA mf_4 rfl (tn_4 _ _) (im_runI (as := []) (rest := [.inr _, .inr (some j)]) dm_72_20 mf_4 (Nat.le_of_ble_eq_true rfl) rfl ml_7_18 mi_4 rfl mp_4 (Nat.le_of_ble_eq_true rfl) rfl) rfl ho10 (fun b9 hb9 => ?_)
  refine im_chk _ (fun hk11 => ?_)
  refine x_putFR dm_72_23 fl_7_19 rfl rfl rfl rfl hk11 ?_
  refine x_aload_n dm_72_26 rfl ?_
  refine im_chk _ (fun ho13 => ?_)
  refine x_new dm_72_27 fc_4 ct_4 cl_7_23 cn_4 ci_4 rfl ho13 ?_
  refine x_dup dm_72_30 ?_
  refine im_chk _ (fun ho16 => ?_)
  refine im_callA mf_30 rfl (tn_30 _ _) (im_runI (as := []) (rest := [.inr _, .inr (some j)]) dm_72_31 mf_30 (Nat.le_of_ble_eq_true rfl) rfl ml_7_25 mi_30 rfl mp_30 (Nat.le_of_ble_eq_true rfl) rfl) rfl ho16 (fun b15 hb15 => ?_)
  refine im_chk _ (fun hk17 => ?_)
  refine x_putFR dm_72_34 fl_7_26 rfl rfl rfl rfl hk17 ?_
  refine x_aload_n dm_72_37 rfl ?_
  refine im_chk _ (fun ho19 => ?_)
  refine x_new dm_72_38 fc_3 ct_3 cl_7_30 cn_3 ci_3 rfl ho19 ?_
  refine x_dup dm_72_41 ?_
  refine im_chk _ (fun ho22 => ?_)
  refine im_callA mf_17 rfl (tn_17 _ _) (im_runI (as := []) (rest := [.inr _, .inr (some j)]) dm_72_42 mf_17 (Nat.le_of_ble_eq_true rfl) rfl ml_7_32 mi_17 rfl mp_17 (Nat.le_of_ble_eq_true rfl) rfl) rfl ho22 (fun b21 hb21 => ?_)
  refine im_chk _ (fun hk23 => ?_)
  refine x_putFR dm_72_45 fl_7_33 rfl rfl rfl rfl hk23 ?_
  exact x_return dm_72_48 rfl
def fn_133_6  : Nat → Option Nat → Int32 → Option Nat → Int32 → im_H → Option (im_H)
  | 0, _, _, _, _, _ => none
  | n + 1, y0, y1, y2, y3, h =>
    (y0).bind fun q1 => if h.2.1 q1 = (0, 6) then ((fn_59 q1 h).bind fun b3 => if b3.1 ≤ y3 then ((fn_147 (0 : Int32) (0 : Int32) (0 : Int32) (0 : Int32) b3.2).bind fun b5 => (y2).bind fun q6 => if b5.2.2.1 q6 = (0, 1) then ((fn_6 q6 b5.1 b5.2).bind fun b8 => some b8.2) else none) else ((fn_134 y0 y3 y1 y2 b3.2).bind fun b9 => let v10 : Int32 := (y3 + (1 : Int32)); fn_133_6  n y0 y1 y2 v10 b9)) else none
set_option maxRecDepth 100000 in
set_option maxHeartbeats 4000000 in
theorem tn_133_6  : ∀ (n : Nat) (y0 : Option Nat) (y1 : Int32) (y2 : Option Nat) (y3 : Int32) (h : im_H), im_Go im_zV 5 fm_133 6 [(0, .inr y0), (1, .inl y1), (2, .inr y2), (3, .inl y3)] [] h (fn_133_6  n y0 y1 y2 y3 h)
  | 0, y0, y1, y2, y3, h => im_none
  | n + 1, y0, y1, y2, y3, h => by
    have ih := tn_133_6  n
    unfold fn_133_6
    refine x_iload_n dm_133_6 rfl ?_
    refine x_aload_n dm_133_7 rfl ?_
    refine im_bind (fun q1 hq1 => ?_)
    refine im_chk _ (fun hk2 => ?_)
    refine im_callI mf_59 rfl (im_eqo hq1 (tn_59 q1 h)) (im_runV (as := []) (rest := [.inl y3]) dm_133_8 mf_59 (Nat.le_of_ble_eq_true rfl) ml_9_12 mi_59 ms_59 mp_59 (Nat.le_of_ble_eq_true rfl) hq1 hk2 ⟨_, _, rfl⟩) rfl (fun b3 hb3 => ?_)
    refine x_icmp_ge 27 dm_133_11 rfl (fun c4 => ?_) (fun c4 => ?_)
    · refine x_aload_n dm_133_27 rfl ?_
      refine x_iconst (0) dm_133_28 (by decide) ?_
      refine x_iconst (0) dm_133_29 (by decide) ?_
      refine x_iconst (0) dm_133_30 (by decide) ?_
      refine x_iconst (0) dm_133_31 (by decide) ?_
      refine im_callI mf_147 rfl (tn_147 (0 : Int32) (0 : Int32) (0 : Int32) (0 : Int32) b3.2) (im_runS (as := [.inl (0 : Int32), .inl (0 : Int32), .inl (0 : Int32), .inl (0 : Int32)]) (rest := [.inr y2]) dm_133_32 mf_147 (Nat.le_of_ble_eq_true rfl) ml_9_26 mi_147 mp_147 (Nat.le_of_ble_eq_true rfl)) rfl (fun b5 hb5 => ?_)
      refine im_bind (fun q6 hq6 => ?_)
      refine im_chk _ (fun hk7 => ?_)
      refine im_callI mf_6 rfl (im_eqo hq6 (tn_6 q6 b5.1 b5.2)) (im_runV (as := [.inl b5.1]) (rest := []) dm_133_35 mf_6 (Nat.le_of_ble_eq_true rfl) ml_9_30 mi_6 ms_6 mp_6 (Nat.le_of_ble_eq_true rfl) hq6 hk7 ⟨_, _, rfl⟩) rfl (fun b8 hb8 => ?_)
      refine x_pop dm_133_38 ?_
      exact x_return dm_133_39 rfl
    · refine x_aload_n dm_133_14 rfl ?_
      refine x_iload_n dm_133_15 rfl ?_
      refine x_iload_n dm_133_16 rfl ?_
      refine x_aload_n dm_133_17 rfl ?_
      refine im_callV mf_134 rfl (tn_134 y0 y3 y1 y2 b3.2) (im_runS (as := [.inr y0, .inl y3, .inl y1, .inr y2]) (rest := []) dm_133_18 mf_134 (Nat.le_of_ble_eq_true rfl) ml_9_18 mi_134 mp_134 (Nat.le_of_ble_eq_true rfl)) rfl (fun b9 hb9 => ?_)
      refine x_iinc (1) dm_133_21 rfl (by decide) (Nat.le_of_ble_eq_true rfl) ?_
      refine x_goto 6 dm_133_24 rfl ?_
      exact im_lsub [(0, .inr y0), (1, .inl y1), (2, .inr y2), (3, .inl _)] (im_sb_c rfl (im_sb_c rfl (im_sb_c rfl (im_sb_c rfl im_sb_n)))) (ih y0 y1 y2 _ b9)
/-- FencedModules$Rewriter.translate(LFencedModules$Source;ILFencedModules$Code;)V -/
def fn_133 (x0 : Option Nat) (x1 : Int32) (x2 : Option Nat) (h : im_H) : Option (im_H) :=
  (x2).bind fun q1 => if h.2.1 q1 = (0, 1) then ((fn_5 q1 h).bind fun b3 => fn_133_6 1000 x0 x1 x2 (0 : Int32) b3) else none
set_option maxRecDepth 100000 in
set_option maxHeartbeats 4000000 in
theorem tn_133 (x0 : Option Nat) (x1 : Int32) (x2 : Option Nat) (h : im_H) : im_Go im_zV 5 fm_133 0 (im_en 0 [.inr x0, .inl x1, .inr x2]) [] h (fn_133 x0 x1 x2 h) := by
  unfold fn_133
  refine x_aload_n dm_133_0 rfl ?_
  refine im_bind (fun q1 hq1 => ?_)
  refine im_chk _ (fun hk2 => ?_)
  refine im_callV mf_5 rfl (im_eqo hq1 (tn_5 q1 h)) (im_runV (as := []) (rest := []) dm_133_1 mf_5 (Nat.le_of_ble_eq_true rfl) ml_9_7 mi_5 ms_5 mp_5 (Nat.le_of_ble_eq_true rfl) hq1 hk2 ⟨_, _, rfl⟩) rfl (fun b3 hb3 => ?_)
  refine x_iconst (0) dm_133_4 (by decide) ?_
  refine x_istore_n dm_133_5 (Nat.le_of_ble_eq_true rfl) ?_
  exact im_lsub [(0, .inr x0), (1, .inl x1), (2, .inr x2), (3, .inl (0 : Int32))] (im_sb_c rfl (im_sb_c rfl (im_sb_c rfl (im_sb_c rfl im_sb_n)))) (tn_133_6 1000 x0 x1 x2 (0 : Int32) b3)
/-- FencedModules.rewrite(I)I -/
def fn_76 (j : Nat) (x1 : Int32) (h : im_H) : Option (Int32 × im_H) :=
  (fn_45 x1 h).bind fun b1 => if b1.1 = 0 then (some ((-1 : Int32), b1.2)) else (if b1.2.2.1 j = (0, 7) then (((im_gR b1.2 j 0)).bind fun q4 => if b1.2.2.1 q4 = (0, 6) then ((fn_67 q4 b1.2).bind fun b6 => if b6.1 = 0 then (some ((-1 : Int32), b6.2)) else (if b6.2.2.1 j = (0, 7) then ((fn_133 (im_gR b6.2 j 0) x1 (im_gR b6.2 j 1) b6.2).bind fun b9 => if b9.2.1 j = (0, 7) then (((im_gR b9 j 1)).bind fun q11 => if b9.2.1 q11 = (0, 1) then ((fn_7 q11 b9).bind fun b13 => some (b13.1, b13.2)) else none) else none) else none)) else none) else none)
set_option maxRecDepth 100000 in
set_option maxHeartbeats 4000000 in
theorem tn_76 (j : Nat) (x1 : Int32) (h : im_H) : im_Go im_zI 6 fm_76 0 (im_en 0 [.inr (some j), .inl x1]) [] h (fn_76 j x1 h) := by
  unfold fn_76
  refine x_iload_n dm_76_0 rfl ?_
  refine im_callI mf_45 rfl (tn_45 x1 h) (im_runS (as := [.inl x1]) (rest := []) dm_76_1 mf_45 (Nat.le_of_ble_eq_true rfl) ml_7_49 mi_45 mp_45 (Nat.le_of_ble_eq_true rfl)) rfl (fun b1 hb1 => ?_)
  refine x_if_eq 17 dm_76_4 rfl (fun c2 => ?_) (fun c2 => ?_)
  · refine x_iconst (-1) dm_76_17 (by decide) ?_
    exact x_ireturn dm_76_18 rfl
  · refine x_aload_n dm_76_7 rfl ?_
    refine im_chk _ (fun hk3 => ?_)
    refine x_getR dm_76_8 fl_7_10 rfl rfl hk3 ?_
    refine im_bind (fun q4 hq4 => ?_)
    refine im_chk _ (fun hk5 => ?_)
    refine im_callI mf_67 rfl (im_eqo hq4 (tn_67 q4 b1.2)) (im_runV (as := []) (rest := []) dm_76_11 mf_67 (Nat.le_of_ble_eq_true rfl) ml_7_54 mi_67 ms_67 mp_67 (Nat.le_of_ble_eq_true rfl) hq4 hk5 ⟨_, _, rfl⟩) rfl (fun b6 hb6 => ?_)
    refine x_if_ne 19 dm_76_14 rfl (fun c7 => ?_) (fun c7 => ?_)
    · refine x_iconst (-1) dm_76_17 (by decide) ?_
      exact x_ireturn dm_76_18 rfl
    · refine x_aload_n dm_76_19 rfl ?_
      refine im_chk _ (fun hk8 => ?_)
      refine x_getR dm_76_20 fl_7_10 rfl rfl hk8 ?_
      refine x_iload_n dm_76_23 rfl ?_
      refine x_aload_n dm_76_24 rfl ?_
      refine x_getR dm_76_25 fl_7_19 rfl rfl hk8 ?_
      refine im_callV mf_133 rfl (tn_133 _ x1 _ b6.2) (im_runS (as := [.inr _, .inl x1, .inr _]) (rest := []) dm_76_28 mf_133 (Nat.le_of_ble_eq_true rfl) ml_7_58 mi_133 mp_133 (Nat.le_of_ble_eq_true rfl)) rfl (fun b9 hb9 => ?_)
      refine x_aload_n dm_76_31 rfl ?_
      refine im_chk _ (fun hk10 => ?_)
      refine x_getR dm_76_32 fl_7_19 rfl rfl hk10 ?_
      refine im_bind (fun q11 hq11 => ?_)
      refine im_chk _ (fun hk12 => ?_)
      refine im_callI mf_7 rfl (im_eqo hq11 (tn_7 q11 b9)) (im_runV (as := []) (rest := []) dm_76_35 mf_7 (Nat.le_of_ble_eq_true rfl) ml_7_64 mi_7 ms_7 mp_7 (Nat.le_of_ble_eq_true rfl) hq11 hk12 ⟨_, _, rfl⟩) rfl (fun b13 hb13 => ?_)
      exact x_ireturn dm_76_38 rfl
def fn_82_11 (j : Nat) (h : im_H) : Option (Int32 × im_H) :=
  some ((-1 : Int32), h)
set_option maxRecDepth 100000 in
set_option maxHeartbeats 4000000 in
theorem tn_82_11 (j : Nat) (h : im_H) : im_Go im_zI 6 fm_82 11 [] [] h (fn_82_11 j h) := by
  unfold fn_82_11
  refine x_iconst (-1) dm_82_11 (by decide) ?_
  refine x_goto 23 dm_82_12 rfl ?_
  exact x_ireturn dm_82_23 rfl
/-- FencedModules.run(I)I -/
def fn_82 (j : Nat) (x1 : Int32) (h : im_H) : Option (Int32 × im_H) :=
  if x1 < 0 then (fn_82_11 j h) else (if x1 ≤ (500 : Int32) then (if h.2.1 j = (0, 7) then (((im_gR h j 2)).bind fun q4 => if h.2.1 q4 = (0, 4) then ((fn_35 q4 x1 h).bind fun b6 => some (b6.1, b6.2)) else none) else none) else (fn_82_11 j h))
set_option maxRecDepth 100000 in
set_option maxHeartbeats 4000000 in
theorem tn_82 (j : Nat) (x1 : Int32) (h : im_H) : im_Go im_zI 6 fm_82 0 (im_en 0 [.inr (some j), .inl x1]) [] h (fn_82 j x1 h) := by
  unfold fn_82
  refine x_iload_n dm_82_0 rfl ?_
  refine x_if_lt 11 dm_82_1 rfl (fun c1 => ?_) (fun c1 => ?_)
  · exact im_lsub [] im_sb_n (tn_82_11 j h)
  · refine x_iload_n dm_82_4 rfl ?_
    refine x_sipush (500) dm_82_5 (by decide) ?_
    refine x_icmp_le 15 dm_82_8 rfl (fun c2 => ?_) (fun c2 => ?_)
    · refine x_aload_n dm_82_15 rfl ?_
      refine im_chk _ (fun hk3 => ?_)
      refine x_getR dm_82_16 fl_7_26 rfl rfl hk3 ?_
      refine x_iload_n dm_82_19 rfl ?_
      refine im_bind (fun q4 hq4 => ?_)
      refine im_chk _ (fun hk5 => ?_)
      refine im_callI mf_35 rfl (im_eqo hq4 (tn_35 q4 x1 h)) (im_runV (as := [.inl x1]) (rest := []) dm_82_20 mf_35 (Nat.le_of_ble_eq_true rfl) ml_7_96 mi_35 ms_35 mp_35 (Nat.le_of_ble_eq_true rfl) hq4 hk5 ⟨_, _, rfl⟩) rfl (fun b6 hb6 => ?_)
      exact x_ireturn dm_82_23 rfl
    · exact im_lsub [] im_sb_n (tn_82_11 j h)
/-- FencedModules.follow(II)I -/
def fn_89 (j : Nat) (x1 : Int32) (x2 : Int32) (h : im_H) : Option (Int32 × im_H) :=
  if h.2.1 j = (0, 7) then (((im_gR h j 2)).bind fun q2 => if h.2.1 q2 = (0, 4) then ((fn_31 q2 x1 h).bind fun b4 => if b4.1 = none then (some ((-1 : Int32), b4.2)) else (if x2 < 0 then (some ((-1 : Int32), b4.2)) else (if (300 : Int32) < x2 then (some ((-1 : Int32), b4.2)) else (if b4.2.2.1 j = (0, 7) then (((im_gR b4.2 j 0)).bind fun q9 => if b4.2.2.1 q9 = (0, 6) then ((fn_67 q9 b4.2).bind fun b11 => if b11.1 = 0 then (some ((-1 : Int32), b11.2)) else (if b11.2.2.1 j = (0, 7) then (((im_gR b11.2 j 3)).bind fun q14 => if b11.2.2.1 q14 = (0, 3) then ((fn_18 q14 (im_gR b11.2 j 0) b4.1 x2 b11.2).bind fun b16 => some (b16.1, b16.2)) else none) else none)) else none) else none)))) else none) else none
set_option maxRecDepth 100000 in
set_option maxHeartbeats 4000000 in
theorem tn_89 (j : Nat) (x1 : Int32) (x2 : Int32) (h : im_H) : im_Go im_zI 6 fm_89 0 (im_en 0 [.inr (some j), .inl x1, .inl x2]) [] h (fn_89 j x1 x2 h) := by
  unfold fn_89
  refine x_aload_n dm_89_0 rfl ?_
  refine im_chk _ (fun hk1 => ?_)
  refine x_getR dm_89_1 fl_7_26 rfl rfl hk1 ?_
  refine x_iload_n dm_89_4 rfl ?_
  refine im_bind (fun q2 hq2 => ?_)
  refine im_chk _ (fun hk3 => ?_)
  refine im_callR mf_31 rfl (im_eqo hq2 (tn_31 q2 x1 h)) (im_runV (as := [.inl x1]) (rest := []) dm_89_5 mf_31 (Nat.le_of_ble_eq_true rfl) ml_7_85 mi_31 ms_31 mp_31 (Nat.le_of_ble_eq_true rfl) hq2 hk3 ⟨_, _, rfl⟩) rfl (fun b4 hb4 => ?_)
  refine x_astore_n dm_89_8 (Nat.le_of_ble_eq_true rfl) ?_
  refine x_aload_n dm_89_9 rfl ?_
  refine x_ifnull 34 dm_89_10 rfl (fun c5 => ?_) (fun c5 => ?_)
  · refine x_iconst (-1) dm_89_34 (by decide) ?_
    exact x_ireturn dm_89_35 rfl
  · refine x_iload_n dm_89_13 rfl ?_
    refine x_if_lt 34 dm_89_14 rfl (fun c6 => ?_) (fun c6 => ?_)
    · refine x_iconst (-1) dm_89_34 (by decide) ?_
      exact x_ireturn dm_89_35 rfl
    · refine x_iload_n dm_89_17 rfl ?_
      refine x_sipush (300) dm_89_18 (by decide) ?_
      refine x_icmp_gt 34 dm_89_21 rfl (fun c7 => ?_) (fun c7 => ?_)
      · refine x_iconst (-1) dm_89_34 (by decide) ?_
        exact x_ireturn dm_89_35 rfl
      · refine x_aload_n dm_89_24 rfl ?_
        refine im_chk _ (fun hk8 => ?_)
        refine x_getR dm_89_25 fl_7_10 rfl rfl hk8 ?_
        refine im_bind (fun q9 hq9 => ?_)
        refine im_chk _ (fun hk10 => ?_)
        refine im_callI mf_67 rfl (im_eqo hq9 (tn_67 q9 b4.2)) (im_runV (as := []) (rest := []) dm_89_28 mf_67 (Nat.le_of_ble_eq_true rfl) ml_7_54 mi_67 ms_67 mp_67 (Nat.le_of_ble_eq_true rfl) hq9 hk10 ⟨_, _, rfl⟩) rfl (fun b11 hb11 => ?_)
        refine x_if_ne 36 dm_89_31 rfl (fun c12 => ?_) (fun c12 => ?_)
        · refine x_iconst (-1) dm_89_34 (by decide) ?_
          exact x_ireturn dm_89_35 rfl
        · refine x_aload_n dm_89_36 rfl ?_
          refine im_chk _ (fun hk13 => ?_)
          refine x_getR dm_89_37 fl_7_33 rfl rfl hk13 ?_
          refine x_aload_n dm_89_40 rfl ?_
          refine x_getR dm_89_41 fl_7_10 rfl rfl hk13 ?_
          refine x_aload_n dm_89_44 rfl ?_
          refine x_iload_n dm_89_45 rfl ?_
          refine im_bind (fun q14 hq14 => ?_)
          refine im_chk _ (fun hk15 => ?_)
          refine im_callI mf_18 rfl (im_eqo hq14 (tn_18 q14 _ b4.1 x2 b11.2)) (im_runV (as := [.inr _, .inr b4.1, .inl x2]) (rest := []) dm_89_46 mf_18 (Nat.le_of_ble_eq_true rfl) ml_7_128 mi_18 ms_18 mp_18 (Nat.le_of_ble_eq_true rfl) hq14 hk15 ⟨_, _, rfl⟩) rfl (fun b16 hb16 => ?_)
          exact x_ireturn dm_89_49 rfl
