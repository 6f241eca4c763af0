/-- FencedModules.verify(I)I -/
def gn_79 (x1 : Int32) (M : im_M) : Option (Int32 × im_M) :=
  (gn_45 x1 M).bind fun b1 => if b1.1 = 0 then (some ((-2 : Int32), b1.2)) else ((gn_139 x1 b1.2).bind fun b3 => some (b3.1, b3.2))
set_option maxRecDepth 100000 in
set_option maxHeartbeats 4000000 in
theorem tg_79 (x1 : Int32) (M : im_M) : im_Go zC_I 4 fm_79 0 (im_en 0 [.inr (some 0), .inl x1]) [] (st_hC M) (gn_79 x1 M) := by
  unfold gn_79
  refine x_iload_n dm_79_0 rfl ?_
  refine im_callCI mf_45 rfl (tg_45 x1 M) (im_runS (as := [.inl x1]) (rest := []) dm_79_1 mf_45 (Nat.le_of_ble_eq_true rfl) ml_7_49 mi_45 mp_45 (Nat.le_of_ble_eq_true rfl)) rfl (fun b1 hb1 => ?_)
  refine x_if_eq 18 dm_79_4 rfl (fun c2 => ?_) (fun c2 => ?_)
  · refine x_bipush (-2) dm_79_18 (by decide) ?_
    exact x_iretC dm_79_20 rfl
  · refine x_aload_n dm_79_7 rfl ?_
    refine x_getRC dm_79_8 fl_7_19 rfl rfl rfl rfl ?_
    refine x_iload_n dm_79_11 rfl ?_
    refine im_callCI mf_139 rfl (tg_139 x1 b1.2) (im_runS (as := [.inr (some 7), .inl x1]) (rest := []) dm_79_12 mf_139 (Nat.le_of_ble_eq_true rfl) ml_7_75 mi_139 mp_139 (Nat.le_of_ble_eq_true rfl)) rfl (fun b3 hb3 => ?_)
    refine x_goto 20 dm_79_15 rfl ?_
    exact x_iretC dm_79_20 rfl
/-- FencedModules.load(I)Z -/
def gn_80 (x1 : Int32) (M : im_M) : Option (Int32 × im_M) :=
  (gn_45 x1 M).bind fun b1 => if b1.1 = 0 then (some ((0 : Int32), b1.2)) else ((gn_139 x1 b1.2).bind fun b3 => if b3.1 = (-1 : Int32) then ((gn_34 x1 b3.2).bind fun b5 => some ((1 : Int32), b5)) else (some ((0 : Int32), b3.2)))
set_option maxRecDepth 100000 in
set_option maxHeartbeats 4000000 in
theorem tg_80 (x1 : Int32) (M : im_M) : im_Go zC_I 4 fm_80 0 (im_en 0 [.inr (some 0), .inl x1]) [] (st_hC M) (gn_80 x1 M) := by
  unfold gn_80
  refine x_iload_n dm_80_0 rfl ?_
  refine im_callCI mf_45 rfl (tg_45 x1 M) (im_runS (as := [.inl x1]) (rest := []) dm_80_1 mf_45 (Nat.le_of_ble_eq_true rfl) ml_7_49 mi_45 mp_45 (Nat.le_of_ble_eq_true rfl)) rfl (fun b1 hb1 => ?_)
  refine x_if_eq 19 dm_80_4 rfl (fun c2 => ?_) (fun c2 => ?_)
  · refine x_iconst (0) dm_80_19 (by decide) ?_
    exact x_zretC dm_80_20 rfl (by decide)
  · refine x_aload_n dm_80_7 rfl ?_
    refine x_getRC dm_80_8 fl_7_19 rfl rfl rfl rfl ?_
    refine x_iload_n dm_80_11 rfl ?_
    refine im_callCI mf_139 rfl (tg_139 x1 b1.2) (im_runS (as := [.inr (some 7), .inl x1]) (rest := []) dm_80_12 mf_139 (Nat.le_of_ble_eq_true rfl) ml_7_75 mi_139 mp_139 (Nat.le_of_ble_eq_true rfl)) rfl (fun b3 hb3 => ?_)
    refine x_iconst (-1) dm_80_15 (by decide) ?_
    refine x_icmp_eq 21 dm_80_16 rfl (fun c4 => ?_) (fun c4 => ?_)
    · refine x_aload_n dm_80_21 rfl ?_
      refine x_getRC dm_80_22 fl_7_26 rfl rfl rfl rfl ?_
      refine x_aload_n dm_80_25 rfl ?_
      refine x_getRC dm_80_26 fl_7_19 rfl rfl rfl rfl ?_
      refine x_iload_n dm_80_29 rfl ?_
      refine im_callCV mf_34 rfl (tg_34 x1 b3.2) (im_runV (as := [.inr (some 7), .inl x1]) (rest := []) dm_80_30 mf_34 (Nat.le_of_ble_eq_true rfl) ml_7_81 mi_34 ms_34 mp_34 (Nat.le_of_ble_eq_true rfl) rfl rfl ⟨_, _, rfl⟩) rfl (fun b5 hb5 => ?_)
      refine x_iconst (1) dm_80_33 (by decide) ?_
      exact x_zretC dm_80_34 rfl (by decide)
    · refine x_iconst (0) dm_80_19 (by decide) ?_
      exact x_zretC dm_80_20 rfl (by decide)
def gn_134_76 (y2 : Int32) (y4 : Int32) (y5 : Int32) (y6 : Int32) (y7 : Int32) (M : im_M) : Option (im_M) :=
  (gn_147 (2 : Int32) (5 : Int32) y6 y7 M).bind fun b1 => (gn_6 b1.1 b1.2).bind fun b2 => (gn_46 y2 b2.2).bind fun b3 => (gn_135 (6 : Int32) (5 : Int32) (15 : Int32) b3.1 b3.2).bind fun b4 => (gn_147 y4 y5 (6 : Int32) (0 : Int32) b4).bind fun b5 => (gn_6 b5.1 b5.2).bind fun b6 => some b6.2
set_option maxRecDepth 100000 in
set_option maxHeartbeats 4000000 in
theorem tg_134_76 (y2 : Int32) (y4 : Int32) (y5 : Int32) (y6 : Int32) (y7 : Int32) (M : im_M) : im_Go zC_V 4 fm_134 76 [(2, .inl y2), (3, .inr (some 7)), (4, .inl y4), (5, .inl y5), (6, .inl y6), (7, .inl y7)] [] (st_hC M) (gn_134_76 y2 y4 y5 y6 y7 M) := by
  unfold gn_134_76
  refine x_aload_n dm_134_76 rfl ?_
  refine x_iconst (2) dm_134_77 (by decide) ?_
  refine x_iconst (5) dm_134_78 (by decide) ?_
  refine x_iload dm_134_79 rfl ?_
  refine x_iload dm_134_81 rfl ?_
  refine im_callCI mf_147 rfl (tg_147 (2 : Int32) (5 : Int32) y6 y7 M) (im_runS (as := [.inl (2 : Int32), .inl (5 : Int32), .inl y6, .inl y7]) (rest := [.inr (some 7)]) dm_134_83 mf_147 (Nat.le_of_ble_eq_true rfl) ml_9_26 mi_147 mp_147 (Nat.le_of_ble_eq_true rfl)) rfl (fun b1 hb1 => ?_)
  refine im_callCI mf_6 rfl (tg_6 b1.1 b1.2) (im_runV (as := [.inl b1.1]) (rest := []) dm_134_86 mf_6 (Nat.le_of_ble_eq_true rfl) ml_9_30 mi_6 ms_6 mp_6 (Nat.le_of_ble_eq_true rfl) rfl rfl ⟨_, _, rfl⟩) rfl (fun b2 hb2 => ?_)
  refine x_pop dm_134_89 ?_
  refine x_aload_n dm_134_90 rfl ?_
  refine x_bipush (6) dm_134_91 (by decide) ?_
  refine x_iconst (5) dm_134_93 (by decide) ?_
  refine x_bipush (15) dm_134_94 (by decide) ?_
  refine x_iload_n dm_134_96 rfl ?_
  refine im_callCI mf_46 rfl (tg_46 y2 b2.2) (im_runS (as := [.inl y2]) (rest := [.inl (15 : Int32), .inl (5 : Int32), .inl (6 : Int32), .inr (some 7)]) dm_134_97 mf_46 (Nat.le_of_ble_eq_true rfl) ml_9_49 mi_46 mp_46 (Nat.le_of_ble_eq_true rfl)) rfl (fun b3 hb3 => ?_)
  refine im_callCV mf_135 rfl (tg_135 (6 : Int32) (5 : Int32) (15 : Int32) b3.1 b3.2) (im_runS (as := [.inr (some 7), .inl (6 : Int32), .inl (5 : Int32), .inl (15 : Int32), .inl b3.1]) (rest := []) dm_134_100 mf_135 (Nat.le_of_ble_eq_true rfl) ml_9_52 mi_135 mp_135 (Nat.le_of_ble_eq_true rfl)) rfl (fun b4 hb4 => ?_)
  refine x_aload_n dm_134_103 rfl ?_
  refine x_iload dm_134_104 rfl ?_
  refine x_iload dm_134_106 rfl ?_
  refine x_bipush (6) dm_134_108 (by decide) ?_
  refine x_iconst (0) dm_134_110 (by decide) ?_
  refine im_callCI mf_147 rfl (tg_147 y4 y5 (6 : Int32) (0 : Int32) b4) (im_runS (as := [.inl y4, .inl y5, .inl (6 : Int32), .inl (0 : Int32)]) (rest := [.inr (some 7)]) dm_134_111 mf_147 (Nat.le_of_ble_eq_true rfl) ml_9_26 mi_147 mp_147 (Nat.le_of_ble_eq_true rfl)) rfl (fun b5 hb5 => ?_)
  refine im_callCI mf_6 rfl (tg_6 b5.1 b5.2) (im_runV (as := [.inl b5.1]) (rest := []) dm_134_114 mf_6 (Nat.le_of_ble_eq_true rfl) ml_9_30 mi_6 ms_6 mp_6 (Nat.le_of_ble_eq_true rfl) rfl rfl ⟨_, _, rfl⟩) rfl (fun b6 hb6 => ?_)
  refine x_pop dm_134_117 ?_
  refine x_goto 240 dm_134_118 rfl ?_
  exact x_vretC dm_134_240 rfl
def gn_134_178 (y4 : Int32) (y5 : Int32) (y6 : Int32) (y7 : Int32) (M : im_M) : Option (im_M) :=
  (gn_137 y7 M).bind fun b1 => (gn_147 y4 y5 y6 b1.1 b1.2).bind fun b2 => (gn_6 b2.1 b2.2).bind fun b3 => some b3.2
set_option maxRecDepth 100000 in
set_option maxHeartbeats 4000000 in
theorem tg_134_178 (y4 : Int32) (y5 : Int32) (y6 : Int32) (y7 : Int32) (M : im_M) : im_Go zC_V 4 fm_134 178 [(0, .inr (some 1)), (3, .inr (some 7)), (4, .inl y4), (5, .inl y5), (6, .inl y6), (7, .inl y7)] [] (st_hC M) (gn_134_178 y4 y5 y6 y7 M) := by
  unfold gn_134_178
  refine x_aload_n dm_134_178 rfl ?_
  refine x_iload dm_134_179 rfl ?_
  refine x_iload dm_134_181 rfl ?_
  refine x_iload dm_134_183 rfl ?_
  refine x_aload_n dm_134_185 rfl ?_
  refine x_iload dm_134_186 rfl ?_
  refine x_aload_n dm_134_188 rfl ?_
  refine im_callCI mf_137 rfl (tg_137 y7 M) (im_runS (as := [.inr (some 1), .inl y7, .inr (some 7)]) (rest := [.inl y6, .inl y5, .inl y4, .inr (some 7)]) dm_134_189 mf_137 (Nat.le_of_ble_eq_true rfl) ml_9_63 mi_137 mp_137 (Nat.le_of_ble_eq_true rfl)) rfl (fun b1 hb1 => ?_)
  refine im_callCI mf_147 rfl (tg_147 y4 y5 y6 b1.1 b1.2) (im_runS (as := [.inl y4, .inl y5, .inl y6, .inl b1.1]) (rest := [.inr (some 7)]) dm_134_192 mf_147 (Nat.le_of_ble_eq_true rfl) ml_9_26 mi_147 mp_147 (Nat.le_of_ble_eq_true rfl)) rfl (fun b2 hb2 => ?_)
  refine im_callCI mf_6 rfl (tg_6 b2.1 b2.2) (im_runV (as := [.inl b2.1]) (rest := []) dm_134_195 mf_6 (Nat.le_of_ble_eq_true rfl) ml_9_30 mi_6 ms_6 mp_6 (Nat.le_of_ble_eq_true rfl) rfl rfl ⟨_, _, rfl⟩) rfl (fun b3 hb3 => ?_)
  refine x_pop dm_134_198 ?_
  refine x_goto 240 dm_134_199 rfl ?_
  exact x_vretC dm_134_240 rfl
def gn_134_224 (y4 : Int32) (y5 : Int32) (y6 : Int32) (y7 : Int32) (M : im_M) : Option (im_M) :=
  (gn_138 y4 y5 y6 y7 M).bind fun b1 => (gn_6 b1.1 b1.2).bind fun b2 => some b2.2
set_option maxRecDepth 100000 in
set_option maxHeartbeats 4000000 in
theorem tg_134_224 (y4 : Int32) (y5 : Int32) (y6 : Int32) (y7 : Int32) (M : im_M) : im_Go zC_V 4 fm_134 224 [(3, .inr (some 7)), (4, .inl y4), (5, .inl y5), (6, .inl y6), (7, .inl y7)] [] (st_hC M) (gn_134_224 y4 y5 y6 y7 M) := by
  unfold gn_134_224
  refine x_aload_n dm_134_224 rfl ?_
  refine x_iload dm_134_225 rfl ?_
  refine x_iload dm_134_227 rfl ?_
  refine x_iload dm_134_229 rfl ?_
  refine x_iload dm_134_231 rfl ?_
  refine im_callCI mf_138 rfl (tg_138 y4 y5 y6 y7 M) (im_runS (as := [.inl y4, .inl y5, .inl y6, .inl y7]) (rest := [.inr (some 7)]) dm_134_233 mf_138 (Nat.le_of_ble_eq_true rfl) ml_9_67 mi_138 mp_138 (Nat.le_of_ble_eq_true rfl)) rfl (fun b1 hb1 => ?_)
  refine im_callCI mf_6 rfl (tg_6 b1.1 b1.2) (im_runV (as := [.inl b1.1]) (rest := []) dm_134_236 mf_6 (Nat.le_of_ble_eq_true rfl) ml_9_30 mi_6 ms_6 mp_6 (Nat.le_of_ble_eq_true rfl) rfl rfl ⟨_, _, rfl⟩) rfl (fun b2 hb2 => ?_)
  refine x_pop dm_134_239 ?_
  exact x_vretC dm_134_240 rfl
/-- FencedModules$Rewriter.translateLine(LFencedModules$Source;IILFencedModules$Code;)V -/
def gn_134 (x1 : Int32) (x2 : Int32) (M : im_M) : Option (im_M) :=
  (gn_61 x1 M).bind fun b1 => (gn_62 x1 b1.2).bind fun b2 => (gn_63 x1 b2.2).bind fun b3 => (gn_64 x1 b3.2).bind fun b4 => if b1.1 = 8 then (gn_134_76 x2 b1.1 b2.1 b3.1 b4.1 b4.2) else (if b1.1 = 9 then (gn_134_76 x2 b1.1 b2.1 b3.1 b4.1 b4.2) else (if b1.1 = 10 then (gn_134_178 b1.1 b2.1 b3.1 b4.1 b4.2) else (if b1.1 = 11 then (gn_134_178 b1.1 b2.1 b3.1 b4.1 b4.2) else (if b1.1 = 12 then ((gn_137 b4.1 b4.2).bind fun b10 => (gn_147 b1.1 (0 : Int32) (0 : Int32) b10.1 b10.2).bind fun b11 => (gn_6 b11.1 b11.2).bind fun b12 => some b12.2) else (if b1.1 = 13 then ((gn_47 x2 b4.2).bind fun b14 => (gn_135 (7 : Int32) b2.1 (31 : Int32) b14.1 b14.2).bind fun b15 => (gn_147 b1.1 (7 : Int32) (0 : Int32) (0 : Int32) b15).bind fun b16 => (gn_6 b16.1 b16.2).bind fun b17 => some b17.2) else (if b1.1 = 14 then (gn_134_224 b1.1 b2.1 b3.1 b4.1 b4.2) else (if b1.1 = 15 then ((gn_47 x2 b4.2).bind fun b20 => (gn_136 b4.1 b20.2).bind fun b21 => (gn_147 (1 : Int32) b2.1 (0 : Int32) (b20.1 + b21.1) b21.2).bind fun b22 => (gn_6 b22.1 b22.2).bind fun b23 => some b23.2) else (gn_134_224 b1.1 b2.1 b3.1 b4.1 b4.2))))))))
set_option maxRecDepth 100000 in
set_option maxHeartbeats 4000000 in
theorem tg_134 (x1 : Int32) (x2 : Int32) (M : im_M) : im_Go zC_V 4 fm_134 0 (im_en 0 [.inr (some 1), .inl x1, .inl x2, .inr (some 7)]) [] (st_hC M) (gn_134 x1 x2 M) := by
  unfold gn_134
  refine x_aload_n dm_134_0 rfl ?_
  refine x_iload_n dm_134_1 rfl ?_
  refine im_callCI mf_61 rfl (tg_61 x1 M) (im_runV (as := [.inl x1]) (rest := []) dm_134_2 mf_61 (Nat.le_of_ble_eq_true rfl) ml_9_34 mi_61 ms_61 mp_61 (Nat.le_of_ble_eq_true rfl) rfl rfl ⟨_, _, rfl⟩) rfl (fun b1 hb1 => ?_)
  refine x_istore dm_134_5 (Nat.le_of_ble_eq_true rfl) ?_
  refine x_aload_n dm_134_7 rfl ?_
  refine x_iload_n dm_134_8 rfl ?_
  refine im_callCI mf_62 rfl (tg_62 x1 b1.2) (im_runV (as := [.inl x1]) (rest := []) dm_134_9 mf_62 (Nat.le_of_ble_eq_true rfl) ml_9_38 mi_62 ms_62 mp_62 (Nat.le_of_ble_eq_true rfl) rfl rfl ⟨_, _, rfl⟩) rfl (fun b2 hb2 => ?_)
  refine x_istore dm_134_12 (Nat.le_of_ble_eq_true rfl) ?_
  refine x_aload_n dm_134_14 rfl ?_
  refine x_iload_n dm_134_15 rfl ?_
  refine im_callCI mf_63 rfl (tg_63 x1 b2.2) (im_runV (as := [.inl x1]) (rest := []) dm_134_16 mf_63 (Nat.le_of_ble_eq_true rfl) ml_9_41 mi_63 ms_63 mp_63 (Nat.le_of_ble_eq_true rfl) rfl rfl ⟨_, _, rfl⟩) rfl (fun b3 hb3 => ?_)
  refine x_istore dm_134_19 (Nat.le_of_ble_eq_true rfl) ?_
  refine x_aload_n dm_134_21 rfl ?_
  refine x_iload_n dm_134_22 rfl ?_
  refine im_callCI mf_64 rfl (tg_64 x1 b3.2) (im_runV (as := [.inl x1]) (rest := []) dm_134_23 mf_64 (Nat.le_of_ble_eq_true rfl) ml_9_44 mi_64 ms_64 mp_64 (Nat.le_of_ble_eq_true rfl) rfl rfl ⟨_, _, rfl⟩) rfl (fun b4 hb4 => ?_)
  refine x_istore dm_134_26 (Nat.le_of_ble_eq_true rfl) ?_
  refine x_iload dm_134_28 rfl ?_
  refine im_test _ (fun c5 => ?_) (fun c5 => ?_)
  · refine x_tabIn 8 76 dm_134_30 c5 (by decide) (by decide) rfl rfl ?_
    exact im_lsub [(2, .inl x2), (3, .inr (some 7)), (4, .inl b1.1), (5, .inl b2.1), (6, .inl b3.1), (7, .inl b4.1)] (im_sb_c rfl (im_sb_c rfl (im_sb_c rfl (im_sb_c rfl (im_sb_c rfl (im_sb_c rfl im_sb_n)))))) (tg_134_76 x2 b1.1 b2.1 b3.1 b4.1 b4.2)
  refine im_test _ (fun c6 => ?_) (fun c6 => ?_)
  · refine x_tabIn 9 76 dm_134_30 c6 (by decide) (by decide) rfl rfl ?_
    exact im_lsub [(2, .inl x2), (3, .inr (some 7)), (4, .inl b1.1), (5, .inl b2.1), (6, .inl b3.1), (7, .inl b4.1)] (im_sb_c rfl (im_sb_c rfl (im_sb_c rfl (im_sb_c rfl (im_sb_c rfl (im_sb_c rfl im_sb_n)))))) (tg_134_76 x2 b1.1 b2.1 b3.1 b4.1 b4.2)
  refine im_test _ (fun c7 => ?_) (fun c7 => ?_)
  · refine x_tabIn 10 178 dm_134_30 c7 (by decide) (by decide) rfl rfl ?_
    exact im_lsub [(0, .inr (some 1)), (3, .inr (some 7)), (4, .inl b1.1), (5, .inl b2.1), (6, .inl b3.1), (7, .inl b4.1)] (im_sb_c rfl (im_sb_c rfl (im_sb_c rfl (im_sb_c rfl (im_sb_c rfl (im_sb_c rfl im_sb_n)))))) (tg_134_178 b1.1 b2.1 b3.1 b4.1 b4.2)
  refine im_test _ (fun c8 => ?_) (fun c8 => ?_)
  · refine x_tabIn 11 178 dm_134_30 c8 (by decide) (by decide) rfl rfl ?_
    exact im_lsub [(0, .inr (some 1)), (3, .inr (some 7)), (4, .inl b1.1), (5, .inl b2.1), (6, .inl b3.1), (7, .inl b4.1)] (im_sb_c rfl (im_sb_c rfl (im_sb_c rfl (im_sb_c rfl (im_sb_c rfl (im_sb_c rfl im_sb_n)))))) (tg_134_178 b1.1 b2.1 b3.1 b4.1 b4.2)
  refine im_test _ (fun c9 => ?_) (fun c9 => ?_)
  · refine x_tabIn 12 202 dm_134_30 c9 (by decide) (by decide) rfl rfl ?_
    refine x_aload_n dm_134_202 rfl ?_
    refine x_iload dm_134_203 rfl ?_
    refine x_iconst (0) dm_134_205 (by decide) ?_
    refine x_iconst (0) dm_134_206 (by decide) ?_
    refine x_aload_n dm_134_207 rfl ?_
    refine x_iload dm_134_208 rfl ?_
    refine x_aload_n dm_134_210 rfl ?_
    refine im_callCI mf_137 rfl (tg_137 b4.1 b4.2) (im_runS (as := [.inr (some 1), .inl b4.1, .inr (some 7)]) (rest := [.inl (0 : Int32), .inl (0 : Int32), .inl b1.1, .inr (some 7)]) dm_134_211 mf_137 (Nat.le_of_ble_eq_true rfl) ml_9_63 mi_137 mp_137 (Nat.le_of_ble_eq_true rfl)) rfl (fun b10 hb10 => ?_)
    refine im_callCI mf_147 rfl (tg_147 b1.1 (0 : Int32) (0 : Int32) b10.1 b10.2) (im_runS (as := [.inl b1.1, .inl (0 : Int32), .inl (0 : Int32), .inl b10.1]) (rest := [.inr (some 7)]) dm_134_214 mf_147 (Nat.le_of_ble_eq_true rfl) ml_9_26 mi_147 mp_147 (Nat.le_of_ble_eq_true rfl)) rfl (fun b11 hb11 => ?_)
    refine im_callCI mf_6 rfl (tg_6 b11.1 b11.2) (im_runV (as := [.inl b11.1]) (rest := []) dm_134_217 mf_6 (Nat.le_of_ble_eq_true rfl) ml_9_30 mi_6 ms_6 mp_6 (Nat.le_of_ble_eq_true rfl) rfl rfl ⟨_, _, rfl⟩) rfl (fun b12 hb12 => ?_)
    refine x_pop dm_134_220 ?_
    refine x_goto 240 dm_134_221 rfl ?_
    exact x_vretC dm_134_240 rfl
  refine im_test _ (fun c13 => ?_) (fun c13 => ?_)
  · refine x_tabIn 13 121 dm_134_30 c13 (by decide) (by decide) rfl rfl ?_
    refine x_aload_n dm_134_121 rfl ?_
    refine x_bipush (7) dm_134_122 (by decide) ?_
    refine x_iload dm_134_124 rfl ?_
    refine x_bipush (31) dm_134_126 (by decide) ?_
    refine x_iload_n dm_134_128 rfl ?_
    refine im_callCI mf_47 rfl (tg_47 x2 b4.2) (im_runS (as := [.inl x2]) (rest := [.inl (31 : Int32), .inl b2.1, .inl (7 : Int32), .inr (some 7)]) dm_134_129 mf_47 (Nat.le_of_ble_eq_true rfl) ml_9_56 mi_47 mp_47 (Nat.le_of_ble_eq_true rfl)) rfl (fun b14 hb14 => ?_)
    refine im_callCV mf_135 rfl (tg_135 (7 : Int32) b2.1 (31 : Int32) b14.1 b14.2) (im_runS (as := [.inr (some 7), .inl (7 : Int32), .inl b2.1, .inl (31 : Int32), .inl b14.1]) (rest := []) dm_134_132 mf_135 (Nat.le_of_ble_eq_true rfl) ml_9_52 mi_135 mp_135 (Nat.le_of_ble_eq_true rfl)) rfl (fun b15 hb15 => ?_)
    refine x_aload_n dm_134_135 rfl ?_
    refine x_iload dm_134_136 rfl ?_
    refine x_bipush (7) dm_134_138 (by decide) ?_
    refine x_iconst (0) dm_134_140 (by decide) ?_
    refine x_iconst (0) dm_134_141 (by decide) ?_
    refine im_callCI mf_147 rfl (tg_147 b1.1 (7 : Int32) (0 : Int32) (0 : Int32) b15) (im_runS (as := [.inl b1.1, .inl (7 : Int32), .inl (0 : Int32), .inl (0 : Int32)]) (rest := [.inr (some 7)]) dm_134_142 mf_147 (Nat.le_of_ble_eq_true rfl) ml_9_26 mi_147 mp_147 (Nat.le_of_ble_eq_true rfl)) rfl (fun b16 hb16 => ?_)
    refine im_callCI mf_6 rfl (tg_6 b16.1 b16.2) (im_runV (as := [.inl b16.1]) (rest := []) dm_134_145 mf_6 (Nat.le_of_ble_eq_true rfl) ml_9_30 mi_6 ms_6 mp_6 (Nat.le_of_ble_eq_true rfl) rfl rfl ⟨_, _, rfl⟩) rfl (fun b17 hb17 => ?_)
    refine x_pop dm_134_148 ?_
    refine x_goto 240 dm_134_149 rfl ?_
    exact x_vretC dm_134_240 rfl
  refine im_test _ (fun c18 => ?_) (fun c18 => ?_)
  · refine x_tabIn 14 224 dm_134_30 c18 (by decide) (by decide) rfl rfl ?_
    exact im_lsub [(3, .inr (some 7)), (4, .inl b1.1), (5, .inl b2.1), (6, .inl b3.1), (7, .inl b4.1)] (im_sb_c rfl (im_sb_c rfl (im_sb_c rfl (im_sb_c rfl (im_sb_c rfl im_sb_n))))) (tg_134_224 b1.1 b2.1 b3.1 b4.1 b4.2)
  refine im_test _ (fun c19 => ?_) (fun c19 => ?_)
  · refine x_tabIn 15 152 dm_134_30 c19 (by decide) (by decide) rfl rfl ?_
    refine x_aload_n dm_134_152 rfl ?_
    refine x_iconst (1) dm_134_153 (by decide) ?_
    refine x_iload dm_134_154 rfl ?_
    refine x_iconst (0) dm_134_156 (by decide) ?_
    refine x_iload_n dm_134_157 rfl ?_
    refine im_callCI mf_47 rfl (tg_47 x2 b4.2) (im_runS (as := [.inl x2]) (rest := [.inl (0 : Int32), .inl b2.1, .inl (1 : Int32), .inr (some 7)]) dm_134_158 mf_47 (Nat.le_of_ble_eq_true rfl) ml_9_56 mi_47 mp_47 (Nat.le_of_ble_eq_true rfl)) rfl (fun b20 hb20 => ?_)
    refine x_aload_n dm_134_161 rfl ?_
    refine x_iload dm_134_162 rfl ?_
    refine im_callCI mf_136 rfl (tg_136 b4.1 b20.2) (im_runS (as := [.inr (some 1), .inl b4.1]) (rest := [.inl b20.1, .inl (0 : Int32), .inl b2.1, .inl (1 : Int32), .inr (some 7)]) dm_134_164 mf_136 (Nat.le_of_ble_eq_true rfl) ml_9_59 mi_136 mp_136 (Nat.le_of_ble_eq_true rfl)) rfl (fun b21 hb21 => ?_)
    refine x_iadd dm_134_167 ?_
    refine im_callCI mf_147 rfl (tg_147 (1 : Int32) b2.1 (0 : Int32) _ b21.2) (im_runS (as := [.inl (1 : Int32), .inl b2.1, .inl (0 : Int32), .inl _]) (rest := [.inr (some 7)]) dm_134_168 mf_147 (Nat.le_of_ble_eq_true rfl) ml_9_26 mi_147 mp_147 (Nat.le_of_ble_eq_true rfl)) rfl (fun b22 hb22 => ?_)
    refine im_callCI mf_6 rfl (tg_6 b22.1 b22.2) (im_runV (as := [.inl b22.1]) (rest := []) dm_134_171 mf_6 (Nat.le_of_ble_eq_true rfl) ml_9_30 mi_6 ms_6 mp_6 (Nat.le_of_ble_eq_true rfl) rfl rfl ⟨_, _, rfl⟩) rfl (fun b23 hb23 => ?_)
    refine x_pop dm_134_174 ?_
    refine x_goto 240 dm_134_175 rfl ?_
    exact x_vretC dm_134_240 rfl
  refine x_tabOut 224 dm_134_30 (im_swout (8) 8 (by decide) (by decide) (fun i hi => match i, hi with | 0, _ => c5 | 1, _ => c6 | 2, _ => c7 | 3, _ => c8 | 4, _ => c9 | 5, _ => c13 | 6, _ => c18 | 7, _ => c19 | i + 8, hi => absurd hi (by omega))) rfl ?_
  exact im_lsub [(3, .inr (some 7)), (4, .inl b1.1), (5, .inl b2.1), (6, .inl b3.1), (7, .inl b4.1)] (im_sb_c rfl (im_sb_c rfl (im_sb_c rfl (im_sb_c rfl (im_sb_c rfl im_sb_n))))) (tg_134_224 b1.1 b2.1 b3.1 b4.1 b4.2)
def gn_18_65 (r34 : Int32 → Int32 → Int32 → im_M → Option (Int32 × im_M)) (k : Nat) (y3 : Int32) (y4 : Int32) (y5 : Int32) (M : im_M) : Option (Int32 × im_M) :=
  let v1 : Int32 := (y5 + (1 : Int32)); r34 y3 y4 v1 M
set_option maxRecDepth 100000 in
set_option maxHeartbeats 4000000 in
theorem tg_18_65 (k : Nat) (hk : k < 3) (r34 : Int32 → Int32 → Int32 → im_M → Option (Int32 × im_M)) (hr34 : ∀ (y3 : Int32) (y4 : Int32) (y5 : Int32) (M : im_M), im_Go zC_I 5 fm_18 34 [(0, .inr (some 42)), (1, .inr (some 1)), (2, .inr (some (12 + 10 * k))), (3, .inl y3), (4, .inl y4), (5, .inl y5)] [] (st_hC M) (r34 y3 y4 y5 M)) (y3 : Int32) (y4 : Int32) (y5 : Int32) (M : im_M) : im_Go zC_I 5 fm_18 65 [(0, .inr (some 42)), (1, .inr (some 1)), (2, .inr (some (12 + 10 * k))), (3, .inl y3), (4, .inl y4), (5, .inl y5)] [] (st_hC M) (gn_18_65 r34 k y3 y4 y5 M) := by
  unfold gn_18_65
  refine x_iinc (1) dm_18_65 rfl (by decide) (Nat.le_of_ble_eq_true rfl) ?_
  refine x_goto 34 dm_18_68 rfl ?_
  exact im_lsub [(0, .inr (some 42)), (1, .inr (some 1)), (2, .inr (some (12 + 10 * k))), (3, .inl y3), (4, .inl y4), (5, .inl _)] (im_sb_c rfl (im_sb_c rfl (im_sb_c rfl (im_sb_c rfl (im_sb_c rfl (im_sb_c rfl im_sb_n)))))) (hr34 y3 y4 _ M)
def gn_18_34 (k : Nat) : Nat → Int32 → Int32 → Int32 → im_M → Option (Int32 × im_M)
  | 0, _, _, _, _ => none
  | n + 1, y3, y4, y5, M =>
    if y3 ≤ y5 then (some (y4, M)) else (if y4 = 0 then ((gn_19 M).bind fun b3 => if b3.1 = 0 then ((gn_25 k b3.2).bind fun b5 => gn_18_65 (gn_18_34 k n) k y3 b5.1 y5 b5.2) else (gn_18_65 (gn_18_34 k n) k y3 b3.1 y5 b3.2)) else (some (y4, M)))
set_option maxRecDepth 100000 in
set_option maxHeartbeats 4000000 in
theorem tg_18_34 (k : Nat) (hk : k < 3) : ∀ (n : Nat) (y3 : Int32) (y4 : Int32) (y5 : Int32) (M : im_M), im_Go zC_I 5 fm_18 34 [(0, .inr (some 42)), (1, .inr (some 1)), (2, .inr (some (12 + 10 * k))), (3, .inl y3), (4, .inl y4), (5, .inl y5)] [] (st_hC M) (gn_18_34 k n y3 y4 y5 M)
  | 0, y3, y4, y5, M => im_none
  | n + 1, y3, y4, y5, M => by
    have ih := tg_18_34 k hk n
    unfold gn_18_34
    refine x_iload dm_18_34 rfl ?_
    refine x_iload_n dm_18_36 rfl ?_
    refine x_icmp_ge 71 dm_18_37 rfl (fun c1 => ?_) (fun c1 => ?_)
    · refine x_iload dm_18_71 rfl ?_
      exact x_iretC dm_18_73 rfl
    · refine x_iload dm_18_40 rfl ?_
      refine x_if_ne 71 dm_18_42 rfl (fun c2 => ?_) (fun c2 => ?_)
      · refine x_aload_n dm_18_45 rfl ?_
        refine x_aload_n dm_18_46 rfl ?_
        refine im_callCI mf_19 rfl (tg_19 M) (im_runV (as := [.inr (some 1)]) (rest := []) dm_18_47 mf_19 (Nat.le_of_ble_eq_true rfl) ml_3_40 mi_19 ms_19 mp_19 (Nat.le_of_ble_eq_true rfl) rfl rfl ⟨_, _, rfl⟩) rfl (fun b3 hb3 => ?_)
        refine x_istore dm_18_50 (Nat.le_of_ble_eq_true rfl) ?_
        refine x_iload dm_18_52 rfl ?_
        refine x_if_ne 65 dm_18_54 rfl (fun c4 => ?_) (fun c4 => ?_)
        · refine x_aload_n dm_18_57 rfl ?_
          refine x_aload_n dm_18_58 rfl ?_
          refine x_aload_n dm_18_59 rfl ?_
          refine im_callCI mf_25 rfl (tg_25 k hk b3.2) (im_runV (as := [.inr (some 1), .inr (some (12 + 10 * k))]) (rest := []) dm_18_60 mf_25 (Nat.le_of_ble_eq_true rfl) ml_3_44 mi_25 ms_25 mp_25 (Nat.le_of_ble_eq_true rfl) rfl rfl ⟨_, _, rfl⟩) rfl (fun b5 hb5 => ?_)
          refine x_istore dm_18_63 (Nat.le_of_ble_eq_true rfl) ?_
          exact im_lsub [(0, .inr (some 42)), (1, .inr (some 1)), (2, .inr (some (12 + 10 * k))), (3, .inl y3), (4, .inl b5.1), (5, .inl y5)] (im_sb_c rfl (im_sb_c rfl (im_sb_c rfl (im_sb_c rfl (im_sb_c rfl (im_sb_c rfl im_sb_n)))))) (tg_18_65 k hk (gn_18_34 k n) ih y3 b5.1 y5 b5.2)
        · exact im_lsub [(0, .inr (some 42)), (1, .inr (some 1)), (2, .inr (some (12 + 10 * k))), (3, .inl y3), (4, .inl b3.1), (5, .inl y5)] (im_sb_c rfl (im_sb_c rfl (im_sb_c rfl (im_sb_c rfl (im_sb_c rfl (im_sb_c rfl im_sb_n)))))) (tg_18_65 k hk (gn_18_34 k n) ih y3 b3.1 y5 b3.2)
      · refine x_iload dm_18_71 rfl ?_
        exact x_iretC dm_18_73 rfl
/-- FencedModules$Follower.goThrough(LFencedModules$Source;LFencedModules$Sandbox;I)I -/
def gn_18 (k : Nat) (x3 : Int32) (M : im_M) : Option (Int32 × im_M) :=
  (gn_13 43 M).bind fun b1 => (gn_150 48 21 (0 : Int32) b1).bind fun b2 => (gn_150 49 21 (-1 : Int32) b2).bind fun b3 => let M4 : im_M := im_u b3 42 3 (0 : Int32); gn_18_34 k 1000 x3 (0 : Int32) (0 : Int32) M4
set_option maxRecDepth 100000 in
set_option maxHeartbeats 4000000 in
theorem tg_18 (k : Nat) (hk : k < 3) (x3 : Int32) (M : im_M) : im_Go zC_I 5 fm_18 0 (im_en 0 [.inr (some 42), .inr (some 1), .inr (some (12 + 10 * k)), .inl x3]) [] (st_hC M) (gn_18 k x3 M) := by
  unfold gn_18
  refine x_aload_n dm_18_0 rfl ?_
  refine x_getRC dm_18_1 fl_3_16 rfl rfl rfl rfl ?_
  refine im_callCV mf_13 rfl (tg_13 43 dk_F M) (im_runV (as := []) (rest := []) dm_18_4 mf_13 (Nat.le_of_ble_eq_true rfl) ml_3_27 mi_13 ms_13 mp_13 (Nat.le_of_ble_eq_true rfl) rfl (kc_D dk_F) ⟨_, _, rfl⟩) rfl (fun b1 hb1 => ?_)
  refine x_aload_n dm_18_7 rfl ?_
  refine x_getRC dm_18_8 fl_3_20 rfl rfl rfl rfl ?_
  refine x_iconst (0) dm_18_11 (by decide) ?_
  refine im_callCV mf_150 rfl (tg_150 48 21 rfl (0 : Int32) b1) (im_runS (as := [.inr (some 48), .inl (0 : Int32)]) (rest := []) dm_18_12 mf_150 (Nat.le_of_ble_eq_true rfl) ml_3_30 mi_150 mp_150 (Nat.le_of_ble_eq_true rfl)) rfl (fun b2 hb2 => ?_)
  refine x_aload_n dm_18_15 rfl ?_
  refine x_getRC dm_18_16 fl_3_24 rfl rfl rfl rfl ?_
  refine x_iconst (-1) dm_18_19 (by decide) ?_
  refine im_callCV mf_150 rfl (tg_150 49 21 rfl (-1 : Int32) b2) (im_runS (as := [.inr (some 49), .inl (-1 : Int32)]) (rest := []) dm_18_20 mf_150 (Nat.le_of_ble_eq_true rfl) ml_3_30 mi_150 mp_150 (Nat.le_of_ble_eq_true rfl)) rfl (fun b3 hb3 => ?_)
  refine x_aload_n dm_18_23 rfl ?_
  refine x_iconst (0) dm_18_24 (by decide) ?_
  refine x_putIC dm_18_25 fl_3_36 rfl rfl rfl ?_
  refine x_iconst (0) dm_18_28 (by decide) ?_
  refine x_istore dm_18_29 (Nat.le_of_ble_eq_true rfl) ?_
  refine x_iconst (0) dm_18_31 (by decide) ?_
  refine x_istore dm_18_32 (Nat.le_of_ble_eq_true rfl) ?_
  exact im_lsub [(0, .inr (some 42)), (1, .inr (some 1)), (2, .inr (some (12 + 10 * k))), (3, .inl x3), (4, .inl (0 : Int32)), (5, .inl (0 : Int32))] (im_sb_c rfl (im_sb_c rfl (im_sb_c rfl (im_sb_c rfl (im_sb_c rfl (im_sb_c rfl im_sb_n)))))) (tg_18_34 k hk 1000 x3 (0 : Int32) (0 : Int32) _)
def gn_35_2  : Nat → Int32 → Int32 → im_M → Option (Int32 × im_M)
  | 0, _, _, _ => none
  | n + 1, y1, y2, M =>
    if y1 ≤ y2 then (some (y1, M)) else ((gn_36 M).bind fun b2 => if b2.1 = none then (some (y2, b2.2)) else ((st_sb b2.1).bind fun k4 => (gn_40 k4 b2.2).bind fun b5 => (gn_37 k4 b5).bind fun b6 => let v7 : Int32 := (y2 + (1 : Int32)); gn_35_2 n y1 v7 b6))
set_option maxRecDepth 100000 in
set_option maxHeartbeats 4000000 in
theorem tg_35_2  : ∀ (n : Nat) (y1 : Int32) (y2 : Int32) (M : im_M), im_Go zC_I 5 fm_35 2 [(0, .inr (some 9)), (1, .inl y1), (2, .inl y2)] [] (st_hC M) (gn_35_2  n y1 y2 M)
  | 0, y1, y2, M => im_none
  | n + 1, y1, y2, M => by
    have ih := tg_35_2  n
    unfold gn_35_2
    refine x_iload_n dm_35_2 rfl ?_
    refine x_iload_n dm_35_3 rfl ?_
    refine x_icmp_ge 34 dm_35_4 rfl (fun c1 => ?_) (fun c1 => ?_)
    · refine x_iload_n dm_35_34 rfl ?_
      exact x_iretC dm_35_35 rfl
    · refine x_aload_n dm_35_7 rfl ?_
      refine im_callCR mf_36 rfl (tg_36 M) (im_runV (as := []) (rest := []) dm_35_8 mf_36 (Nat.le_of_ble_eq_true rfl) ml_4_56 mi_36 ms_36 mp_36 (Nat.le_of_ble_eq_true rfl) rfl rfl ⟨_, _, rfl⟩) rfl (fun b2 hb2 => ?_)
      refine x_astore_n dm_35_11 (Nat.le_of_ble_eq_true rfl) ?_
      refine x_aload_n dm_35_12 rfl ?_
      refine x_ifnonnull 18 dm_35_13 rfl (fun c3 => ?_) (fun c3 => ?_)
      · refine x_iload_n dm_35_16 rfl ?_
        exact x_iretC dm_35_17 rfl
      · refine x_aload_n dm_35_18 rfl ?_
        refine x_aload_n dm_35_19 rfl ?_
        refine im_bind (fun k4 hk4 => ?_)
        rw [st_sb_eq hk4]
        refine im_callCV mf_40 rfl (tg_40 k4 (st_sb_lt hk4) b2.2) (im_runV (as := [.inr (some (12 + 10 * k4))]) (rest := []) dm_35_20 mf_40 (Nat.le_of_ble_eq_true rfl) ml_4_60 mi_40 ms_40 mp_40 (Nat.le_of_ble_eq_true rfl) rfl rfl ⟨_, _, rfl⟩) rfl (fun b5 hb5 => ?_)
        refine x_aload_n dm_35_23 rfl ?_
        refine x_aload_n dm_35_24 rfl ?_
        refine im_callCV mf_37 rfl (tg_37 k4 (st_sb_lt hk4) b5) (im_runV (as := [.inr (some (12 + 10 * k4))]) (rest := []) dm_35_25 mf_37 (Nat.le_of_ble_eq_true rfl) ml_4_64 mi_37 ms_37 mp_37 (Nat.le_of_ble_eq_true rfl) rfl rfl ⟨_, _, rfl⟩) rfl (fun b6 hb6 => ?_)
        refine x_iinc (1) dm_35_28 rfl (by decide) (Nat.le_of_ble_eq_true rfl) ?_
        refine x_goto 2 dm_35_31 rfl ?_
        exact im_lsub [(0, .inr (some 9)), (1, .inl y1), (2, .inl _)] (im_sb_c rfl (im_sb_c rfl (im_sb_c rfl im_sb_n))) (ih y1 _ b6)
/-- FencedModules$Machine.advance(I)I -/
def gn_35 (x1 : Int32) (M : im_M) : Option (Int32 × im_M) :=
  gn_35_2 1000 x1 (0 : Int32) M
set_option maxRecDepth 100000 in
set_option maxHeartbeats 4000000 in
theorem tg_35 (x1 : Int32) (M : im_M) : im_Go zC_I 5 fm_35 0 (im_en 0 [.inr (some 9), .inl x1]) [] (st_hC M) (gn_35 x1 M) := by
  unfold gn_35
  refine x_iconst (0) dm_35_0 (by decide) ?_
  refine x_istore_n dm_35_1 (Nat.le_of_ble_eq_true rfl) ?_
  exact im_lsub [(0, .inr (some 9)), (1, .inl x1), (2, .inl (0 : Int32))] (im_sb_c rfl (im_sb_c rfl (im_sb_c rfl im_sb_n))) (tg_35_2 1000 x1 (0 : Int32) M)
def gn_133_6  : Nat → Int32 → Int32 → im_M → Option (im_M)
  | 0, _, _, _ => none
  | n + 1, y1, y3, M =>
    (gn_59 M).bind fun b1 => if b1.1 ≤ y3 then ((gn_147 (0 : Int32) (0 : Int32) (0 : Int32) (0 : Int32) b1.2).bind fun b3 => (gn_6 b3.1 b3.2).bind fun b4 => some b4.2) else ((gn_134 y3 y1 b1.2).bind fun b5 => let v6 : Int32 := (y3 + (1 : Int32)); gn_133_6 n y1 v6 b5)
set_option maxRecDepth 100000 in
set_option maxHeartbeats 4000000 in
theorem tg_133_6  : ∀ (n : Nat) (y1 : Int32) (y3 : Int32) (M : im_M), im_Go zC_V 5 fm_133 6 [(0, .inr (some 1)), (1, .inl y1), (2, .inr (some 7)), (3, .inl y3)] [] (st_hC M) (gn_133_6  n y1 y3 M)
  | 0, y1, y3, M => im_none
  | n + 1, y1, y3, M => by
    have ih := tg_133_6  n
    unfold gn_133_6
    refine x_iload_n dm_133_6 rfl ?_
    refine x_aload_n dm_133_7 rfl ?_
    refine im_callCI mf_59 rfl (tg_59 M) (im_runV (as := []) (rest := [.inl y3]) dm_133_8 mf_59 (Nat.le_of_ble_eq_true rfl) ml_9_12 mi_59 ms_59 mp_59 (Nat.le_of_ble_eq_true rfl) rfl rfl ⟨_, _, rfl⟩) rfl (fun b1 hb1 => ?_)
    refine x_icmp_ge 27 dm_133_11 rfl (fun c2 => ?_) (fun c2 => ?_)
    · refine x_aload_n dm_133_27 rfl ?_
      refine x_iconst (0) dm_133_28 (by decide) ?_
      refine x_iconst (0) dm_133_29 (by decide) ?_
      refine x_iconst (0) dm_133_30 (by decide) ?_
      refine x_iconst (0) dm_133_31 (by decide) ?_
      refine im_callCI mf_147 rfl (tg_147 (0 : Int32) (0 : Int32) (0 : Int32) (0 : Int32) b1.2) (im_runS (as := [.inl (0 : Int32), .inl (0 : Int32), .inl (0 : Int32), .inl (0 : Int32)]) (rest := [.inr (some 7)]) dm_133_32 mf_147 (Nat.le_of_ble_eq_true rfl) ml_9_26 mi_147 mp_147 (Nat.le_of_ble_eq_true rfl)) rfl (fun b3 hb3 => ?_)
      refine im_callCI mf_6 rfl (tg_6 b3.1 b3.2) (im_runV (as := [.inl b3.1]) (rest := []) dm_133_35 mf_6 (Nat.le_of_ble_eq_true rfl) ml_9_30 mi_6 ms_6 mp_6 (Nat.le_of_ble_eq_true rfl) rfl rfl ⟨_, _, rfl⟩) rfl (fun b4 hb4 => ?_)
      refine x_pop dm_133_38 ?_
      exact x_vretC dm_133_39 rfl
    · refine x_aload_n dm_133_14 rfl ?_
      refine x_iload_n dm_133_15 rfl ?_
      refine x_iload_n dm_133_16 rfl ?_
      refine x_aload_n dm_133_17 rfl ?_
      refine im_callCV mf_134 rfl (tg_134 y3 y1 b1.2) (im_runS (as := [.inr (some 1), .inl y3, .inl y1, .inr (some 7)]) (rest := []) dm_133_18 mf_134 (Nat.le_of_ble_eq_true rfl) ml_9_18 mi_134 mp_134 (Nat.le_of_ble_eq_true rfl)) rfl (fun b5 hb5 => ?_)
      refine x_iinc (1) dm_133_21 rfl (by decide) (Nat.le_of_ble_eq_true rfl) ?_
      refine x_goto 6 dm_133_24 rfl ?_
      exact im_lsub [(0, .inr (some 1)), (1, .inl y1), (2, .inr (some 7)), (3, .inl _)] (im_sb_c rfl (im_sb_c rfl (im_sb_c rfl (im_sb_c rfl im_sb_n)))) (ih y1 _ b5)
/-- FencedModules$Rewriter.translate(LFencedModules$Source;ILFencedModules$Code;)V -/
def gn_133 (x1 : Int32) (M : im_M) : Option (im_M) :=
  (gn_5 M).bind fun b1 => gn_133_6 1000 x1 (0 : Int32) b1
set_option maxRecDepth 100000 in
set_option maxHeartbeats 4000000 in
theorem tg_133 (x1 : Int32) (M : im_M) : im_Go zC_V 5 fm_133 0 (im_en 0 [.inr (some 1), .inl x1, .inr (some 7)]) [] (st_hC M) (gn_133 x1 M) := by
  unfold gn_133
  refine x_aload_n dm_133_0 rfl ?_
  refine im_callCV mf_5 rfl (tg_5 M) (im_runV (as := []) (rest := []) dm_133_1 mf_5 (Nat.le_of_ble_eq_true rfl) ml_9_7 mi_5 ms_5 mp_5 (Nat.le_of_ble_eq_true rfl) rfl rfl ⟨_, _, rfl⟩) rfl (fun b1 hb1 => ?_)
  refine x_iconst (0) dm_133_4 (by decide) ?_
  refine x_istore_n dm_133_5 (Nat.le_of_ble_eq_true rfl) ?_
  exact im_lsub [(0, .inr (some 1)), (1, .inl x1), (2, .inr (some 7)), (3, .inl (0 : Int32))] (im_sb_c rfl (im_sb_c rfl (im_sb_c rfl (im_sb_c rfl im_sb_n)))) (tg_133_6 1000 x1 (0 : Int32) b1)
/-- FencedModules.rewrite(I)I -/
def gn_76 (x1 : Int32) (M : im_M) : Option (Int32 × im_M) :=
  (gn_45 x1 M).bind fun b1 => if b1.1 = 0 then (some ((-1 : Int32), b1.2)) else ((gn_67 b1.2).bind fun b3 => if b3.1 = 0 then (some ((-1 : Int32), b3.2)) else ((gn_133 x1 b3.2).bind fun b5 => (gn_7 b5).bind fun b6 => some (b6.1, b6.2)))
set_option maxRecDepth 100000 in
set_option maxHeartbeats 4000000 in
theorem tg_76 (x1 : Int32) (M : im_M) : im_Go zC_I 6 fm_76 0 (im_en 0 [.inr (some 0), .inl x1]) [] (st_hC M) (gn_76 x1 M) := by
  unfold gn_76
  refine x_iload_n dm_76_0 rfl ?_
  refine im_callCI mf_45 rfl (tg_45 x1 M) (im_runS (as := [.inl x1]) (rest := []) dm_76_1 mf_45 (Nat.le_of_ble_eq_true rfl) ml_7_49 mi_45 mp_45 (Nat.le_of_ble_eq_true rfl)) rfl (fun b1 hb1 => ?_)
  refine x_if_eq 17 dm_76_4 rfl (fun c2 => ?_) (fun c2 => ?_)
  · refine x_iconst (-1) dm_76_17 (by decide) ?_
    exact x_iretC dm_76_18 rfl
  · refine x_aload_n dm_76_7 rfl ?_
    refine x_getRC dm_76_8 fl_7_10 rfl rfl rfl rfl ?_
    refine im_callCI mf_67 rfl (tg_67 b1.2) (im_runV (as := []) (rest := []) dm_76_11 mf_67 (Nat.le_of_ble_eq_true rfl) ml_7_54 mi_67 ms_67 mp_67 (Nat.le_of_ble_eq_true rfl) rfl rfl ⟨_, _, rfl⟩) rfl (fun b3 hb3 => ?_)
    refine x_if_ne 19 dm_76_14 rfl (fun c4 => ?_) (fun c4 => ?_)
    · refine x_iconst (-1) dm_76_17 (by decide) ?_
      exact x_iretC dm_76_18 rfl
    · refine x_aload_n dm_76_19 rfl ?_
      refine x_getRC dm_76_20 fl_7_10 rfl rfl rfl rfl ?_
      refine x_iload_n dm_76_23 rfl ?_
      refine x_aload_n dm_76_24 rfl ?_
      refine x_getRC dm_76_25 fl_7_19 rfl rfl rfl rfl ?_
      refine im_callCV mf_133 rfl (tg_133 x1 b3.2) (im_runS (as := [.inr (some 1), .inl x1, .inr (some 7)]) (rest := []) dm_76_28 mf_133 (Nat.le_of_ble_eq_true rfl) ml_7_58 mi_133 mp_133 (Nat.le_of_ble_eq_true rfl)) rfl (fun b5 hb5 => ?_)
      refine x_aload_n dm_76_31 rfl ?_
      refine x_getRC dm_76_32 fl_7_19 rfl rfl rfl rfl ?_
      refine im_callCI mf_7 rfl (tg_7 b5) (im_runV (as := []) (rest := []) dm_76_35 mf_7 (Nat.le_of_ble_eq_true rfl) ml_7_64 mi_7 ms_7 mp_7 (Nat.le_of_ble_eq_true rfl) rfl rfl ⟨_, _, rfl⟩) rfl (fun b6 hb6 => ?_)
      exact x_iretC dm_76_38 rfl
def gn_82_11 (M : im_M) : Option (Int32 × im_M) :=
  some ((-1 : Int32), M)
set_option maxRecDepth 100000 in
set_option maxHeartbeats 4000000 in
theorem tg_82_11 (M : im_M) : im_Go zC_I 6 fm_82 11 [] [] (st_hC M) (gn_82_11 M) := by
  unfold gn_82_11
  refine x_iconst (-1) dm_82_11 (by decide) ?_
  refine x_goto 23 dm_82_12 rfl ?_
  exact x_iretC dm_82_23 rfl
/-- FencedModules.run(I)I -/
def gn_82 (x1 : Int32) (M : im_M) : Option (Int32 × im_M) :=
  if x1 < 0 then (gn_82_11 M) else (if x1 ≤ (500 : Int32) then ((gn_35 x1 M).bind fun b3 => some (b3.1, b3.2)) else (gn_82_11 M))
set_option maxRecDepth 100000 in
set_option maxHeartbeats 4000000 in
theorem tg_82 (x1 : Int32) (M : im_M) : im_Go zC_I 6 fm_82 0 (im_en 0 [.inr (some 0), .inl x1]) [] (st_hC M) (gn_82 x1 M) := by
  unfold gn_82
  refine x_iload_n dm_82_0 rfl ?_
  refine x_if_lt 11 dm_82_1 rfl (fun c1 => ?_) (fun c1 => ?_)
  · exact im_lsub [] im_sb_n (tg_82_11 M)
  · refine x_iload_n dm_82_4 rfl ?_
    refine x_sipush (500) dm_82_5 (by decide) ?_
    refine x_icmp_le 15 dm_82_8 rfl (fun c2 => ?_) (fun c2 => ?_)
    · refine x_aload_n dm_82_15 rfl ?_
      refine x_getRC dm_82_16 fl_7_26 rfl rfl rfl rfl ?_
      refine x_iload_n dm_82_19 rfl ?_
      refine im_callCI mf_35 rfl (tg_35 x1 M) (im_runV (as := [.inl x1]) (rest := []) dm_82_20 mf_35 (Nat.le_of_ble_eq_true rfl) ml_7_96 mi_35 ms_35 mp_35 (Nat.le_of_ble_eq_true rfl) rfl rfl ⟨_, _, rfl⟩) rfl (fun b3 hb3 => ?_)
      exact x_iretC dm_82_23 rfl
    · exact im_lsub [] im_sb_n (tg_82_11 M)
/-- FencedModules.follow(II)I -/
def gn_89 (x1 : Int32) (x2 : Int32) (M : im_M) : Option (Int32 × im_M) :=
  if x1 < 0 then (some ((-1 : Int32), M)) else (if 3 ≤ x1 then (some ((-1 : Int32), M)) else (if x2 < 0 then (some ((-1 : Int32), M)) else (if (300 : Int32) < x2 then (some ((-1 : Int32), M)) else ((gn_67 M).bind fun b5 => if b5.1 = 0 then (some ((-1 : Int32), b5.2)) else ((gn_18 (x1).toNatClampNeg x2 b5.2).bind fun b7 => some (b7.1, b7.2))))))
set_option maxRecDepth 100000 in
set_option maxHeartbeats 4000000 in
theorem tg_89 (x1 : Int32) (x2 : Int32) (M : im_M) : im_Go zC_I 6 fm_89 0 (im_en 0 [.inr (some 0), .inl x1, .inl x2]) [] (st_hC M) (gn_89 x1 x2 M) := by
  unfold gn_89
  refine x_aload_n dm_89_0 rfl ?_
  refine x_getRC dm_89_1 fl_7_26 rfl rfl rfl rfl ?_
  refine x_iload_n dm_89_4 rfl ?_
  refine im_test _ (fun c1 => ?_) (fun c1 => ?_)
  · refine im_callK mf_31 rfl (tg_31_n _ (Or.inl c1) _) (im_runV (as := [.inl x1]) (rest := []) dm_89_5 mf_31 (Nat.le_of_ble_eq_true rfl) ml_7_85 mi_31 ms_31 mp_31 (Nat.le_of_ble_eq_true rfl) rfl rfl ⟨_, _, rfl⟩) rfl ?_
    refine x_astore_n dm_89_8 (Nat.le_of_ble_eq_true rfl) ?_
    refine x_aload_n dm_89_9 rfl ?_
    refine x_ifnull_n 34 dm_89_10 rfl ?_
    refine x_iconst (-1) dm_89_34 (by decide) ?_
    exact x_iretC dm_89_35 rfl
  refine im_test _ (fun c2 => ?_) (fun c2 => ?_)
  · refine im_callK mf_31 rfl (tg_31_n _ (Or.inr c2) _) (im_runV (as := [.inl x1]) (rest := []) dm_89_5 mf_31 (Nat.le_of_ble_eq_true rfl) ml_7_85 mi_31 ms_31 mp_31 (Nat.le_of_ble_eq_true rfl) rfl rfl ⟨_, _, rfl⟩) rfl ?_
    refine x_astore_n dm_89_8 (Nat.le_of_ble_eq_true rfl) ?_
    refine x_aload_n dm_89_9 rfl ?_
    refine x_ifnull_n 34 dm_89_10 rfl ?_
    refine x_iconst (-1) dm_89_34 (by decide) ?_
    exact x_iretC dm_89_35 rfl
  refine im_callK mf_31 rfl (tg_31_s _ c1 c2 _) (im_runV (as := [.inl x1]) (rest := []) dm_89_5 mf_31 (Nat.le_of_ble_eq_true rfl) ml_7_85 mi_31 ms_31 mp_31 (Nat.le_of_ble_eq_true rfl) rfl rfl ⟨_, _, rfl⟩) rfl ?_
  refine x_astore_n dm_89_8 (Nat.le_of_ble_eq_true rfl) ?_
  refine x_aload_n dm_89_9 rfl ?_
  refine x_ifnull_s 34 dm_89_10 rfl ?_
  refine x_iload_n dm_89_13 rfl ?_
  refine x_if_lt 34 dm_89_14 rfl (fun c3 => ?_) (fun c3 => ?_)
  · refine x_iconst (-1) dm_89_34 (by decide) ?_
    exact x_iretC dm_89_35 rfl
  · refine x_iload_n dm_89_17 rfl ?_
    refine x_sipush (300) dm_89_18 (by decide) ?_
    refine x_icmp_gt 34 dm_89_21 rfl (fun c4 => ?_) (fun c4 => ?_)
    · refine x_iconst (-1) dm_89_34 (by decide) ?_
      exact x_iretC dm_89_35 rfl
    · refine x_aload_n dm_89_24 rfl ?_
      refine x_getRC dm_89_25 fl_7_10 rfl rfl rfl rfl ?_
      refine im_callCI mf_67 rfl (tg_67 M) (im_runV (as := []) (rest := []) dm_89_28 mf_67 (Nat.le_of_ble_eq_true rfl) ml_7_54 mi_67 ms_67 mp_67 (Nat.le_of_ble_eq_true rfl) rfl rfl ⟨_, _, rfl⟩) rfl (fun b5 hb5 => ?_)
      refine x_if_ne 36 dm_89_31 rfl (fun c6 => ?_) (fun c6 => ?_)
      · refine x_iconst (-1) dm_89_34 (by decide) ?_
        exact x_iretC dm_89_35 rfl
      · refine x_aload_n dm_89_36 rfl ?_
        refine x_getRC dm_89_37 fl_7_33 rfl rfl rfl rfl ?_
        refine x_aload_n dm_89_40 rfl ?_
        refine x_getRC dm_89_41 fl_7_10 rfl rfl rfl rfl ?_
        refine x_aload_n dm_89_44 rfl ?_
        refine x_iload_n dm_89_45 rfl ?_
        refine im_callCI mf_18 rfl (tg_18 _ (st_ix3 c1 c2) x2 b5.2) (im_runV (as := [.inr (some 1), .inr (some _), .inl x2]) (rest := []) dm_89_46 mf_18 (Nat.le_of_ble_eq_true rfl) ml_7_128 mi_18 ms_18 mp_18 (Nat.le_of_ble_eq_true rfl) rfl rfl ⟨_, _, rfl⟩) rfl (fun b7 hb7 => ?_)
        exact x_iretC dm_89_49 rfl
