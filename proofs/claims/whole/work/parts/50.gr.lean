def gn_108_143 (y1 : Int32) (y2 : Int32) (y6 : Int32) (M : im_M) : Option (Int32 × im_M) :=
  if y6 = 0 then (some ((0 : Int32), M)) else ((gn_107 y1 (6 : Int32) ((16 : Int32) * y2) (15 : Int32) M).bind fun b2 => if b2.1 = 0 then (some ((0 : Int32), b2.2)) else ((gn_107 y1 (7 : Int32) ((64 : Int32) + ((32 : Int32) * y2)) (31 : Int32) b2.2).bind fun b4 => if b4.1 = 0 then (some ((0 : Int32), b4.2)) else (some ((1 : Int32), b4.2))))
set_option maxRecDepth 100000 in
set_option maxHeartbeats 4000000 in
theorem tg_108_143 (y1 : Int32) (y2 : Int32) (y6 : Int32) (M : im_M) : im_Go zR_I 3 fm_108 143 [(0, .inr (some 0)), (1, .inl y1), (2, .inl y2), (6, .inl y6)] [] (st_hR M) (gn_108_143 y1 y2 y6 M) := by
  unfold gn_108_143
  refine x_iload dm_108_143 rfl ?_
  refine x_if_eq 187 dm_108_145 rfl (fun c1 => ?_) (fun c1 => ?_)
  · refine x_iconst (0) dm_108_187 (by decide) ?_
    exact x_zretR dm_108_188 rfl (by decide)
  · refine x_aload_n dm_108_148 rfl ?_
    refine x_iload_n dm_108_149 rfl ?_
    refine x_bipush (6) dm_108_150 (by decide) ?_
    refine x_bipush (16) dm_108_152 (by decide) ?_
    refine x_iload_n dm_108_154 rfl ?_
    refine x_imul dm_108_155 ?_
    refine x_bipush (15) dm_108_156 (by decide) ?_
    refine im_callRI mf_107 rfl (tg_107 y1 (6 : Int32) _ (15 : Int32) M) (im_runV (as := [.inl y1, .inl (6 : Int32), .inl _, .inl (15 : Int32)]) (rest := []) dm_108_158 mf_107 (Nat.le_of_ble_eq_true rfl) ml_8_127 mi_107 ms_107 mp_107 (Nat.le_of_ble_eq_true rfl) rfl rfl ⟨_, _, rfl⟩) rfl (fun b2 hb2 => ?_)
    refine x_if_eq 187 dm_108_161 rfl (fun c3 => ?_) (fun c3 => ?_)
    · refine x_iconst (0) dm_108_187 (by decide) ?_
      exact x_zretR dm_108_188 rfl (by decide)
    · refine x_aload_n dm_108_164 rfl ?_
      refine x_iload_n dm_108_165 rfl ?_
      refine x_bipush (7) dm_108_166 (by decide) ?_
      refine x_bipush (64) dm_108_168 (by decide) ?_
      refine x_bipush (32) dm_108_170 (by decide) ?_
      refine x_iload_n dm_108_172 rfl ?_
      refine x_imul dm_108_173 ?_
      refine x_iadd dm_108_174 ?_
      refine x_bipush (31) dm_108_175 (by decide) ?_
      refine im_callRI mf_107 rfl (tg_107 y1 (7 : Int32) _ (31 : Int32) b2.2) (im_runV (as := [.inl y1, .inl (7 : Int32), .inl _, .inl (31 : Int32)]) (rest := []) dm_108_177 mf_107 (Nat.le_of_ble_eq_true rfl) ml_8_127 mi_107 ms_107 mp_107 (Nat.le_of_ble_eq_true rfl) rfl rfl ⟨_, _, rfl⟩) rfl (fun b4 hb4 => ?_)
      refine x_if_eq 187 dm_108_180 rfl (fun c5 => ?_) (fun c5 => ?_)
      · refine x_iconst (0) dm_108_187 (by decide) ?_
        exact x_zretR dm_108_188 rfl (by decide)
      · refine x_iconst (1) dm_108_183 (by decide) ?_
        refine x_goto 188 dm_108_184 rfl ?_
        exact x_zretR dm_108_188 rfl (by decide)
def gn_108_141 (y1 : Int32) (y2 : Int32) (s0 : Int32) (M : im_M) : Option (Int32 × im_M) :=
  gn_108_143 y1 y2 s0 M
set_option maxRecDepth 100000 in
set_option maxHeartbeats 4000000 in
theorem tg_108_141 (y1 : Int32) (y2 : Int32) (s0 : Int32) (M : im_M) : im_Go zR_I 3 fm_108 141 [(0, .inr (some 0)), (1, .inl y1), (2, .inl y2)] [.inl s0] (st_hR M) (gn_108_141 y1 y2 s0 M) := by
  unfold gn_108_141
  refine x_istore dm_108_141 (Nat.le_of_ble_eq_true rfl) ?_
  exact im_lsub [(0, .inr (some 0)), (1, .inl y1), (2, .inl y2), (6, .inl s0)] (im_sb_c rfl (im_sb_c rfl (im_sb_c rfl (im_sb_c rfl im_sb_n)))) (tg_108_143 y1 y2 s0 M)
def gn_108_140 (y1 : Int32) (y2 : Int32) (M : im_M) : Option (Int32 × im_M) :=
  gn_108_141 y1 y2 (0 : Int32) M
set_option maxRecDepth 100000 in
set_option maxHeartbeats 4000000 in
theorem tg_108_140 (y1 : Int32) (y2 : Int32) (M : im_M) : im_Go zR_I 3 fm_108 140 [(0, .inr (some 0)), (1, .inl y1), (2, .inl y2)] [] (st_hR M) (gn_108_140 y1 y2 M) := by
  unfold gn_108_140
  refine x_iconst (0) dm_108_140 (by decide) ?_
  exact im_lsub [(0, .inr (some 0)), (1, .inl y1), (2, .inl y2)] (im_sb_c rfl (im_sb_c rfl (im_sb_c rfl im_sb_n))) (tg_108_141 y1 y2 (0 : Int32) M)
def gn_108_119 (y1 : Int32) (y2 : Int32) (y3 : Int32) (y5 : Int32) (M : im_M) : Option (Int32 × im_M) :=
  if ((y3 >>> ((7 : Int32) &&& 31)) &&& (7 : Int32)) = (6 : Int32) then (if y5 = 0 then (gn_108_141 y1 y2 (1 : Int32) M) else (gn_108_140 y1 y2 M)) else (gn_108_140 y1 y2 M)
set_option maxRecDepth 100000 in
set_option maxHeartbeats 4000000 in
theorem tg_108_119 (y1 : Int32) (y2 : Int32) (y3 : Int32) (y5 : Int32) (M : im_M) : im_Go zR_I 3 fm_108 119 [(0, .inr (some 0)), (1, .inl y1), (2, .inl y2), (3, .inl y3), (5, .inl y5)] [] (st_hR M) (gn_108_119 y1 y2 y3 y5 M) := by
  unfold gn_108_119
  refine x_iload_n dm_108_119 rfl ?_
  refine x_bipush (7) dm_108_120 (by decide) ?_
  refine x_ishr dm_108_122 ?_
  refine x_bipush (7) dm_108_123 (by decide) ?_
  refine x_iand dm_108_125 ?_
  refine x_bipush (6) dm_108_126 (by decide) ?_
  refine x_icmp_ne 140 dm_108_128 rfl (fun c1 => ?_) (fun c1 => ?_)
  · refine x_iload dm_108_131 rfl ?_
    refine x_if_ne 140 dm_108_133 rfl (fun c2 => ?_) (fun c2 => ?_)
    · refine x_iconst (1) dm_108_136 (by decide) ?_
      refine x_goto 141 dm_108_137 rfl ?_
      exact im_lsub [(0, .inr (some 0)), (1, .inl y1), (2, .inl y2)] (im_sb_c rfl (im_sb_c rfl (im_sb_c rfl im_sb_n))) (tg_108_141 y1 y2 (1 : Int32) M)
    · exact im_lsub [(0, .inr (some 0)), (1, .inl y1), (2, .inl y2)] (im_sb_c rfl (im_sb_c rfl (im_sb_c rfl im_sb_n))) (tg_108_140 y1 y2 M)
  · exact im_lsub [(0, .inr (some 0)), (1, .inl y1), (2, .inl y2)] (im_sb_c rfl (im_sb_c rfl (im_sb_c rfl im_sb_n))) (tg_108_140 y1 y2 M)
def gn_108_105 (y1 : Int32) (y2 : Int32) (y3 : Int32) (y4 : Int32) (y5 : Int32) (y6 : Int32) (M : im_M) : Option (Int32 × im_M) :=
  if y4 = (8 : Int32) then (gn_108_119 y1 y2 y3 y5 M) else (if y4 = (9 : Int32) then (gn_108_119 y1 y2 y3 y5 M) else (gn_108_143 y1 y2 y6 M))
set_option maxRecDepth 100000 in
set_option maxHeartbeats 4000000 in
theorem tg_108_105 (y1 : Int32) (y2 : Int32) (y3 : Int32) (y4 : Int32) (y5 : Int32) (y6 : Int32) (M : im_M) : im_Go zR_I 3 fm_108 105 [(0, .inr (some 0)), (1, .inl y1), (2, .inl y2), (3, .inl y3), (4, .inl y4), (5, .inl y5), (6, .inl y6)] [] (st_hR M) (gn_108_105 y1 y2 y3 y4 y5 y6 M) := by
  unfold gn_108_105
  refine x_iload dm_108_105 rfl ?_
  refine x_bipush (8) dm_108_107 (by decide) ?_
  refine x_icmp_eq 119 dm_108_109 rfl (fun c1 => ?_) (fun c1 => ?_)
  · exact im_lsub [(0, .inr (some 0)), (1, .inl y1), (2, .inl y2), (3, .inl y3), (5, .inl y5)] (im_sb_c rfl (im_sb_c rfl (im_sb_c rfl (im_sb_c rfl (im_sb_c rfl im_sb_n))))) (tg_108_119 y1 y2 y3 y5 M)
  · refine x_iload dm_108_112 rfl ?_
    refine x_bipush (9) dm_108_114 (by decide) ?_
    refine x_icmp_ne 143 dm_108_116 rfl (fun c2 => ?_) (fun c2 => ?_)
    · exact im_lsub [(0, .inr (some 0)), (1, .inl y1), (2, .inl y2), (3, .inl y3), (5, .inl y5)] (im_sb_c rfl (im_sb_c rfl (im_sb_c rfl (im_sb_c rfl (im_sb_c rfl im_sb_n))))) (tg_108_119 y1 y2 y3 y5 M)
    · exact im_lsub [(0, .inr (some 0)), (1, .inl y1), (2, .inl y2), (6, .inl y6)] (im_sb_c rfl (im_sb_c rfl (im_sb_c rfl (im_sb_c rfl im_sb_n)))) (tg_108_143 y1 y2 y6 M)
def gn_108_88 (y1 : Int32) (y2 : Int32) (y3 : Int32) (y4 : Int32) (y5 : Int32) (y6 : Int32) (M : im_M) : Option (Int32 × im_M) :=
  if y4 = (14 : Int32) then ((gn_92 y5 (0 : Int32) (6 : Int32) M).bind fun b2 => gn_108_105 y1 y2 y3 y4 y5 b2.1 b2.2) else (gn_108_105 y1 y2 y3 y4 y5 y6 M)
set_option maxRecDepth 100000 in
set_option maxHeartbeats 4000000 in
theorem tg_108_88 (y1 : Int32) (y2 : Int32) (y3 : Int32) (y4 : Int32) (y5 : Int32) (y6 : Int32) (M : im_M) : im_Go zR_I 3 fm_108 88 [(0, .inr (some 0)), (1, .inl y1), (2, .inl y2), (3, .inl y3), (4, .inl y4), (5, .inl y5), (6, .inl y6)] [] (st_hR M) (gn_108_88 y1 y2 y3 y4 y5 y6 M) := by
  unfold gn_108_88
  refine x_iload dm_108_88 rfl ?_
  refine x_bipush (14) dm_108_90 (by decide) ?_
  refine x_icmp_ne 105 dm_108_92 rfl (fun c1 => ?_) (fun c1 => ?_)
  · refine x_iload dm_108_95 rfl ?_
    refine x_iconst (0) dm_108_97 (by decide) ?_
    refine x_bipush (6) dm_108_98 (by decide) ?_
    refine im_callRI mf_92 rfl (tg_92 y5 (0 : Int32) (6 : Int32) M) (im_runS (as := [.inl y5, .inl (0 : Int32), .inl (6 : Int32)]) (rest := []) dm_108_100 mf_92 (Nat.le_of_ble_eq_true rfl) ml_8_83 mi_92 mp_92 (Nat.le_of_ble_eq_true rfl)) rfl (fun b2 hb2 => ?_)
    refine x_istore dm_108_103 (Nat.le_of_ble_eq_true rfl) ?_
    exact im_lsub [(0, .inr (some 0)), (1, .inl y1), (2, .inl y2), (3, .inl y3), (4, .inl y4), (5, .inl y5), (6, .inl b2.1)] (im_sb_c rfl (im_sb_c rfl (im_sb_c rfl (im_sb_c rfl (im_sb_c rfl (im_sb_c rfl (im_sb_c rfl im_sb_n))))))) (tg_108_105 y1 y2 y3 y4 y5 b2.1 b2.2)
  · exact im_lsub [(0, .inr (some 0)), (1, .inl y1), (2, .inl y2), (3, .inl y3), (4, .inl y4), (5, .inl y5), (6, .inl y6)] (im_sb_c rfl (im_sb_c rfl (im_sb_c rfl (im_sb_c rfl (im_sb_c rfl (im_sb_c rfl (im_sb_c rfl im_sb_n))))))) (tg_108_105 y1 y2 y3 y4 y5 y6 M)
def gn_108_86 (y1 : Int32) (y2 : Int32) (y3 : Int32) (y4 : Int32) (y5 : Int32) (s0 : Int32) (M : im_M) : Option (Int32 × im_M) :=
  gn_108_88 y1 y2 y3 y4 y5 s0 M
set_option maxRecDepth 100000 in
set_option maxHeartbeats 4000000 in
theorem tg_108_86 (y1 : Int32) (y2 : Int32) (y3 : Int32) (y4 : Int32) (y5 : Int32) (s0 : Int32) (M : im_M) : im_Go zR_I 3 fm_108 86 [(0, .inr (some 0)), (1, .inl y1), (2, .inl y2), (3, .inl y3), (4, .inl y4), (5, .inl y5)] [.inl s0] (st_hR M) (gn_108_86 y1 y2 y3 y4 y5 s0 M) := by
  unfold gn_108_86
  refine x_istore dm_108_86 (Nat.le_of_ble_eq_true rfl) ?_
  exact im_lsub [(0, .inr (some 0)), (1, .inl y1), (2, .inl y2), (3, .inl y3), (4, .inl y4), (5, .inl y5), (6, .inl s0)] (im_sb_c rfl (im_sb_c rfl (im_sb_c rfl (im_sb_c rfl (im_sb_c rfl (im_sb_c rfl (im_sb_c rfl im_sb_n))))))) (tg_108_88 y1 y2 y3 y4 y5 s0 M)
def gn_108_63 (y1 : Int32) (y2 : Int32) (y3 : Int32) (y4 : Int32) (y5 : Int32) (y6 : Int32) (M : im_M) : Option (Int32 × im_M) :=
  if y4 = (13 : Int32) then (if ((y3 >>> ((4 : Int32) &&& 31)) &&& (7 : Int32)) = (7 : Int32) then (gn_108_86 y1 y2 y3 y4 y5 (1 : Int32) M) else (gn_108_86 y1 y2 y3 y4 y5 (0 : Int32) M)) else (gn_108_88 y1 y2 y3 y4 y5 y6 M)
set_option maxRecDepth 100000 in
set_option maxHeartbeats 4000000 in
theorem tg_108_63 (y1 : Int32) (y2 : Int32) (y3 : Int32) (y4 : Int32) (y5 : Int32) (y6 : Int32) (M : im_M) : im_Go zR_I 3 fm_108 63 [(0, .inr (some 0)), (1, .inl y1), (2, .inl y2), (3, .inl y3), (4, .inl y4), (5, .inl y5), (6, .inl y6)] [] (st_hR M) (gn_108_63 y1 y2 y3 y4 y5 y6 M) := by
  unfold gn_108_63
  refine x_iload dm_108_63 rfl ?_
  refine x_bipush (13) dm_108_65 (by decide) ?_
  refine x_icmp_ne 88 dm_108_67 rfl (fun c1 => ?_) (fun c1 => ?_)
  · refine x_iload_n dm_108_70 rfl ?_
    refine x_iconst (4) dm_108_71 (by decide) ?_
    refine x_ishr dm_108_72 ?_
    refine x_bipush (7) dm_108_73 (by decide) ?_
    refine x_iand dm_108_75 ?_
    refine x_bipush (7) dm_108_76 (by decide) ?_
    refine x_icmp_ne 85 dm_108_78 rfl (fun c2 => ?_) (fun c2 => ?_)
    · refine x_iconst (1) dm_108_81 (by decide) ?_
      refine x_goto 86 dm_108_82 rfl ?_
      exact im_lsub [(0, .inr (some 0)), (1, .inl y1), (2, .inl y2), (3, .inl y3), (4, .inl y4), (5, .inl y5)] (im_sb_c rfl (im_sb_c rfl (im_sb_c rfl (im_sb_c rfl (im_sb_c rfl (im_sb_c rfl im_sb_n)))))) (tg_108_86 y1 y2 y3 y4 y5 (1 : Int32) M)
    · refine x_iconst (0) dm_108_85 (by decide) ?_
      exact im_lsub [(0, .inr (some 0)), (1, .inl y1), (2, .inl y2), (3, .inl y3), (4, .inl y4), (5, .inl y5)] (im_sb_c rfl (im_sb_c rfl (im_sb_c rfl (im_sb_c rfl (im_sb_c rfl (im_sb_c rfl im_sb_n)))))) (tg_108_86 y1 y2 y3 y4 y5 (0 : Int32) M)
  · exact im_lsub [(0, .inr (some 0)), (1, .inl y1), (2, .inl y2), (3, .inl y3), (4, .inl y4), (5, .inl y5), (6, .inl y6)] (im_sb_c rfl (im_sb_c rfl (im_sb_c rfl (im_sb_c rfl (im_sb_c rfl (im_sb_c rfl (im_sb_c rfl im_sb_n))))))) (tg_108_88 y1 y2 y3 y4 y5 y6 M)
def gn_108_31 (y1 : Int32) (y2 : Int32) (y3 : Int32) (y4 : Int32) (y5 : Int32) (s0 : Int32) (M : im_M) : Option (Int32 × im_M) :=
  (gn_92 y4 (10 : Int32) (12 : Int32) M).bind fun b1 => if b1.1 = 0 then (gn_108_63 y1 y2 y3 y4 y5 s0 b1.2) else ((gn_92 ((y1 + (1 : Int32)) + y5) (0 : Int32) ((b1.2 0 23) - (1 : Int32)) b1.2).bind fun b3 => gn_108_63 y1 y2 y3 y4 y5 b3.1 b3.2)
set_option maxRecDepth 100000 in
set_option maxHeartbeats 4000000 in
theorem tg_108_31 (y1 : Int32) (y2 : Int32) (y3 : Int32) (y4 : Int32) (y5 : Int32) (s0 : Int32) (M : im_M) : im_Go zR_I 3 fm_108 31 [(0, .inr (some 0)), (1, .inl y1), (2, .inl y2), (3, .inl y3), (4, .inl y4), (5, .inl y5)] [.inl s0] (st_hR M) (gn_108_31 y1 y2 y3 y4 y5 s0 M) := by
  unfold gn_108_31
  refine x_istore dm_108_31 (Nat.le_of_ble_eq_true rfl) ?_
  refine x_iload dm_108_33 rfl ?_
  refine x_bipush (10) dm_108_35 (by decide) ?_
  refine x_bipush (12) dm_108_37 (by decide) ?_
  refine im_callRI mf_92 rfl (tg_92 y4 (10 : Int32) (12 : Int32) M) (im_runS (as := [.inl y4, .inl (10 : Int32), .inl (12 : Int32)]) (rest := []) dm_108_39 mf_92 (Nat.le_of_ble_eq_true rfl) ml_8_83 mi_92 mp_92 (Nat.le_of_ble_eq_true rfl)) rfl (fun b1 hb1 => ?_)
  refine x_if_eq 63 dm_108_42 rfl (fun c2 => ?_) (fun c2 => ?_)
  · exact im_lsub [(0, .inr (some 0)), (1, .inl y1), (2, .inl y2), (3, .inl y3), (4, .inl y4), (5, .inl y5), (6, .inl s0)] (im_sb_c rfl (im_sb_c rfl (im_sb_c rfl (im_sb_c rfl (im_sb_c rfl (im_sb_c rfl (im_sb_c rfl im_sb_n))))))) (tg_108_63 y1 y2 y3 y4 y5 s0 b1.2)
  · refine x_iload_n dm_108_45 rfl ?_
    refine x_iconst (1) dm_108_46 (by decide) ?_
    refine x_iadd dm_108_47 ?_
    refine x_iload dm_108_48 rfl ?_
    refine x_iadd dm_108_50 ?_
    refine x_iconst (0) dm_108_51 (by decide) ?_
    refine x_aload_n dm_108_52 rfl ?_
    refine x_getI dm_108_53 fl_8_93 rfl rfl rfl ?_
    refine x_iconst (1) dm_108_56 (by decide) ?_
    refine x_isub dm_108_57 ?_
    refine im_callRI mf_92 rfl (tg_92 _ (0 : Int32) _ b1.2) (im_runS (as := [.inl _, .inl (0 : Int32), .inl _]) (rest := []) dm_108_58 mf_92 (Nat.le_of_ble_eq_true rfl) ml_8_83 mi_92 mp_92 (Nat.le_of_ble_eq_true rfl)) rfl (fun b3 hb3 => ?_)
    refine x_istore dm_108_61 (Nat.le_of_ble_eq_true rfl) ?_
    exact im_lsub [(0, .inr (some 0)), (1, .inl y1), (2, .inl y2), (3, .inl y3), (4, .inl y4), (5, .inl y5), (6, .inl b3.1)] (im_sb_c rfl (im_sb_c rfl (im_sb_c rfl (im_sb_c rfl (im_sb_c rfl (im_sb_c rfl (im_sb_c rfl im_sb_n))))))) (tg_108_63 y1 y2 y3 y4 y5 b3.1 b3.2)
/-- FencedModulesModel.safe(II)Z -/
def gn_108 (x1 : Int32) (x2 : Int32) (M : im_M) : Option (Int32 × im_M) :=
  if st_ib x1 31 then (let v2 : Int32 := (M 21 (x1).toNatClampNeg); let v3 : Int32 := (v2 &&& (15 : Int32)); let v4 : Int32 := (v2 >>> ((10 : Int32) &&& 31)); if v3 = (15 : Int32) then (gn_108_31 x1 x2 v2 v3 v4 (0 : Int32) M) else (gn_108_31 x1 x2 v2 v3 v4 (1 : Int32) M)) else none
set_option maxRecDepth 100000 in
set_option maxHeartbeats 4000000 in
theorem tg_108 (x1 : Int32) (x2 : Int32) (M : im_M) : im_Go zR_I 3 fm_108 0 (im_en 0 [.inr (some 0), .inl x1, .inl x2]) [] (st_hR M) (gn_108 x1 x2 M) := by
  unfold gn_108
  refine x_aload_n dm_108_0 rfl ?_
  refine x_getRC dm_108_1 fl_8_71 rfl rfl rfl rfl ?_
  refine x_iload_n dm_108_4 rfl ?_
  refine im_chk _ (fun hi1 => ?_)
  refine x_ialoadX _ rfl dm_108_5 rfl (mk_in rfl hi1) ?_
  refine x_istore_n dm_108_6 (Nat.le_of_ble_eq_true rfl) ?_
  refine x_iload_n dm_108_7 rfl ?_
  refine x_bipush (15) dm_108_8 (by decide) ?_
  refine x_iand dm_108_10 ?_
  refine x_istore dm_108_11 (Nat.le_of_ble_eq_true rfl) ?_
  refine x_iload_n dm_108_13 rfl ?_
  refine x_bipush (10) dm_108_14 (by decide) ?_
  refine x_ishr dm_108_16 ?_
  refine x_istore dm_108_17 (Nat.le_of_ble_eq_true rfl) ?_
  refine x_iload dm_108_19 rfl ?_
  refine x_bipush (15) dm_108_21 (by decide) ?_
  refine x_icmp_eq 30 dm_108_23 rfl (fun c5 => ?_) (fun c5 => ?_)
  · refine x_iconst (0) dm_108_30 (by decide) ?_
    exact im_lsub [(0, .inr (some 0)), (1, .inl x1), (2, .inl x2), (3, .inl _), (4, .inl _), (5, .inl _)] (im_sb_c rfl (im_sb_c rfl (im_sb_c rfl (im_sb_c rfl (im_sb_c rfl (im_sb_c rfl im_sb_n)))))) (tg_108_31 x1 x2 _ _ _ (0 : Int32) M)
  · refine x_iconst (1) dm_108_26 (by decide) ?_
    refine x_goto 31 dm_108_27 rfl ?_
    exact im_lsub [(0, .inr (some 0)), (1, .inl x1), (2, .inl x2), (3, .inl _), (4, .inl _), (5, .inl _)] (im_sb_c rfl (im_sb_c rfl (im_sb_c rfl (im_sb_c rfl (im_sb_c rfl (im_sb_c rfl im_sb_n)))))) (tg_108_31 x1 x2 _ _ _ (1 : Int32) M)
def gn_116_100 (s0 : Int32) (s1 : Int32) (M : im_M) : Option (im_M) :=
  if st_ib s1 3 then (let M2 : im_M := im_u M 2 (s1).toNatClampNeg s0; some M2) else none
set_option maxRecDepth 100000 in
set_option maxHeartbeats 4000000 in
theorem tg_116_100 (s0 : Int32) (s1 : Int32) (M : im_M) : im_Go zR_V 3 fm_116 100 [] [.inl s0, .inl s1, .inr (some 2)] (st_hR M) (gn_116_100 s0 s1 M) := by
  unfold gn_116_100
  refine im_chk _ (fun hi1 => ?_)
  refine x_iastoreR _ rfl dm_116_100 rfl (mk_in rfl hi1) ?_
  exact x_vretR dm_116_101 rfl
def gn_116_85 (y1 : Int32) (y4 : Int32) (M : im_M) : Option (im_M) :=
  if y4 = 0 then (gn_116_100 (3 : Int32) y1 M) else (gn_116_100 (2 : Int32) y1 M)
set_option maxRecDepth 100000 in
set_option maxHeartbeats 4000000 in
theorem tg_116_85 (y1 : Int32) (y4 : Int32) (M : im_M) : im_Go zR_V 3 fm_116 85 [(0, .inr (some 0)), (1, .inl y1), (4, .inl y4)] [] (st_hR M) (gn_116_85 y1 y4 M) := by
  unfold gn_116_85
  refine x_aload_n dm_116_85 rfl ?_
  refine x_getRC dm_116_86 fl_8_13 rfl rfl rfl rfl ?_
  refine x_iload_n dm_116_89 rfl ?_
  refine x_iload dm_116_90 rfl ?_
  refine x_if_ne 99 dm_116_92 rfl (fun c1 => ?_) (fun c1 => ?_)
  · refine x_iconst (3) dm_116_95 (by decide) ?_
    refine x_goto 100 dm_116_96 rfl ?_
    exact im_lsub [] im_sb_n (tg_116_100 (3 : Int32) y1 M)
  · refine x_iconst (2) dm_116_99 (by decide) ?_
    exact im_lsub [] im_sb_n (tg_116_100 (2 : Int32) y1 M)
def gn_116_70 (y1 : Int32) (y4 : Int32) (M : im_M) : Option (im_M) :=
  if y4 = (14 : Int32) then ((gn_113 y1 (0 : Int32) (0 : Int32) (0 : Int32) M).bind fun b2 => gn_116_85 y1 y4 b2) else (gn_116_85 y1 y4 M)
set_option maxRecDepth 100000 in
set_option maxHeartbeats 4000000 in
theorem tg_116_70 (y1 : Int32) (y4 : Int32) (M : im_M) : im_Go zR_V 3 fm_116 70 [(0, .inr (some 0)), (1, .inl y1), (4, .inl y4)] [] (st_hR M) (gn_116_70 y1 y4 M) := by
  unfold gn_116_70
  refine x_iload dm_116_70 rfl ?_
  refine x_bipush (14) dm_116_72 (by decide) ?_
  refine x_icmp_ne 85 dm_116_74 rfl (fun c1 => ?_) (fun c1 => ?_)
  · refine x_aload_n dm_116_77 rfl ?_
    refine x_iload_n dm_116_78 rfl ?_
    refine x_iconst (0) dm_116_79 (by decide) ?_
    refine x_iconst (0) dm_116_80 (by decide) ?_
    refine x_iconst (0) dm_116_81 (by decide) ?_
    refine im_callRV mf_113 rfl (tg_113 y1 (0 : Int32) (0 : Int32) (0 : Int32) M) (im_runV (as := [.inl y1, .inl (0 : Int32), .inl (0 : Int32), .inl (0 : Int32)]) (rest := []) dm_116_82 mf_113 (Nat.le_of_ble_eq_true rfl) ml_8_144 mi_113 ms_113 mp_113 (Nat.le_of_ble_eq_true rfl) rfl rfl ⟨_, _, rfl⟩) rfl (fun b2 hb2 => ?_)
    exact im_lsub [(0, .inr (some 0)), (1, .inl y1), (4, .inl y4)] (im_sb_c rfl (im_sb_c rfl (im_sb_c rfl im_sb_n))) (tg_116_85 y1 y4 b2)
  · exact im_lsub [(0, .inr (some 0)), (1, .inl y1), (4, .inl y4)] (im_sb_c rfl (im_sb_c rfl (im_sb_c rfl im_sb_n))) (tg_116_85 y1 y4 M)
def gn_116_261 (s0 : Int32) (s1 : Int32) (M : im_M) : Option (im_M) :=
  if st_ib s1 3 then (let M2 : im_M := im_u M 4 (s1).toNatClampNeg s0; some M2) else none
set_option maxRecDepth 100000 in
set_option maxHeartbeats 4000000 in
theorem tg_116_261 (s0 : Int32) (s1 : Int32) (M : im_M) : im_Go zR_V 3 fm_116 261 [] [.inl s0, .inl s1, .inr (some 4)] (st_hR M) (gn_116_261 s0 s1 M) := by
  unfold gn_116_261
  refine im_chk _ (fun hi1 => ?_)
  refine x_iastoreR _ rfl dm_116_261 rfl (mk_in rfl hi1) ?_
  refine x_goto 293 dm_116_262 rfl ?_
  exact x_vretR dm_116_293 rfl
def gn_116_102 (y1 : Int32) (y2 : Int32) (y4 : Int32) (y5 : Int32) (y6 : Int32) (y7 : Int32) (M : im_M) : Option (im_M) :=
  if st_ib y1 3 then (let M2 : im_M := im_u M 4 (y1).toNatClampNeg (y2 + (1 : Int32)); if y4 = (14 : Int32) then ((gn_114 y1 y5 M2).bind fun b4 => some b4) else (if y4 = (8 : Int32) then (if st_ib y7 24 then (if st_ib ((M2 3 (y7).toNatClampNeg) + y5) 256 then (if st_ib y6 24 then (let M9 : im_M := im_u M2 3 (y6).toNatClampNeg (M2 1 (((M2 3 (y7).toNatClampNeg) + y5)).toNatClampNeg); some M9) else none) else none) else none) else (if y4 = (9 : Int32) then (if st_ib y7 24 then (if st_ib y6 24 then (if st_ib ((M2 3 (y7).toNatClampNeg) + y5) 256 then (let M14 : im_M := im_u M2 1 (((M2 3 (y7).toNatClampNeg) + y5)).toNatClampNeg (M2 3 (y6).toNatClampNeg); some M14) else none) else none) else none) else (if y4 = (13 : Int32) then (if st_ib y6 24 then (let M17 : im_M := im_u M2 4 (y1).toNatClampNeg (M2 3 (y6).toNatClampNeg); some M17) else none) else (if y4 ≤ (9 : Int32) then (if st_ib y6 24 then (if st_ib y7 24 then ((gn_118 y4 (M2 3 (y6).toNatClampNeg) (M2 3 (y7).toNatClampNeg) y5 M2).bind fun b21 => if st_ib y6 24 then (let M23 : im_M := im_u b21.2 3 (y6).toNatClampNeg b21.1; some M23) else none) else none) else none) else (if st_ib y6 24 then (if st_ib y7 24 then ((gn_117 y4 (M2 3 (y6).toNatClampNeg) (M2 3 (y7).toNatClampNeg) M2).bind fun b26 => if b26.1 = 0 then (gn_116_261 (y2 + (1 : Int32)) y1 b26.2) else (gn_116_261 ((y2 + (1 : Int32)) + y5) y1 b26.2)) else none) else none)))))) else none
set_option maxRecDepth 100000 in
set_option maxHeartbeats 4000000 in
theorem tg_116_102 (y1 : Int32) (y2 : Int32) (y4 : Int32) (y5 : Int32) (y6 : Int32) (y7 : Int32) (M : im_M) : im_Go zR_V 3 fm_116 102 [(0, .inr (some 0)), (1, .inl y1), (2, .inl y2), (4, .inl y4), (5, .inl y5), (6, .inl y6), (7, .inl y7)] [] (st_hR M) (gn_116_102 y1 y2 y4 y5 y6 y7 M) := by
  unfold gn_116_102
  refine x_aload_n dm_116_102 rfl ?_
  refine x_getRC dm_116_103 fl_8_19 rfl rfl rfl rfl ?_
  refine x_iload_n dm_116_106 rfl ?_
  refine x_iload_n dm_116_107 rfl ?_
  refine x_iconst (1) dm_116_108 (by decide) ?_
  refine x_iadd dm_116_109 ?_
  refine im_chk _ (fun hi1 => ?_)
  refine x_iastoreR _ rfl dm_116_110 rfl (mk_in rfl hi1) ?_
  refine x_iload dm_116_111 rfl ?_
  refine x_bipush (14) dm_116_113 (by decide) ?_
  refine x_icmp_ne 128 dm_116_115 rfl (fun c3 => ?_) (fun c3 => ?_)
  · refine x_aload_n dm_116_118 rfl ?_
    refine x_iload_n dm_116_119 rfl ?_
    refine x_iload dm_116_120 rfl ?_
    refine im_callRV mf_114 rfl (tg_114 y1 y5 _) (im_runV (as := [.inl y1, .inl y5]) (rest := []) dm_116_122 mf_114 (Nat.le_of_ble_eq_true rfl) ml_8_154 mi_114 ms_114 mp_114 (Nat.le_of_ble_eq_true rfl) rfl rfl ⟨_, _, rfl⟩) rfl (fun b4 hb4 => ?_)
    refine x_goto 293 dm_116_125 rfl ?_
    exact x_vretR dm_116_293 rfl
  · refine x_iload dm_116_128 rfl ?_
    refine x_bipush (8) dm_116_130 (by decide) ?_
    refine x_icmp_ne 160 dm_116_132 rfl (fun c5 => ?_) (fun c5 => ?_)
    · refine x_aload_n dm_116_135 rfl ?_
      refine x_getRC dm_116_136 fl_8_16 rfl rfl rfl rfl ?_
      refine x_iload dm_116_139 rfl ?_
      refine x_aload_n dm_116_141 rfl ?_
      refine x_getRC dm_116_142 fl_8_7 rfl rfl rfl rfl ?_
      refine x_aload_n dm_116_145 rfl ?_
      refine x_getRC dm_116_146 fl_8_16 rfl rfl rfl rfl ?_
      refine x_iload dm_116_149 rfl ?_
      refine im_chk _ (fun hi6 => ?_)
      refine x_ialoadX _ rfl dm_116_151 rfl (mk_in rfl hi6) ?_
      refine x_iload dm_116_152 rfl ?_
      refine x_iadd dm_116_154 ?_
      refine im_chk _ (fun hi7 => ?_)
      refine x_ialoadX _ rfl dm_116_155 rfl (mk_in rfl hi7) ?_
      refine im_chk _ (fun hi8 => ?_)
      refine x_iastoreR _ rfl dm_116_156 rfl (mk_in rfl hi8) ?_
      refine x_goto 293 dm_116_157 rfl ?_
      exact x_vretR dm_116_293 rfl
    · refine x_iload dm_116_160 rfl ?_
      refine x_bipush (9) dm_116_162 (by decide) ?_
      refine x_icmp_ne 192 dm_116_164 rfl (fun c10 => ?_) (fun c10 => ?_)
      · refine x_aload_n dm_116_167 rfl ?_
        refine x_getRC dm_116_168 fl_8_7 rfl rfl rfl rfl ?_
        refine x_aload_n dm_116_171 rfl ?_
        refine x_getRC dm_116_172 fl_8_16 rfl rfl rfl rfl ?_
        refine x_iload dm_116_175 rfl ?_
        refine im_chk _ (fun hi11 => ?_)
        refine x_ialoadX _ rfl dm_116_177 rfl (mk_in rfl hi11) ?_
        refine x_iload dm_116_178 rfl ?_
        refine x_iadd dm_116_180 ?_
        refine x_aload_n dm_116_181 rfl ?_
        refine x_getRC dm_116_182 fl_8_16 rfl rfl rfl rfl ?_
        refine x_iload dm_116_185 rfl ?_
        refine im_chk _ (fun hi12 => ?_)
        refine x_ialoadX _ rfl dm_116_187 rfl (mk_in rfl hi12) ?_
        refine im_chk _ (fun hi13 => ?_)
        refine x_iastoreR _ rfl dm_116_188 rfl (mk_in rfl hi13) ?_
        refine x_goto 293 dm_116_189 rfl ?_
        exact x_vretR dm_116_293 rfl
      · refine x_iload dm_116_192 rfl ?_
        refine x_bipush (13) dm_116_194 (by decide) ?_
        refine x_icmp_ne 215 dm_116_196 rfl (fun c15 => ?_) (fun c15 => ?_)
        · refine x_aload_n dm_116_199 rfl ?_
          refine x_getRC dm_116_200 fl_8_19 rfl rfl rfl rfl ?_
          refine x_iload_n dm_116_203 rfl ?_
          refine x_aload_n dm_116_204 rfl ?_
          refine x_getRC dm_116_205 fl_8_16 rfl rfl rfl rfl ?_
          refine x_iload dm_116_208 rfl ?_
          refine im_chk _ (fun hi16 => ?_)
          refine x_ialoadX _ rfl dm_116_210 rfl (mk_in rfl hi16) ?_
          refine x_iastoreR _ rfl dm_116_211 rfl (mk_in rfl hi1) ?_
          refine x_goto 293 dm_116_212 rfl ?_
          exact x_vretR dm_116_293 rfl
        · refine x_iload dm_116_215 rfl ?_
          refine x_bipush (9) dm_116_217 (by decide) ?_
          refine x_icmp_le 265 dm_116_219 rfl (fun c18 => ?_) (fun c18 => ?_)
          · refine x_aload_n dm_116_265 rfl ?_
            refine x_getRC dm_116_266 fl_8_16 rfl rfl rfl rfl ?_
            refine x_iload dm_116_269 rfl ?_
            refine x_iload dm_116_271 rfl ?_
            refine x_aload_n dm_116_273 rfl ?_
            refine x_getRC dm_116_274 fl_8_16 rfl rfl rfl rfl ?_
            refine x_iload dm_116_277 rfl ?_
            refine im_chk _ (fun hi19 => ?_)
            refine x_ialoadX _ rfl dm_116_279 rfl (mk_in rfl hi19) ?_
            refine x_aload_n dm_116_280 rfl ?_
            refine x_getRC dm_116_281 fl_8_16 rfl rfl rfl rfl ?_
            refine x_iload dm_116_284 rfl ?_
            refine im_chk _ (fun hi20 => ?_)
            refine x_ialoadX _ rfl dm_116_286 rfl (mk_in rfl hi20) ?_
            refine x_iload dm_116_287 rfl ?_
            refine im_callRI mf_118 rfl (tg_118 y4 _ _ y5 _) (im_runS (as := [.inl y4, .inl _, .inl _, .inl y5]) (rest := [.inl y6, .inr (some 3)]) dm_116_289 mf_118 (Nat.le_of_ble_eq_true rfl) ml_8_160 mi_118 mp_118 (Nat.le_of_ble_eq_true rfl)) rfl (fun b21 hb21 => ?_)
            refine im_chk _ (fun hi22 => ?_)
            refine x_iastoreR _ rfl dm_116_292 rfl (mk_in rfl hi22) ?_
            exact x_vretR dm_116_293 rfl
          · refine x_aload_n dm_116_222 rfl ?_
            refine x_getRC dm_116_223 fl_8_19 rfl rfl rfl rfl ?_
            refine x_iload_n dm_116_226 rfl ?_
            refine x_iload dm_116_227 rfl ?_
            refine x_aload_n dm_116_229 rfl ?_
            refine x_getRC dm_116_230 fl_8_16 rfl rfl rfl rfl ?_
            refine x_iload dm_116_233 rfl ?_
            refine im_chk _ (fun hi24 => ?_)
            refine x_ialoadX _ rfl dm_116_235 rfl (mk_in rfl hi24) ?_
            refine x_aload_n dm_116_236 rfl ?_
            refine x_getRC dm_116_237 fl_8_16 rfl rfl rfl rfl ?_
            refine x_iload dm_116_240 rfl ?_
            refine im_chk _ (fun hi25 => ?_)
            refine x_ialoadX _ rfl dm_116_242 rfl (mk_in rfl hi25) ?_
            refine im_callRI mf_117 rfl (tg_117 y4 _ _ _) (im_runS (as := [.inl y4, .inl _, .inl _]) (rest := [.inl y1, .inr (some 4)]) dm_116_243 mf_117 (Nat.le_of_ble_eq_true rfl) ml_8_157 mi_117 mp_117 (Nat.le_of_ble_eq_true rfl)) rfl (fun b26 hb26 => ?_)
            refine x_if_eq 258 dm_116_246 rfl (fun c27 => ?_) (fun c27 => ?_)
            · refine x_iload_n dm_116_258 rfl ?_
              refine x_iconst (1) dm_116_259 (by decide) ?_
              refine x_iadd dm_116_260 ?_
              exact im_lsub [] im_sb_n (tg_116_261 _ y1 b26.2)
            · refine x_iload_n dm_116_249 rfl ?_
              refine x_iconst (1) dm_116_250 (by decide) ?_
              refine x_iadd dm_116_251 ?_
              refine x_iload dm_116_252 rfl ?_
              refine x_iadd dm_116_254 ?_
              refine x_goto 261 dm_116_255 rfl ?_
              exact im_lsub [] im_sb_n (tg_116_261 _ y1 b26.2)
/-- FencedModulesModel.step(I)V -/
def gn_116 (x1 : Int32) (M : im_M) : Option (im_M) :=
  if st_ib x1 3 then (let v2 : Int32 := (M 4 (x1).toNatClampNeg); if st_ib v2 256 then (let v4 : Int32 := (M 1 (v2).toNatClampNeg); let v5 : Int32 := (v4 &&& (15 : Int32)); let v6 : Int32 := (v4 >>> ((10 : Int32) &&& 31)); let v7 : Int32 := (((8 : Int32) * x1) + ((v4 >>> ((4 : Int32) &&& 31)) &&& (7 : Int32))); let v8 : Int32 := (((8 : Int32) * x1) + ((v4 >>> ((7 : Int32) &&& 31)) &&& (7 : Int32))); if v5 = 0 then (gn_116_70 x1 v5 M) else (if v5 = (14 : Int32) then (if v6 = 0 then (gn_116_70 x1 v5 M) else (gn_116_102 x1 v2 v5 v6 v7 v8 M)) else (gn_116_102 x1 v2 v5 v6 v7 v8 M))) else none) else none
set_option maxRecDepth 100000 in
set_option maxHeartbeats 4000000 in
theorem tg_116 (x1 : Int32) (M : im_M) : im_Go zR_V 3 fm_116 0 (im_en 0 [.inr (some 0), .inl x1]) [] (st_hR M) (gn_116 x1 M) := by
  unfold gn_116
  refine x_aload_n dm_116_0 rfl ?_
  refine x_getRC dm_116_1 fl_8_19 rfl rfl rfl rfl ?_
  refine x_iload_n dm_116_4 rfl ?_
  refine im_chk _ (fun hi1 => ?_)
  refine x_ialoadX _ rfl dm_116_5 rfl (mk_in rfl hi1) ?_
  refine x_istore_n dm_116_6 (Nat.le_of_ble_eq_true rfl) ?_
  refine x_aload_n dm_116_7 rfl ?_
  refine x_getRC dm_116_8 fl_8_7 rfl rfl rfl rfl ?_
  refine x_iload_n dm_116_11 rfl ?_
  refine im_chk _ (fun hi3 => ?_)
  refine x_ialoadX _ rfl dm_116_12 rfl (mk_in rfl hi3) ?_
  refine x_istore_n dm_116_13 (Nat.le_of_ble_eq_true rfl) ?_
  refine x_iload_n dm_116_14 rfl ?_
  refine x_bipush (15) dm_116_15 (by decide) ?_
  refine x_iand dm_116_17 ?_
  refine x_istore dm_116_18 (Nat.le_of_ble_eq_true rfl) ?_
  refine x_iload_n dm_116_20 rfl ?_
  refine x_bipush (10) dm_116_21 (by decide) ?_
  refine x_ishr dm_116_23 ?_
  refine x_istore dm_116_24 (Nat.le_of_ble_eq_true rfl) ?_
  refine x_bipush (8) dm_116_26 (by decide) ?_
  refine x_iload_n dm_116_28 rfl ?_
  refine x_imul dm_116_29 ?_
  refine x_iload_n dm_116_30 rfl ?_
  refine x_iconst (4) dm_116_31 (by decide) ?_
  refine x_ishr dm_116_32 ?_
  refine x_bipush (7) dm_116_33 (by decide) ?_
  refine x_iand dm_116_35 ?_
  refine x_iadd dm_116_36 ?_
  refine x_istore dm_116_37 (Nat.le_of_ble_eq_true rfl) ?_
  refine x_bipush (8) dm_116_39 (by decide) ?_
  refine x_iload_n dm_116_41 rfl ?_
  refine x_imul dm_116_42 ?_
  refine x_iload_n dm_116_43 rfl ?_
  refine x_bipush (7) dm_116_44 (by decide) ?_
  refine x_ishr dm_116_46 ?_
  refine x_bipush (7) dm_116_47 (by decide) ?_
  refine x_iand dm_116_49 ?_
  refine x_iadd dm_116_50 ?_
  refine x_istore dm_116_51 (Nat.le_of_ble_eq_true rfl) ?_
  refine x_iload dm_116_53 rfl ?_
  refine x_if_eq 70 dm_116_55 rfl (fun c9 => ?_) (fun c9 => ?_)
  · exact im_lsub [(0, .inr (some 0)), (1, .inl x1), (4, .inl _)] (im_sb_c rfl (im_sb_c rfl (im_sb_c rfl im_sb_n))) (tg_116_70 x1 _ M)
  · refine x_iload dm_116_58 rfl ?_
    refine x_bipush (14) dm_116_60 (by decide) ?_
    refine x_icmp_ne 102 dm_116_62 rfl (fun c10 => ?_) (fun c10 => ?_)
    · refine x_iload dm_116_65 rfl ?_
      refine x_if_ne 102 dm_116_67 rfl (fun c11 => ?_) (fun c11 => ?_)
      · exact im_lsub [(0, .inr (some 0)), (1, .inl x1), (4, .inl _)] (im_sb_c rfl (im_sb_c rfl (im_sb_c rfl im_sb_n))) (tg_116_70 x1 _ M)
      · exact im_lsub [(0, .inr (some 0)), (1, .inl x1), (2, .inl _), (4, .inl _), (5, .inl _), (6, .inl _), (7, .inl _)] (im_sb_c rfl (im_sb_c rfl (im_sb_c rfl (im_sb_c rfl (im_sb_c rfl (im_sb_c rfl (im_sb_c rfl im_sb_n))))))) (tg_116_102 x1 _ _ _ _ _ M)
    · exact im_lsub [(0, .inr (some 0)), (1, .inl x1), (2, .inl _), (4, .inl _), (5, .inl _), (6, .inl _), (7, .inl _)] (im_sb_c rfl (im_sb_c rfl (im_sb_c rfl (im_sb_c rfl (im_sb_c rfl (im_sb_c rfl (im_sb_c rfl im_sb_n))))))) (tg_116_102 x1 _ _ _ _ _ M)
def gn_124_452 (s0 : Int32) (M : im_M) : Option (Int32 × im_M) :=
  let M1 : im_M := im_u M 0 27 s0; some ((0 : Int32), M1)
set_option maxRecDepth 100000 in
set_option maxHeartbeats 4000000 in
theorem tg_124_452 (s0 : Int32) (M : im_M) : im_Go zR_I 3 fm_124 452 [] [.inl s0, .inr (some 0)] (st_hR M) (gn_124_452 s0 M) := by
  unfold gn_124_452
  refine x_putIR dm_124_452 fl_8_173 rfl rfl rfl ?_
  refine x_iconst (0) dm_124_455 (by decide) ?_
  exact x_iretR dm_124_456 rfl
def gn_124_446 (M : im_M) : Option (Int32 × im_M) :=
  gn_124_452 ((M 0 27) + (1 : Int32)) M
set_option maxRecDepth 100000 in
set_option maxHeartbeats 4000000 in
theorem tg_124_446 (M : im_M) : im_Go zR_I 3 fm_124 446 [(0, .inr (some 0))] [.inr (some 0)] (st_hR M) (gn_124_446 M) := by
  unfold gn_124_446
  refine x_aload_n dm_124_446 rfl ?_
  refine x_getI dm_124_447 fl_8_173 rfl rfl rfl ?_
  refine x_iconst (1) dm_124_450 (by decide) ?_
  refine x_iadd dm_124_451 ?_
  exact im_lsub [] im_sb_n (tg_124_452 _ M)
def gn_124_404 (y2 : Int32) (y3 : Int32) (y4 : Int32) (y5 : Int32) (M : im_M) : Option (Int32 × im_M) :=
  (gn_92 y2 (10 : Int32) (12 : Int32) M).bind fun b1 => if b1.1 = 0 then (gn_124_446 b1.2) else (if st_ib y3 24 then (if st_ib y4 24 then ((gn_117 y2 (b1.2 22 (y3).toNatClampNeg) (b1.2 22 (y4).toNatClampNeg) b1.2).bind fun b5 => if b5.1 = 0 then (gn_124_446 b5.2) else (if st_ib y5 8 then (gn_124_452 (b5.2 20 (y5).toNatClampNeg) b5.2) else none)) else none) else none)
set_option maxRecDepth 100000 in
set_option maxHeartbeats 4000000 in
theorem tg_124_404 (y2 : Int32) (y3 : Int32) (y4 : Int32) (y5 : Int32) (M : im_M) : im_Go zR_I 3 fm_124 404 [(0, .inr (some 0)), (2, .inl y2), (3, .inl y3), (4, .inl y4), (5, .inl y5)] [] (st_hR M) (gn_124_404 y2 y3 y4 y5 M) := by
  unfold gn_124_404
  refine x_aload_n dm_124_404 rfl ?_
  refine x_iload_n dm_124_405 rfl ?_
  refine x_bipush (10) dm_124_406 (by decide) ?_
  refine x_bipush (12) dm_124_408 (by decide) ?_
  refine im_callRI mf_92 rfl (tg_92 y2 (10 : Int32) (12 : Int32) M) (im_runS (as := [.inl y2, .inl (10 : Int32), .inl (12 : Int32)]) (rest := [.inr (some 0)]) dm_124_410 mf_92 (Nat.le_of_ble_eq_true rfl) ml_8_83 mi_92 mp_92 (Nat.le_of_ble_eq_true rfl)) rfl (fun b1 hb1 => ?_)
  refine x_if_eq 446 dm_124_413 rfl (fun c2 => ?_) (fun c2 => ?_)
  · exact im_lsub [(0, .inr (some 0))] (im_sb_c rfl im_sb_n) (tg_124_446 b1.2)
  · refine x_iload_n dm_124_416 rfl ?_
    refine x_aload_n dm_124_417 rfl ?_
    refine x_getRC dm_124_418 fl_8_74 rfl rfl rfl rfl ?_
    refine x_iload_n dm_124_421 rfl ?_
    refine im_chk _ (fun hi3 => ?_)
    refine x_ialoadX _ rfl dm_124_422 rfl (mk_in rfl hi3) ?_
    refine x_aload_n dm_124_423 rfl ?_
    refine x_getRC dm_124_424 fl_8_74 rfl rfl rfl rfl ?_
    refine x_iload dm_124_427 rfl ?_
    refine im_chk _ (fun hi4 => ?_)
    refine x_ialoadX _ rfl dm_124_429 rfl (mk_in rfl hi4) ?_
    refine im_callRI mf_117 rfl (tg_117 y2 _ _ b1.2) (im_runS (as := [.inl y2, .inl _, .inl _]) (rest := [.inr (some 0)]) dm_124_430 mf_117 (Nat.le_of_ble_eq_true rfl) ml_8_157 mi_117 mp_117 (Nat.le_of_ble_eq_true rfl)) rfl (fun b5 hb5 => ?_)
    refine x_if_eq 446 dm_124_433 rfl (fun c6 => ?_) (fun c6 => ?_)
    · exact im_lsub [(0, .inr (some 0))] (im_sb_c rfl im_sb_n) (tg_124_446 b5.2)
    · refine x_aload_n dm_124_436 rfl ?_
      refine x_getRC dm_124_437 fl_8_68 rfl rfl rfl rfl ?_
      refine x_iload dm_124_440 rfl ?_
      refine im_chk _ (fun hi7 => ?_)
      refine x_ialoadX _ rfl dm_124_442 rfl (mk_in rfl hi7) ?_
      refine x_goto 452 dm_124_443 rfl ?_
      exact im_lsub [] im_sb_n (tg_124_452 _ b5.2)
def gn_124_318 (y2 : Int32) (y3 : Int32) (y4 : Int32) (y5 : Int32) (M : im_M) : Option (Int32 × im_M) :=
  gn_124_404 y2 y3 y4 y5 M
set_option maxRecDepth 100000 in
set_option maxHeartbeats 4000000 in
theorem tg_124_318 (y2 : Int32) (y3 : Int32) (y4 : Int32) (y5 : Int32) (M : im_M) : im_Go zR_I 3 fm_124 318 [(0, .inr (some 0)), (2, .inl y2), (3, .inl y3), (4, .inl y4), (5, .inl y5)] [] (st_hR M) (gn_124_318 y2 y3 y4 y5 M) := by
  unfold gn_124_318
  refine x_goto 404 dm_124_318 rfl ?_
  exact im_lsub [(0, .inr (some 0)), (2, .inl y2), (3, .inl y3), (4, .inl y4), (5, .inl y5)] (im_sb_c rfl (im_sb_c rfl (im_sb_c rfl (im_sb_c rfl (im_sb_c rfl im_sb_n))))) (tg_124_404 y2 y3 y4 y5 M)
def gn_124_238 (y2 : Int32) (y3 : Int32) (y4 : Int32) (y5 : Int32) (M : im_M) : Option (Int32 × im_M) :=
  if st_ib y4 24 then (let v2 : Int32 := ((M 22 (y4).toNatClampNeg) + y5); (gn_92 v2 (0 : Int32) (15 : Int32) M).bind fun b3 => if b3.1 = 0 then (some ((5 : Int32), b3.2)) else (if y2 = (8 : Int32) then (if st_ib ((8 : Int32) + v2) 24 then (if st_ib ((8 : Int32) + v2) 24 then ((gn_122 y3 (b3.2 22 (((8 : Int32) + v2)).toNatClampNeg) (b3.2 23 (((8 : Int32) + v2)).toNatClampNeg) b3.2).bind fun b8 => gn_124_318 y2 y3 y4 y5 b8) else none) else none) else (if st_ib y3 24 then (if st_ib y3 24 then ((gn_122 ((8 : Int32) + v2) (b3.2 22 (y3).toNatClampNeg) (b3.2 23 (y3).toNatClampNeg) b3.2).bind fun b11 => gn_124_318 y2 y3 y4 y5 b11) else none) else none))) else none
set_option maxRecDepth 100000 in
set_option maxHeartbeats 4000000 in
theorem tg_124_238 (y2 : Int32) (y3 : Int32) (y4 : Int32) (y5 : Int32) (M : im_M) : im_Go zR_I 3 fm_124 238 [(0, .inr (some 0)), (2, .inl y2), (3, .inl y3), (4, .inl y4), (5, .inl y5)] [] (st_hR M) (gn_124_238 y2 y3 y4 y5 M) := by
  unfold gn_124_238
  refine x_aload_n dm_124_238 rfl ?_
  refine x_getRC dm_124_239 fl_8_74 rfl rfl rfl rfl ?_
  refine x_iload dm_124_242 rfl ?_
  refine im_chk _ (fun hi1 => ?_)
  refine x_ialoadX _ rfl dm_124_244 rfl (mk_in rfl hi1) ?_
  refine x_iload dm_124_245 rfl ?_
  refine x_iadd dm_124_247 ?_
  refine x_istore dm_124_248 (Nat.le_of_ble_eq_true rfl) ?_
  refine x_iload dm_124_250 rfl ?_
  refine x_iconst (0) dm_124_252 (by decide) ?_
  refine x_bipush (15) dm_124_253 (by decide) ?_
  refine im_callRI mf_92 rfl (tg_92 _ (0 : Int32) (15 : Int32) M) (im_runS (as := [.inl _, .inl (0 : Int32), .inl (15 : Int32)]) (rest := []) dm_124_255 mf_92 (Nat.le_of_ble_eq_true rfl) ml_8_83 mi_92 mp_92 (Nat.le_of_ble_eq_true rfl)) rfl (fun b3 hb3 => ?_)
  refine x_if_ne 263 dm_124_258 rfl (fun c4 => ?_) (fun c4 => ?_)
  · refine x_iconst (5) dm_124_261 (by decide) ?_
    exact x_iretR dm_124_262 rfl
  · refine x_iload_n dm_124_263 rfl ?_
    refine x_bipush (8) dm_124_264 (by decide) ?_
    refine x_icmp_ne 297 dm_124_266 rfl (fun c5 => ?_) (fun c5 => ?_)
    · refine x_aload_n dm_124_269 rfl ?_
      refine x_iload_n dm_124_270 rfl ?_
      refine x_aload_n dm_124_271 rfl ?_
      refine x_getRC dm_124_272 fl_8_74 rfl rfl rfl rfl ?_
      refine x_bipush (8) dm_124_275 (by decide) ?_
      refine x_iload dm_124_277 rfl ?_
      refine x_iadd dm_124_279 ?_
      refine im_chk _ (fun hi6 => ?_)
      refine x_ialoadX _ rfl dm_124_280 rfl (mk_in rfl hi6) ?_
      refine x_aload_n dm_124_281 rfl ?_
      refine x_getRC dm_124_282 fl_8_77 rfl rfl rfl rfl ?_
      refine x_bipush (8) dm_124_285 (by decide) ?_
      refine x_iload dm_124_287 rfl ?_
      refine x_iadd dm_124_289 ?_
      refine im_chk _ (fun hi7 => ?_)
      refine x_baloadX _ rfl dm_124_290 rfl (mk_in rfl hi7) ?_
      refine im_callRV mf_122 rfl (tg_122 y3 _ _ b3.2) (im_runV (as := [.inl y3, .inl _, .inl _]) (rest := []) dm_124_291 mf_122 (Nat.le_of_ble_eq_true rfl) ml_8_169 mi_122 ms_122 mp_122 (Nat.le_of_ble_eq_true rfl) rfl rfl ⟨_, _, rfl⟩) rfl (fun b8 hb8 => ?_)
      refine x_goto 318 dm_124_294 rfl ?_
      exact im_lsub [(0, .inr (some 0)), (2, .inl y2), (3, .inl y3), (4, .inl y4), (5, .inl y5)] (im_sb_c rfl (im_sb_c rfl (im_sb_c rfl (im_sb_c rfl (im_sb_c rfl im_sb_n))))) (tg_124_318 y2 y3 y4 y5 b8)
    · refine x_aload_n dm_124_297 rfl ?_
      refine x_bipush (8) dm_124_298 (by decide) ?_
      refine x_iload dm_124_300 rfl ?_
      refine x_iadd dm_124_302 ?_
      refine x_aload_n dm_124_303 rfl ?_
      refine x_getRC dm_124_304 fl_8_74 rfl rfl rfl rfl ?_
      refine x_iload_n dm_124_307 rfl ?_
      refine im_chk _ (fun hi9 => ?_)
      refine x_ialoadX _ rfl dm_124_308 rfl (mk_in rfl hi9) ?_
      refine x_aload_n dm_124_309 rfl ?_
      refine x_getRC dm_124_310 fl_8_77 rfl rfl rfl rfl ?_
      refine x_iload_n dm_124_313 rfl ?_
      refine im_chk _ (fun hi10 => ?_)
      refine x_baloadX _ rfl dm_124_314 rfl (mk_in rfl hi10) ?_
      refine im_callRV mf_122 rfl (tg_122 _ _ _ b3.2) (im_runV (as := [.inl _, .inl _, .inl _]) (rest := []) dm_124_315 mf_122 (Nat.le_of_ble_eq_true rfl) ml_8_169 mi_122 ms_122 mp_122 (Nat.le_of_ble_eq_true rfl) rfl rfl ⟨_, _, rfl⟩) rfl (fun b11 hb11 => ?_)
      exact im_lsub [(0, .inr (some 0)), (2, .inl y2), (3, .inl y3), (4, .inl y4), (5, .inl y5)] (im_sb_c rfl (im_sb_c rfl (im_sb_c rfl (im_sb_c rfl (im_sb_c rfl im_sb_n))))) (tg_124_318 y2 y3 y4 y5 b11)
def gn_124_369 (y2 : Int32) (y3 : Int32) (y4 : Int32) (y5 : Int32) (M : im_M) : Option (Int32 × im_M) :=
  if (8 : Int32) ≤ y2 then (gn_124_404 y2 y3 y4 y5 M) else (if st_ib y3 24 then (if st_ib y4 24 then ((gn_118 y2 (M 22 (y3).toNatClampNeg) (M 22 (y4).toNatClampNeg) y5 M).bind fun b4 => (gn_122 y3 b4.1 (0 : Int32) b4.2).bind fun b5 => gn_124_404 y2 y3 y4 y5 b5) else none) else none)
set_option maxRecDepth 100000 in
set_option maxHeartbeats 4000000 in
theorem tg_124_369 (y2 : Int32) (y3 : Int32) (y4 : Int32) (y5 : Int32) (M : im_M) : im_Go zR_I 3 fm_124 369 [(0, .inr (some 0)), (2, .inl y2), (3, .inl y3), (4, .inl y4), (5, .inl y5)] [] (st_hR M) (gn_124_369 y2 y3 y4 y5 M) := by
  unfold gn_124_369
  refine x_iload_n dm_124_369 rfl ?_
  refine x_bipush (8) dm_124_370 (by decide) ?_
  refine x_icmp_ge 404 dm_124_372 rfl (fun c1 => ?_) (fun c1 => ?_)
  · exact im_lsub [(0, .inr (some 0)), (2, .inl y2), (3, .inl y3), (4, .inl y4), (5, .inl y5)] (im_sb_c rfl (im_sb_c rfl (im_sb_c rfl (im_sb_c rfl (im_sb_c rfl im_sb_n))))) (tg_124_404 y2 y3 y4 y5 M)
  · refine x_iload_n dm_124_375 rfl ?_
    refine x_aload_n dm_124_376 rfl ?_
    refine x_getRC dm_124_377 fl_8_74 rfl rfl rfl rfl ?_
    refine x_iload_n dm_124_380 rfl ?_
    refine im_chk _ (fun hi2 => ?_)
    refine x_ialoadX _ rfl dm_124_381 rfl (mk_in rfl hi2) ?_
    refine x_aload_n dm_124_382 rfl ?_
    refine x_getRC dm_124_383 fl_8_74 rfl rfl rfl rfl ?_
    refine x_iload dm_124_386 rfl ?_
    refine im_chk _ (fun hi3 => ?_)
    refine x_ialoadX _ rfl dm_124_388 rfl (mk_in rfl hi3) ?_
    refine x_iload dm_124_389 rfl ?_
    refine im_callRI mf_118 rfl (tg_118 y2 _ _ y5 M) (im_runS (as := [.inl y2, .inl _, .inl _, .inl y5]) (rest := []) dm_124_391 mf_118 (Nat.le_of_ble_eq_true rfl) ml_8_160 mi_118 mp_118 (Nat.le_of_ble_eq_true rfl)) rfl (fun b4 hb4 => ?_)
    refine x_istore dm_124_394 (Nat.le_of_ble_eq_true rfl) ?_
    refine x_aload_n dm_124_396 rfl ?_
    refine x_iload_n dm_124_397 rfl ?_
    refine x_iload dm_124_398 rfl ?_
    refine x_iconst (0) dm_124_400 (by decide) ?_
    refine im_callRV mf_122 rfl (tg_122 y3 b4.1 (0 : Int32) b4.2) (im_runV (as := [.inl y3, .inl b4.1, .inl (0 : Int32)]) (rest := []) dm_124_401 mf_122 (Nat.le_of_ble_eq_true rfl) ml_8_169 mi_122 ms_122 mp_122 (Nat.le_of_ble_eq_true rfl) rfl rfl ⟨_, _, rfl⟩) rfl (fun b5 hb5 => ?_)
    exact im_lsub [(0, .inr (some 0)), (2, .inl y2), (3, .inl y3), (4, .inl y4), (5, .inl y5)] (im_sb_c rfl (im_sb_c rfl (im_sb_c rfl (im_sb_c rfl (im_sb_c rfl im_sb_n))))) (tg_124_404 y2 y3 y4 y5 b5)
def gn_124_169 (y1 : Int32) (y2 : Int32) (y3 : Int32) (y4 : Int32) (y5 : Int32) (s0 : Int32) (M : im_M) : Option (Int32 × im_M) :=
  if s0 = 0 then (if y2 = (13 : Int32) then (if st_ib y3 24 then (if (M 23 (y3).toNatClampNeg) = 0 then (some ((4 : Int32), M)) else (if st_ib y3 24 then (if st_ib (M 22 (y3).toNatClampNeg) 8 then (let M7 : im_M := im_u M 0 27 (M 20 ((M 22 (y3).toNatClampNeg)).toNatClampNeg); some ((0 : Int32), M7)) else none) else none)) else none) else (if y2 = (14 : Int32) then ((gn_125 y1 y5 M).bind fun b9 => some (b9.1, b9.2)) else (if y2 = (8 : Int32) then (gn_124_238 y2 y3 y4 y5 M) else (if y2 = (9 : Int32) then (gn_124_238 y2 y3 y4 y5 M) else (if y2 = (15 : Int32) then ((gn_122 y3 y5 (1 : Int32) M).bind fun b13 => gn_124_404 y2 y3 y4 y5 b13) else (if y2 = (2 : Int32) then (if st_ib y4 24 then (if (M 23 (y4).toNatClampNeg) = 0 then (gn_124_369 y2 y3 y4 y5 M) else (if st_ib y4 24 then ((gn_122 y3 (M 22 (y4).toNatClampNeg) (1 : Int32) M).bind fun b18 => gn_124_404 y2 y3 y4 y5 b18) else none)) else none) else (gn_124_369 y2 y3 y4 y5 M))))))) else (some ((3 : Int32), M))
set_option maxRecDepth 100000 in
set_option maxHeartbeats 4000000 in
theorem tg_124_169 (y1 : Int32) (y2 : Int32) (y3 : Int32) (y4 : Int32) (y5 : Int32) (s0 : Int32) (M : im_M) : im_Go zR_I 3 fm_124 169 [(0, .inr (some 0)), (1, .inl y1), (2, .inl y2), (3, .inl y3), (4, .inl y4), (5, .inl y5)] [.inl s0] (st_hR M) (gn_124_169 y1 y2 y3 y4 y5 s0 M) := by
  unfold gn_124_169
  refine x_istore dm_124_169 (Nat.le_of_ble_eq_true rfl) ?_
  refine x_iload dm_124_171 rfl ?_
  refine x_if_eq 178 dm_124_173 rfl (fun c1 => ?_) (fun c1 => ?_)
  · refine x_iload_n dm_124_178 rfl ?_
    refine x_bipush (13) dm_124_179 (by decide) ?_
    refine x_icmp_ne 212 dm_124_181 rfl (fun c2 => ?_) (fun c2 => ?_)
    · refine x_aload_n dm_124_184 rfl ?_
      refine x_getRC dm_124_185 fl_8_77 rfl rfl rfl rfl ?_
      refine x_iload_n dm_124_188 rfl ?_
      refine im_chk _ (fun hi3 => ?_)
      refine x_baloadX _ rfl dm_124_189 rfl (mk_in rfl hi3) ?_
      refine x_if_ne 195 dm_124_190 rfl (fun c4 => ?_) (fun c4 => ?_)
      · refine x_iconst (4) dm_124_193 (by decide) ?_
        exact x_iretR dm_124_194 rfl
      · refine x_aload_n dm_124_195 rfl ?_
        refine x_aload_n dm_124_196 rfl ?_
        refine x_getRC dm_124_197 fl_8_68 rfl rfl rfl rfl ?_
        refine x_aload_n dm_124_200 rfl ?_
        refine x_getRC dm_124_201 fl_8_74 rfl rfl rfl rfl ?_
        refine x_iload_n dm_124_204 rfl ?_
        refine im_chk _ (fun hi5 => ?_)
        refine x_ialoadX _ rfl dm_124_205 rfl (mk_in rfl hi5) ?_
        refine im_chk _ (fun hi6 => ?_)
        refine x_ialoadX _ rfl dm_124_206 rfl (mk_in rfl hi6) ?_
        refine x_putIR dm_124_207 fl_8_173 rfl rfl rfl ?_
        refine x_iconst (0) dm_124_210 (by decide) ?_
        exact x_iretR dm_124_211 rfl
    · refine x_iload_n dm_124_212 rfl ?_
      refine x_bipush (14) dm_124_213 (by decide) ?_
      refine x_icmp_ne 226 dm_124_215 rfl (fun c8 => ?_) (fun c8 => ?_)
      · refine x_aload_n dm_124_218 rfl ?_
        refine x_iload_n dm_124_219 rfl ?_
        refine x_iload dm_124_220 rfl ?_
        refine im_callRI mf_125 rfl (tg_125 y1 y5 M) (im_runV (as := [.inl y1, .inl y5]) (rest := []) dm_124_222 mf_125 (Nat.le_of_ble_eq_true rfl) ml_8_188 mi_125 ms_125 mp_125 (Nat.le_of_ble_eq_true rfl) rfl rfl ⟨_, _, rfl⟩) rfl (fun b9 hb9 => ?_)
        exact x_iretR dm_124_225 rfl
      · refine x_iload_n dm_124_226 rfl ?_
        refine x_bipush (8) dm_124_227 (by decide) ?_
        refine x_icmp_eq 238 dm_124_229 rfl (fun c10 => ?_) (fun c10 => ?_)
        · exact im_lsub [(0, .inr (some 0)), (2, .inl y2), (3, .inl y3), (4, .inl y4), (5, .inl y5)] (im_sb_c rfl (im_sb_c rfl (im_sb_c rfl (im_sb_c rfl (im_sb_c rfl im_sb_n))))) (tg_124_238 y2 y3 y4 y5 M)
        · refine x_iload_n dm_124_232 rfl ?_
          refine x_bipush (9) dm_124_233 (by decide) ?_
          refine x_icmp_ne 321 dm_124_235 rfl (fun c11 => ?_) (fun c11 => ?_)
          · exact im_lsub [(0, .inr (some 0)), (2, .inl y2), (3, .inl y3), (4, .inl y4), (5, .inl y5)] (im_sb_c rfl (im_sb_c rfl (im_sb_c rfl (im_sb_c rfl (im_sb_c rfl im_sb_n))))) (tg_124_238 y2 y3 y4 y5 M)
          · refine x_iload_n dm_124_321 rfl ?_
            refine x_bipush (15) dm_124_322 (by decide) ?_
            refine x_icmp_ne 338 dm_124_324 rfl (fun c12 => ?_) (fun c12 => ?_)
            · refine x_aload_n dm_124_327 rfl ?_
              refine x_iload_n dm_124_328 rfl ?_
              refine x_iload dm_124_329 rfl ?_
              refine x_iconst (1) dm_124_331 (by decide) ?_
              refine im_callRV mf_122 rfl (tg_122 y3 y5 (1 : Int32) M) (im_runV (as := [.inl y3, .inl y5, .inl (1 : Int32)]) (rest := []) dm_124_332 mf_122 (Nat.le_of_ble_eq_true rfl) ml_8_169 mi_122 ms_122 mp_122 (Nat.le_of_ble_eq_true rfl) rfl rfl ⟨_, _, rfl⟩) rfl (fun b13 hb13 => ?_)
              refine x_goto 404 dm_124_335 rfl ?_
              exact im_lsub [(0, .inr (some 0)), (2, .inl y2), (3, .inl y3), (4, .inl y4), (5, .inl y5)] (im_sb_c rfl (im_sb_c rfl (im_sb_c rfl (im_sb_c rfl (im_sb_c rfl im_sb_n))))) (tg_124_404 y2 y3 y4 y5 b13)
            · refine x_iload_n dm_124_338 rfl ?_
              refine x_iconst (2) dm_124_339 (by decide) ?_
              refine x_icmp_ne 369 dm_124_340 rfl (fun c14 => ?_) (fun c14 => ?_)
              · refine x_aload_n dm_124_343 rfl ?_
                refine x_getRC dm_124_344 fl_8_77 rfl rfl rfl rfl ?_
                refine x_iload dm_124_347 rfl ?_
                refine im_chk _ (fun hi15 => ?_)
                refine x_baloadX _ rfl dm_124_349 rfl (mk_in rfl hi15) ?_
                refine x_if_eq 369 dm_124_350 rfl (fun c16 => ?_) (fun c16 => ?_)
                · exact im_lsub [(0, .inr (some 0)), (2, .inl y2), (3, .inl y3), (4, .inl y4), (5, .inl y5)] (im_sb_c rfl (im_sb_c rfl (im_sb_c rfl (im_sb_c rfl (im_sb_c rfl im_sb_n))))) (tg_124_369 y2 y3 y4 y5 M)
                · refine x_aload_n dm_124_353 rfl ?_
                  refine x_iload_n dm_124_354 rfl ?_
                  refine x_aload_n dm_124_355 rfl ?_
                  refine x_getRC dm_124_356 fl_8_74 rfl rfl rfl rfl ?_
                  refine x_iload dm_124_359 rfl ?_
                  refine im_chk _ (fun hi17 => ?_)
                  refine x_ialoadX _ rfl dm_124_361 rfl (mk_in rfl hi17) ?_
                  refine x_iconst (1) dm_124_362 (by decide) ?_
                  refine im_callRV mf_122 rfl (tg_122 y3 _ (1 : Int32) M) (im_runV (as := [.inl y3, .inl _, .inl (1 : Int32)]) (rest := []) dm_124_363 mf_122 (Nat.le_of_ble_eq_true rfl) ml_8_169 mi_122 ms_122 mp_122 (Nat.le_of_ble_eq_true rfl) rfl rfl ⟨_, _, rfl⟩) rfl (fun b18 hb18 => ?_)
                  refine x_goto 404 dm_124_366 rfl ?_
                  exact im_lsub [(0, .inr (some 0)), (2, .inl y2), (3, .inl y3), (4, .inl y4), (5, .inl y5)] (im_sb_c rfl (im_sb_c rfl (im_sb_c rfl (im_sb_c rfl (im_sb_c rfl im_sb_n))))) (tg_124_404 y2 y3 y4 y5 b18)
              · exact im_lsub [(0, .inr (some 0)), (2, .inl y2), (3, .inl y3), (4, .inl y4), (5, .inl y5)] (im_sb_c rfl (im_sb_c rfl (im_sb_c rfl (im_sb_c rfl (im_sb_c rfl im_sb_n))))) (tg_124_369 y2 y3 y4 y5 M)
  · refine x_iconst (3) dm_124_176 (by decide) ?_
    exact x_iretR dm_124_177 rfl
def gn_124_91 (y1 : Int32) (y2 : Int32) (y3 : Int32) (y4 : Int32) (y5 : Int32) (M : im_M) : Option (Int32 × im_M) :=
  gn_124_169 y1 y2 y3 y4 y5 (0 : Int32) M
set_option maxRecDepth 100000 in
set_option maxHeartbeats 4000000 in
theorem tg_124_91 (y1 : Int32) (y2 : Int32) (y3 : Int32) (y4 : Int32) (y5 : Int32) (M : im_M) : im_Go zR_I 3 fm_124 91 [(0, .inr (some 0)), (1, .inl y1), (2, .inl y2), (3, .inl y3), (4, .inl y4), (5, .inl y5)] [] (st_hR M) (gn_124_91 y1 y2 y3 y4 y5 M) := by
  unfold gn_124_91
  refine x_iconst (0) dm_124_91 (by decide) ?_
  refine x_goto 169 dm_124_92 rfl ?_
  exact im_lsub [(0, .inr (some 0)), (1, .inl y1), (2, .inl y2), (3, .inl y3), (4, .inl y4), (5, .inl y5)] (im_sb_c rfl (im_sb_c rfl (im_sb_c rfl (im_sb_c rfl (im_sb_c rfl (im_sb_c rfl im_sb_n)))))) (tg_124_169 y1 y2 y3 y4 y5 (0 : Int32) M)
def gn_124_135 (y1 : Int32) (y2 : Int32) (y3 : Int32) (y4 : Int32) (y5 : Int32) (M : im_M) : Option (Int32 × im_M) :=
  gn_124_169 y1 y2 y3 y4 y5 (1 : Int32) M
set_option maxRecDepth 100000 in
set_option maxHeartbeats 4000000 in
theorem tg_124_135 (y1 : Int32) (y2 : Int32) (y3 : Int32) (y4 : Int32) (y5 : Int32) (M : im_M) : im_Go zR_I 3 fm_124 135 [(0, .inr (some 0)), (1, .inl y1), (2, .inl y2), (3, .inl y3), (4, .inl y4), (5, .inl y5)] [] (st_hR M) (gn_124_135 y1 y2 y3 y4 y5 M) := by
  unfold gn_124_135
  refine x_iconst (1) dm_124_135 (by decide) ?_
  refine x_goto 169 dm_124_136 rfl ?_
  exact im_lsub [(0, .inr (some 0)), (1, .inl y1), (2, .inl y2), (3, .inl y3), (4, .inl y4), (5, .inl y5)] (im_sb_c rfl (im_sb_c rfl (im_sb_c rfl (im_sb_c rfl (im_sb_c rfl (im_sb_c rfl im_sb_n)))))) (tg_124_169 y1 y2 y3 y4 y5 (1 : Int32) M)
def gn_124_116 (y1 : Int32) (y2 : Int32) (y3 : Int32) (y4 : Int32) (y5 : Int32) (M : im_M) : Option (Int32 × im_M) :=
  if st_ib y3 24 then (if (M 23 (y3).toNatClampNeg) = 0 then (if st_ib y4 24 then (if (M 23 (y4).toNatClampNeg) = 0 then (gn_124_169 y1 y2 y3 y4 y5 (0 : Int32) M) else (gn_124_135 y1 y2 y3 y4 y5 M)) else none) else (gn_124_135 y1 y2 y3 y4 y5 M)) else none
set_option maxRecDepth 100000 in
set_option maxHeartbeats 4000000 in
theorem tg_124_116 (y1 : Int32) (y2 : Int32) (y3 : Int32) (y4 : Int32) (y5 : Int32) (M : im_M) : im_Go zR_I 3 fm_124 116 [(0, .inr (some 0)), (1, .inl y1), (2, .inl y2), (3, .inl y3), (4, .inl y4), (5, .inl y5)] [] (st_hR M) (gn_124_116 y1 y2 y3 y4 y5 M) := by
  unfold gn_124_116
  refine x_aload_n dm_124_116 rfl ?_
  refine x_getRC dm_124_117 fl_8_77 rfl rfl rfl rfl ?_
  refine x_iload_n dm_124_120 rfl ?_
  refine im_chk _ (fun hi1 => ?_)
  refine x_baloadX _ rfl dm_124_121 rfl (mk_in rfl hi1) ?_
  refine x_if_ne 135 dm_124_122 rfl (fun c2 => ?_) (fun c2 => ?_)
  · refine x_aload_n dm_124_125 rfl ?_
    refine x_getRC dm_124_126 fl_8_77 rfl rfl rfl rfl ?_
    refine x_iload dm_124_129 rfl ?_
    refine im_chk _ (fun hi3 => ?_)
    refine x_baloadX _ rfl dm_124_131 rfl (mk_in rfl hi3) ?_
    refine x_if_eq 139 dm_124_132 rfl (fun c4 => ?_) (fun c4 => ?_)
    · refine x_iconst (0) dm_124_139 (by decide) ?_
      refine x_goto 169 dm_124_140 rfl ?_
      exact im_lsub [(0, .inr (some 0)), (1, .inl y1), (2, .inl y2), (3, .inl y3), (4, .inl y4), (5, .inl y5)] (im_sb_c rfl (im_sb_c rfl (im_sb_c rfl (im_sb_c rfl (im_sb_c rfl (im_sb_c rfl im_sb_n)))))) (tg_124_169 y1 y2 y3 y4 y5 (0 : Int32) M)
    · exact im_lsub [(0, .inr (some 0)), (1, .inl y1), (2, .inl y2), (3, .inl y3), (4, .inl y4), (5, .inl y5)] (im_sb_c rfl (im_sb_c rfl (im_sb_c rfl (im_sb_c rfl (im_sb_c rfl (im_sb_c rfl im_sb_n)))))) (tg_124_135 y1 y2 y3 y4 y5 M)
  · exact im_lsub [(0, .inr (some 0)), (1, .inl y1), (2, .inl y2), (3, .inl y3), (4, .inl y4), (5, .inl y5)] (im_sb_c rfl (im_sb_c rfl (im_sb_c rfl (im_sb_c rfl (im_sb_c rfl (im_sb_c rfl im_sb_n)))))) (tg_124_135 y1 y2 y3 y4 y5 M)
def gn_124_168 (y1 : Int32) (y2 : Int32) (y3 : Int32) (y4 : Int32) (y5 : Int32) (M : im_M) : Option (Int32 × im_M) :=
  gn_124_169 y1 y2 y3 y4 y5 (0 : Int32) M
set_option maxRecDepth 100000 in
set_option maxHeartbeats 4000000 in
theorem tg_124_168 (y1 : Int32) (y2 : Int32) (y3 : Int32) (y4 : Int32) (y5 : Int32) (M : im_M) : im_Go zR_I 3 fm_124 168 [(0, .inr (some 0)), (1, .inl y1), (2, .inl y2), (3, .inl y3), (4, .inl y4), (5, .inl y5)] [] (st_hR M) (gn_124_168 y1 y2 y3 y4 y5 M) := by
  unfold gn_124_168
  refine x_iconst (0) dm_124_168 (by decide) ?_
  exact im_lsub [(0, .inr (some 0)), (1, .inl y1), (2, .inl y2), (3, .inl y3), (4, .inl y4), (5, .inl y5)] (im_sb_c rfl (im_sb_c rfl (im_sb_c rfl (im_sb_c rfl (im_sb_c rfl (im_sb_c rfl im_sb_n)))))) (tg_124_169 y1 y2 y3 y4 y5 (0 : Int32) M)
/-- FencedModulesModel.along(I)I -/
def gn_124 (x1 : Int32) (M : im_M) : Option (Int32 × im_M) :=
  if (M 0 16) ≤ (M 0 27) then (some ((2 : Int32), M)) else (if st_ib (M 0 27) 24 then (if (M 15 ((M 0 27)).toNatClampNeg) = 0 then (some ((2 : Int32), M)) else (let v4 : Int32 := (M 15 ((M 0 27)).toNatClampNeg); if st_ib (M 0 27) 24 then (let v6 : Int32 := (M 16 ((M 0 27)).toNatClampNeg); if st_ib (M 0 27) 24 then (let v8 : Int32 := (M 17 ((M 0 27)).toNatClampNeg); if st_ib (M 0 27) 24 then (let v10 : Int32 := (M 18 ((M 0 27)).toNatClampNeg); if v4 = (2 : Int32) then (if st_ib v8 24 then (if (M 23 (v8).toNatClampNeg) = 0 then (gn_124_91 x1 v4 v6 v8 v10 M) else (if v10 = 0 then (gn_124_91 x1 v4 v6 v8 v10 M) else (gn_124_169 x1 v4 v6 v8 v10 (1 : Int32) M))) else none) else ((gn_92 v4 (3 : Int32) (5 : Int32) M).bind fun b15 => if b15.1 = 0 then (if v4 = (10 : Int32) then (gn_124_116 x1 v4 v6 v8 v10 b15.2) else (if v4 = (11 : Int32) then (gn_124_116 x1 v4 v6 v8 v10 b15.2) else ((gn_92 v4 (6 : Int32) (9 : Int32) b15.2).bind fun b19 => if b19.1 = 0 then (gn_124_168 x1 v4 v6 v8 v10 b19.2) else (if st_ib v8 24 then (if (b19.2 23 (v8).toNatClampNeg) = 0 then (gn_124_168 x1 v4 v6 v8 v10 b19.2) else (gn_124_169 x1 v4 v6 v8 v10 (1 : Int32) b19.2)) else none)))) else (gn_124_116 x1 v4 v6 v8 v10 b15.2))) else none) else none) else none)) else none)
set_option maxRecDepth 100000 in
set_option maxHeartbeats 4000000 in
theorem tg_124 (x1 : Int32) (M : im_M) : im_Go zR_I 3 fm_124 0 (im_en 0 [.inr (some 0), .inl x1]) [] (st_hR M) (gn_124 x1 M) := by
  unfold gn_124
  refine x_aload_n dm_124_0 rfl ?_
  refine x_getI dm_124_1 fl_8_173 rfl rfl rfl ?_
  refine x_aload_n dm_124_4 rfl ?_
  refine x_getI dm_124_5 fl_8_89 rfl rfl rfl ?_
  refine x_icmp_ge 23 dm_124_8 rfl (fun c1 => ?_) (fun c1 => ?_)
  · refine x_iconst (2) dm_124_23 (by decide) ?_
    exact x_iretR dm_124_24 rfl
  · refine x_aload_n dm_124_11 rfl ?_
    refine x_getRC dm_124_12 fl_8_52 rfl rfl rfl rfl ?_
    refine x_aload_n dm_124_15 rfl ?_
    refine x_getI dm_124_16 fl_8_173 rfl rfl rfl ?_
    refine im_chk _ (fun hi2 => ?_)
    refine x_ialoadX _ rfl dm_124_19 rfl (mk_in rfl hi2) ?_
    refine x_if_ne 25 dm_124_20 rfl (fun c3 => ?_) (fun c3 => ?_)
    · refine x_iconst (2) dm_124_23 (by decide) ?_
      exact x_iretR dm_124_24 rfl
    · refine x_aload_n dm_124_25 rfl ?_
      refine x_getRC dm_124_26 fl_8_52 rfl rfl rfl rfl ?_
      refine x_aload_n dm_124_29 rfl ?_
      refine x_getI dm_124_30 fl_8_173 rfl rfl rfl ?_
      refine x_ialoadX _ rfl dm_124_33 rfl (mk_in rfl hi2) ?_
      refine x_istore_n dm_124_34 (Nat.le_of_ble_eq_true rfl) ?_
      refine x_aload_n dm_124_35 rfl ?_
      refine x_getRC dm_124_36 fl_8_55 rfl rfl rfl rfl ?_
      refine x_aload_n dm_124_39 rfl ?_
      refine x_getI dm_124_40 fl_8_173 rfl rfl rfl ?_
      refine im_chk _ (fun hi5 => ?_)
      refine x_ialoadX _ rfl dm_124_43 rfl (mk_in rfl hi5) ?_
      refine x_istore_n dm_124_44 (Nat.le_of_ble_eq_true rfl) ?_
      refine x_aload_n dm_124_45 rfl ?_
      refine x_getRC dm_124_46 fl_8_58 rfl rfl rfl rfl ?_
      refine x_aload_n dm_124_49 rfl ?_
      refine x_getI dm_124_50 fl_8_173 rfl rfl rfl ?_
      refine im_chk _ (fun hi7 => ?_)
      refine x_ialoadX _ rfl dm_124_53 rfl (mk_in rfl hi7) ?_
      refine x_istore dm_124_54 (Nat.le_of_ble_eq_true rfl) ?_
      refine x_aload_n dm_124_56 rfl ?_
      refine x_getRC dm_124_57 fl_8_61 rfl rfl rfl rfl ?_
      refine x_aload_n dm_124_60 rfl ?_
      refine x_getI dm_124_61 fl_8_173 rfl rfl rfl ?_
      refine im_chk _ (fun hi9 => ?_)
      refine x_ialoadX _ rfl dm_124_64 rfl (mk_in rfl hi9) ?_
      refine x_istore dm_124_65 (Nat.le_of_ble_eq_true rfl) ?_
      refine x_iload_n dm_124_67 rfl ?_
      refine x_iconst (2) dm_124_68 (by decide) ?_
      refine x_icmp_ne 95 dm_124_69 rfl (fun c11 => ?_) (fun c11 => ?_)
      · refine x_aload_n dm_124_72 rfl ?_
        refine x_getRC dm_124_73 fl_8_77 rfl rfl rfl rfl ?_
        refine x_iload dm_124_76 rfl ?_
        refine im_chk _ (fun hi12 => ?_)
        refine x_baloadX _ rfl dm_124_78 rfl (mk_in rfl hi12) ?_
        refine x_if_eq 91 dm_124_79 rfl (fun c13 => ?_) (fun c13 => ?_)
        · exact im_lsub [(0, .inr (some 0)), (1, .inl x1), (2, .inl _), (3, .inl _), (4, .inl _), (5, .inl _)] (im_sb_c rfl (im_sb_c rfl (im_sb_c rfl (im_sb_c rfl (im_sb_c rfl (im_sb_c rfl im_sb_n)))))) (tg_124_91 x1 _ _ _ _ M)
        · refine x_iload dm_124_82 rfl ?_
          refine x_if_eq 91 dm_124_84 rfl (fun c14 => ?_) (fun c14 => ?_)
          · exact im_lsub [(0, .inr (some 0)), (1, .inl x1), (2, .inl _), (3, .inl _), (4, .inl _), (5, .inl _)] (im_sb_c rfl (im_sb_c rfl (im_sb_c rfl (im_sb_c rfl (im_sb_c rfl (im_sb_c rfl im_sb_n)))))) (tg_124_91 x1 _ _ _ _ M)
          · refine x_iconst (1) dm_124_87 (by decide) ?_
            refine x_goto 169 dm_124_88 rfl ?_
            exact im_lsub [(0, .inr (some 0)), (1, .inl x1), (2, .inl _), (3, .inl _), (4, .inl _), (5, .inl _)] (im_sb_c rfl (im_sb_c rfl (im_sb_c rfl (im_sb_c rfl (im_sb_c rfl (im_sb_c rfl im_sb_n)))))) (tg_124_169 x1 _ _ _ _ (1 : Int32) M)
      · refine x_iload_n dm_124_95 rfl ?_
        refine x_iconst (3) dm_124_96 (by decide) ?_
        refine x_iconst (5) dm_124_97 (by decide) ?_
        refine im_callRI mf_92 rfl (tg_92 _ (3 : Int32) (5 : Int32) M) (im_runS (as := [.inl _, .inl (3 : Int32), .inl (5 : Int32)]) (rest := []) dm_124_98 mf_92 (Nat.le_of_ble_eq_true rfl) ml_8_83 mi_92 mp_92 (Nat.le_of_ble_eq_true rfl)) rfl (fun b15 hb15 => ?_)
        refine x_if_ne 116 dm_124_101 rfl (fun c16 => ?_) (fun c16 => ?_)
        · refine x_iload_n dm_124_104 rfl ?_
          refine x_bipush (10) dm_124_105 (by decide) ?_
          refine x_icmp_eq 116 dm_124_107 rfl (fun c17 => ?_) (fun c17 => ?_)
          · exact im_lsub [(0, .inr (some 0)), (1, .inl x1), (2, .inl _), (3, .inl _), (4, .inl _), (5, .inl _)] (im_sb_c rfl (im_sb_c rfl (im_sb_c rfl (im_sb_c rfl (im_sb_c rfl (im_sb_c rfl im_sb_n)))))) (tg_124_116 x1 _ _ _ _ b15.2)
          · refine x_iload_n dm_124_110 rfl ?_
            refine x_bipush (11) dm_124_111 (by decide) ?_
            refine x_icmp_ne 143 dm_124_113 rfl (fun c18 => ?_) (fun c18 => ?_)
            · exact im_lsub [(0, .inr (some 0)), (1, .inl x1), (2, .inl _), (3, .inl _), (4, .inl _), (5, .inl _)] (im_sb_c rfl (im_sb_c rfl (im_sb_c rfl (im_sb_c rfl (im_sb_c rfl (im_sb_c rfl im_sb_n)))))) (tg_124_116 x1 _ _ _ _ b15.2)
            · refine x_iload_n dm_124_143 rfl ?_
              refine x_bipush (6) dm_124_144 (by decide) ?_
              refine x_bipush (9) dm_124_146 (by decide) ?_
              refine im_callRI mf_92 rfl (tg_92 _ (6 : Int32) (9 : Int32) b15.2) (im_runS (as := [.inl _, .inl (6 : Int32), .inl (9 : Int32)]) (rest := []) dm_124_148 mf_92 (Nat.le_of_ble_eq_true rfl) ml_8_83 mi_92 mp_92 (Nat.le_of_ble_eq_true rfl)) rfl (fun b19 hb19 => ?_)
              refine x_if_eq 168 dm_124_151 rfl (fun c20 => ?_) (fun c20 => ?_)
              · exact im_lsub [(0, .inr (some 0)), (1, .inl x1), (2, .inl _), (3, .inl _), (4, .inl _), (5, .inl _)] (im_sb_c rfl (im_sb_c rfl (im_sb_c rfl (im_sb_c rfl (im_sb_c rfl (im_sb_c rfl im_sb_n)))))) (tg_124_168 x1 _ _ _ _ b19.2)
              · refine x_aload_n dm_124_154 rfl ?_
                refine x_getRC dm_124_155 fl_8_77 rfl rfl rfl rfl ?_
                refine x_iload dm_124_158 rfl ?_
                refine im_chk _ (fun hi21 => ?_)
                refine x_baloadX _ rfl dm_124_160 rfl (mk_in rfl hi21) ?_
                refine x_if_eq 168 dm_124_161 rfl (fun c22 => ?_) (fun c22 => ?_)
                · exact im_lsub [(0, .inr (some 0)), (1, .inl x1), (2, .inl _), (3, .inl _), (4, .inl _), (5, .inl _)] (im_sb_c rfl (im_sb_c rfl (im_sb_c rfl (im_sb_c rfl (im_sb_c rfl (im_sb_c rfl im_sb_n)))))) (tg_124_168 x1 _ _ _ _ b19.2)
                · refine x_iconst (1) dm_124_164 (by decide) ?_
                  refine x_goto 169 dm_124_165 rfl ?_
                  exact im_lsub [(0, .inr (some 0)), (1, .inl x1), (2, .inl _), (3, .inl _), (4, .inl _), (5, .inl _)] (im_sb_c rfl (im_sb_c rfl (im_sb_c rfl (im_sb_c rfl (im_sb_c rfl (im_sb_c rfl im_sb_n)))))) (tg_124_169 x1 _ _ _ _ (1 : Int32) b19.2)
        · exact im_lsub [(0, .inr (some 0)), (1, .inl x1), (2, .inl _), (3, .inl _), (4, .inl _), (5, .inl _)] (im_sb_c rfl (im_sb_c rfl (im_sb_c rfl (im_sb_c rfl (im_sb_c rfl (im_sb_c rfl im_sb_n)))))) (tg_124_116 x1 _ _ _ _ b15.2)
def gn_109_14  : Nat → Int32 → Int32 → im_M → Option (Int32 × im_M)
  | 0, _, _, _ => none
  | n + 1, y1, y2, M =>
    if (M 0 23) ≤ y2 then (some ((-1 : Int32), M)) else ((gn_108 y2 y1 M).bind fun b2 => if b2.1 = 0 then (some (y2, b2.2)) else (let v4 : Int32 := (y2 + (1 : Int32)); gn_109_14 n y1 v4 b2.2))
set_option maxRecDepth 100000 in
set_option maxHeartbeats 4000000 in
theorem tg_109_14  : ∀ (n : Nat) (y1 : Int32) (y2 : Int32) (M : im_M), im_Go zR_I 4 fm_109 14 [(0, .inr (some 0)), (1, .inl y1), (2, .inl y2)] [] (st_hR M) (gn_109_14  n y1 y2 M)
  | 0, y1, y2, M => im_none
  | n + 1, y1, y2, M => by
    have ih := tg_109_14  n
    unfold gn_109_14
    refine x_iload_n dm_109_14 rfl ?_
    refine x_aload_n dm_109_15 rfl ?_
    refine x_getI dm_109_16 fl_8_93 rfl rfl rfl ?_
    refine x_icmp_ge 39 dm_109_19 rfl (fun c1 => ?_) (fun c1 => ?_)
    · refine x_iconst (-1) dm_109_39 (by decide) ?_
      exact x_iretR dm_109_40 rfl
    · refine x_aload_n dm_109_22 rfl ?_
      refine x_iload_n dm_109_23 rfl ?_
      refine x_iload_n dm_109_24 rfl ?_
      refine im_callRI mf_108 rfl (tg_108 y2 y1 M) (im_runV (as := [.inl y2, .inl y1]) (rest := []) dm_109_25 mf_108 (Nat.le_of_ble_eq_true rfl) ml_8_131 mi_108 ms_108 mp_108 (Nat.le_of_ble_eq_true rfl) rfl rfl ⟨_, _, rfl⟩) rfl (fun b2 hb2 => ?_)
      refine x_if_ne 33 dm_109_28 rfl (fun c3 => ?_) (fun c3 => ?_)
      · refine x_iload_n dm_109_31 rfl ?_
        exact x_iretR dm_109_32 rfl
      · refine x_iinc (1) dm_109_33 rfl (by decide) (Nat.le_of_ble_eq_true rfl) ?_
        refine x_goto 14 dm_109_36 rfl ?_
        exact im_lsub [(0, .inr (some 0)), (1, .inl y1), (2, .inl _)] (im_sb_c rfl (im_sb_c rfl (im_sb_c rfl im_sb_n))) (ih y1 _ b2.2)
/-- FencedModulesModel.verify(I)I -/
def gn_109 (x1 : Int32) (M : im_M) : Option (Int32 × im_M) :=
  (gn_92 x1 (0 : Int32) (2 : Int32) M).bind fun b1 => if b1.1 = 0 then (some ((-2 : Int32), b1.2)) else (gn_109_14 1000 x1 (0 : Int32) b1.2)
set_option maxRecDepth 100000 in
set_option maxHeartbeats 4000000 in
theorem tg_109 (x1 : Int32) (M : im_M) : im_Go zR_I 4 fm_109 0 (im_en 0 [.inr (some 0), .inl x1]) [] (st_hR M) (gn_109 x1 M) := by
  unfold gn_109
  refine x_iload_n dm_109_0 rfl ?_
  refine x_iconst (0) dm_109_1 (by decide) ?_
  refine x_iconst (2) dm_109_2 (by decide) ?_
  refine im_callRI mf_92 rfl (tg_92 x1 (0 : Int32) (2 : Int32) M) (im_runS (as := [.inl x1, .inl (0 : Int32), .inl (2 : Int32)]) (rest := []) dm_109_3 mf_92 (Nat.le_of_ble_eq_true rfl) ml_8_83 mi_92 mp_92 (Nat.le_of_ble_eq_true rfl)) rfl (fun b1 hb1 => ?_)
  refine x_if_ne 12 dm_109_6 rfl (fun c2 => ?_) (fun c2 => ?_)
  · refine x_bipush (-2) dm_109_9 (by decide) ?_
    exact x_iretR dm_109_11 rfl
  · refine x_iconst (0) dm_109_12 (by decide) ?_
    refine x_istore_n dm_109_13 (Nat.le_of_ble_eq_true rfl) ?_
    exact im_lsub [(0, .inr (some 0)), (1, .inl x1), (2, .inl (0 : Int32))] (im_sb_c rfl (im_sb_c rfl (im_sb_c rfl im_sb_n))) (tg_109_14 1000 x1 (0 : Int32) b1.2)
