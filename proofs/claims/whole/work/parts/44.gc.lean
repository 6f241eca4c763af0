def gn_140_60 (y2 : Int32) (y3 : Int32) (M : im_M) : Option (Int32 × im_M) :=
  (gn_145 y2 M).bind fun b1 => if b1.1 = (6 : Int32) then (if y3 = 0 then (some ((1 : Int32), b1.2)) else (some ((0 : Int32), b1.2))) else (some ((0 : Int32), b1.2))
set_option maxRecDepth 100000 in
set_option maxHeartbeats 4000000 in
theorem tg_140_60 (y2 : Int32) (y3 : Int32) (M : im_M) : im_Go zC_I 1 fm_140 60 [(2, .inl y2), (3, .inl y3)] [] (st_hC M) (gn_140_60 y2 y3 M) := by
  unfold gn_140_60
  refine x_iload_n dm_140_60 rfl ?_
  refine im_callCI mf_145 rfl (tg_145 y2 M) (im_runS (as := [.inl y2]) (rest := []) dm_140_61 mf_145 (Nat.le_of_ble_eq_true rfl) ml_10_35 mi_145 mp_145 (Nat.le_of_ble_eq_true rfl)) rfl (fun b1 hb1 => ?_)
  refine x_bipush (6) dm_140_64 (by decide) ?_
  refine x_icmp_ne 77 dm_140_66 rfl (fun c2 => ?_) (fun c2 => ?_)
  · refine x_iload_n dm_140_69 rfl ?_
    refine x_if_ne 77 dm_140_70 rfl (fun c3 => ?_) (fun c3 => ?_)
    · refine x_iconst (1) dm_140_73 (by decide) ?_
      refine x_goto 78 dm_140_74 rfl ?_
      exact x_zretC dm_140_78 rfl (by decide)
    · refine x_iconst (0) dm_140_77 (by decide) ?_
      exact x_zretC dm_140_78 rfl (by decide)
  · refine x_iconst (0) dm_140_77 (by decide) ?_
    exact x_zretC dm_140_78 rfl (by decide)
def gn_140_79 (y1 : Int32) (y3 : Int32) (M : im_M) : Option (Int32 × im_M) :=
  if ((y1 + (1 : Int32)) + y3) < 0 then (some ((0 : Int32), M)) else ((gn_7 M).bind fun b2 => if b2.1 ≤ ((y1 + (1 : Int32)) + y3) then (some ((0 : Int32), b2.2)) else (some ((1 : Int32), b2.2)))
set_option maxRecDepth 100000 in
set_option maxHeartbeats 4000000 in
theorem tg_140_79 (y1 : Int32) (y3 : Int32) (M : im_M) : im_Go zC_I 1 fm_140 79 [(0, .inr (some 7)), (1, .inl y1), (3, .inl y3)] [] (st_hC M) (gn_140_79 y1 y3 M) := by
  unfold gn_140_79
  refine x_iload_n dm_140_79 rfl ?_
  refine x_iconst (1) dm_140_80 (by decide) ?_
  refine x_iadd dm_140_81 ?_
  refine x_iload_n dm_140_82 rfl ?_
  refine x_iadd dm_140_83 ?_
  refine x_if_lt 103 dm_140_84 rfl (fun c1 => ?_) (fun c1 => ?_)
  · refine x_iconst (0) dm_140_103 (by decide) ?_
    exact x_zretC dm_140_104 rfl (by decide)
  · refine x_iload_n dm_140_87 rfl ?_
    refine x_iconst (1) dm_140_88 (by decide) ?_
    refine x_iadd dm_140_89 ?_
    refine x_iload_n dm_140_90 rfl ?_
    refine x_iadd dm_140_91 ?_
    refine x_aload_n dm_140_92 rfl ?_
    refine im_callCI mf_7 rfl (tg_7 M) (im_runV (as := []) (rest := [.inl _]) dm_140_93 mf_7 (Nat.le_of_ble_eq_true rfl) ml_10_7 mi_7 ms_7 mp_7 (Nat.le_of_ble_eq_true rfl) rfl rfl ⟨_, _, rfl⟩) rfl (fun b2 hb2 => ?_)
    refine x_icmp_ge 103 dm_140_96 rfl (fun c3 => ?_) (fun c3 => ?_)
    · refine x_iconst (0) dm_140_103 (by decide) ?_
      exact x_zretC dm_140_104 rfl (by decide)
    · refine x_iconst (1) dm_140_99 (by decide) ?_
      refine x_goto 104 dm_140_100 rfl ?_
      exact x_zretC dm_140_104 rfl (by decide)
/-- FencedModules$Verifier.isSafe(LFencedModules$Code;I)Z -/
def gn_140 (x1 : Int32) (M : im_M) : Option (Int32 × im_M) :=
  (gn_8 x1 M).bind fun b1 => (gn_146 b1.1 b1.2).bind fun b2 => (gn_143 b1.1 b2.2).bind fun b3 => if b3.1 = 8 then (gn_140_60 b1.1 b2.1 b3.2) else (if b3.1 = 9 then (gn_140_60 b1.1 b2.1 b3.2) else (if b3.1 = 10 then (gn_140_79 x1 b2.1 b3.2) else (if b3.1 = 11 then (gn_140_79 x1 b2.1 b3.2) else (if b3.1 = 12 then (gn_140_79 x1 b2.1 b3.2) else (if b3.1 = 13 then ((gn_144 b1.1 b3.2).bind fun b10 => if b10.1 = (7 : Int32) then (some ((1 : Int32), b10.2)) else (some ((0 : Int32), b10.2))) else (if b3.1 = 14 then ((gn_10 b2.1 b3.2).bind fun b13 => if b13.1 &&& 1 = b13.1 then some (b13.1, b13.2) else none) else (if b3.1 = 15 then (some ((0 : Int32), b3.2)) else (some ((1 : Int32), b3.2)))))))))
set_option maxRecDepth 100000 in
set_option maxHeartbeats 4000000 in
theorem tg_140 (x1 : Int32) (M : im_M) : im_Go zC_I 1 fm_140 0 (im_en 0 [.inr (some 7), .inl x1]) [] (st_hC M) (gn_140 x1 M) := by
  unfold gn_140
  refine x_aload_n dm_140_0 rfl ?_
  refine x_iload_n dm_140_1 rfl ?_
  refine im_callCI mf_8 rfl (tg_8 x1 M) (im_runV (as := [.inl x1]) (rest := []) dm_140_2 mf_8 (Nat.le_of_ble_eq_true rfl) ml_10_23 mi_8 ms_8 mp_8 (Nat.le_of_ble_eq_true rfl) rfl rfl ⟨_, _, rfl⟩) rfl (fun b1 hb1 => ?_)
  refine x_istore_n dm_140_5 (Nat.le_of_ble_eq_true rfl) ?_
  refine x_iload_n dm_140_6 rfl ?_
  refine im_callCI mf_146 rfl (tg_146 b1.1 b1.2) (im_runS (as := [.inl b1.1]) (rest := []) dm_140_7 mf_146 (Nat.le_of_ble_eq_true rfl) ml_10_27 mi_146 mp_146 (Nat.le_of_ble_eq_true rfl)) rfl (fun b2 hb2 => ?_)
  refine x_istore_n dm_140_10 (Nat.le_of_ble_eq_true rfl) ?_
  refine x_iload_n dm_140_11 rfl ?_
  refine im_callCI mf_143 rfl (tg_143 b1.1 b2.2) (im_runS (as := [.inl b1.1]) (rest := []) dm_140_12 mf_143 (Nat.le_of_ble_eq_true rfl) ml_10_32 mi_143 mp_143 (Nat.le_of_ble_eq_true rfl)) rfl (fun b3 hb3 => ?_)
  refine im_test _ (fun c4 => ?_) (fun c4 => ?_)
  · refine x_tabIn 8 60 dm_140_15 c4 (by decide) (by decide) rfl rfl ?_
    exact im_lsub [(2, .inl b1.1), (3, .inl b2.1)] (im_sb_c rfl (im_sb_c rfl im_sb_n)) (tg_140_60 b1.1 b2.1 b3.2)
  refine im_test _ (fun c5 => ?_) (fun c5 => ?_)
  · refine x_tabIn 9 60 dm_140_15 c5 (by decide) (by decide) rfl rfl ?_
    exact im_lsub [(2, .inl b1.1), (3, .inl b2.1)] (im_sb_c rfl (im_sb_c rfl im_sb_n)) (tg_140_60 b1.1 b2.1 b3.2)
  refine im_test _ (fun c6 => ?_) (fun c6 => ?_)
  · refine x_tabIn 10 79 dm_140_15 c6 (by decide) (by decide) rfl rfl ?_
    exact im_lsub [(0, .inr (some 7)), (1, .inl x1), (3, .inl b2.1)] (im_sb_c rfl (im_sb_c rfl (im_sb_c rfl im_sb_n))) (tg_140_79 x1 b2.1 b3.2)
  refine im_test _ (fun c7 => ?_) (fun c7 => ?_)
  · refine x_tabIn 11 79 dm_140_15 c7 (by decide) (by decide) rfl rfl ?_
    exact im_lsub [(0, .inr (some 7)), (1, .inl x1), (3, .inl b2.1)] (im_sb_c rfl (im_sb_c rfl (im_sb_c rfl im_sb_n))) (tg_140_79 x1 b2.1 b3.2)
  refine im_test _ (fun c8 => ?_) (fun c8 => ?_)
  · refine x_tabIn 12 79 dm_140_15 c8 (by decide) (by decide) rfl rfl ?_
    exact im_lsub [(0, .inr (some 7)), (1, .inl x1), (3, .inl b2.1)] (im_sb_c rfl (im_sb_c rfl (im_sb_c rfl im_sb_n))) (tg_140_79 x1 b2.1 b3.2)
  refine im_test _ (fun c9 => ?_) (fun c9 => ?_)
  · refine x_tabIn 13 105 dm_140_15 c9 (by decide) (by decide) rfl rfl ?_
    refine x_iload_n dm_140_105 rfl ?_
    refine im_callCI mf_144 rfl (tg_144 b1.1 b3.2) (im_runS (as := [.inl b1.1]) (rest := []) dm_140_106 mf_144 (Nat.le_of_ble_eq_true rfl) ml_10_40 mi_144 mp_144 (Nat.le_of_ble_eq_true rfl)) rfl (fun b10 hb10 => ?_)
    refine x_bipush (7) dm_140_109 (by decide) ?_
    refine x_icmp_ne 118 dm_140_111 rfl (fun c11 => ?_) (fun c11 => ?_)
    · refine x_iconst (1) dm_140_114 (by decide) ?_
      refine x_goto 119 dm_140_115 rfl ?_
      exact x_zretC dm_140_119 rfl (by decide)
    · refine x_iconst (0) dm_140_118 (by decide) ?_
      exact x_zretC dm_140_119 rfl (by decide)
  refine im_test _ (fun c12 => ?_) (fun c12 => ?_)
  · refine x_tabIn 14 120 dm_140_15 c12 (by decide) (by decide) rfl rfl ?_
    refine x_iload_n dm_140_120 rfl ?_
    refine im_callCI mf_10 rfl (tg_10 b2.1 b3.2) (im_runS (as := [.inl b2.1]) (rest := []) dm_140_121 mf_10 (Nat.le_of_ble_eq_true rfl) ml_10_43 mi_10 mp_10 (Nat.le_of_ble_eq_true rfl)) rfl (fun b13 hb13 => ?_)
    refine im_chk _ (fun hz14 => ?_)
    exact x_zretC dm_140_124 rfl hz14
  refine im_test _ (fun c15 => ?_) (fun c15 => ?_)
  · refine x_tabIn 15 125 dm_140_15 c15 (by decide) (by decide) rfl rfl ?_
    refine x_iconst (0) dm_140_125 (by decide) ?_
    exact x_zretC dm_140_126 rfl (by decide)
  refine x_tabOut 127 dm_140_15 (im_swout (8) 8 (by decide) (by decide) (fun i hi => match i, hi with | 0, _ => c4 | 1, _ => c5 | 2, _ => c6 | 3, _ => c7 | 4, _ => c8 | 5, _ => c9 | 6, _ => c12 | 7, _ => c15 | i + 8, hi => absurd hi (by omega))) rfl ?_
  refine x_iconst (1) dm_140_127 (by decide) ?_
  exact x_zretC dm_140_128 rfl (by decide)
/-- FencedModules$Verifier.isFenced(LFencedModules$Code;III)Z -/
def gn_142 (x1 : Int32) (x2 : Int32) (x3 : Int32) (M : im_M) : Option (Int32 × im_M) :=
  (gn_8 x1 M).bind fun b1 => (gn_144 b1.1 b1.2).bind fun b2 => (gn_147 (7 : Int32) b2.1 b2.1 x3 b2.2).bind fun b3 => if b1.1 = b3.1 then (some ((1 : Int32), b3.2)) else ((gn_143 b1.1 b3.2).bind fun b5 => if b5.1 = (6 : Int32) then ((gn_146 b1.1 b5.2).bind fun b7 => if b7.1 = x2 then ((gn_8 (x1 + (1 : Int32)) b7.2).bind fun b9 => if b9.1 = b3.1 then (some ((1 : Int32), b9.2)) else (some ((0 : Int32), b9.2))) else (some ((0 : Int32), b7.2))) else (some ((0 : Int32), b5.2)))
set_option maxRecDepth 100000 in
set_option maxHeartbeats 4000000 in
theorem tg_142 (x1 : Int32) (x2 : Int32) (x3 : Int32) (M : im_M) : im_Go zC_I 1 fm_142 0 (im_en 0 [.inr (some 7), .inl x1, .inl x2, .inl x3]) [] (st_hC M) (gn_142 x1 x2 x3 M) := by
  unfold gn_142
  refine x_aload_n dm_142_0 rfl ?_
  refine x_iload_n dm_142_1 rfl ?_
  refine im_callCI mf_8 rfl (tg_8 x1 M) (im_runV (as := [.inl x1]) (rest := []) dm_142_2 mf_8 (Nat.le_of_ble_eq_true rfl) ml_10_23 mi_8 ms_8 mp_8 (Nat.le_of_ble_eq_true rfl) rfl rfl ⟨_, _, rfl⟩) rfl (fun b1 hb1 => ?_)
  refine x_istore dm_142_5 (Nat.le_of_ble_eq_true rfl) ?_
  refine x_iload dm_142_7 rfl ?_
  refine im_callCI mf_144 rfl (tg_144 b1.1 b1.2) (im_runS (as := [.inl b1.1]) (rest := []) dm_142_9 mf_144 (Nat.le_of_ble_eq_true rfl) ml_10_40 mi_144 mp_144 (Nat.le_of_ble_eq_true rfl)) rfl (fun b2 hb2 => ?_)
  refine x_istore dm_142_12 (Nat.le_of_ble_eq_true rfl) ?_
  refine x_bipush (7) dm_142_14 (by decide) ?_
  refine x_iload dm_142_16 rfl ?_
  refine x_iload dm_142_18 rfl ?_
  refine x_iload_n dm_142_20 rfl ?_
  refine im_callCI mf_147 rfl (tg_147 (7 : Int32) b2.1 b2.1 x3 b2.2) (im_runS (as := [.inl (7 : Int32), .inl b2.1, .inl b2.1, .inl x3]) (rest := []) dm_142_21 mf_147 (Nat.le_of_ble_eq_true rfl) ml_10_59 mi_147 mp_147 (Nat.le_of_ble_eq_true rfl)) rfl (fun b3 hb3 => ?_)
  refine x_istore dm_142_24 (Nat.le_of_ble_eq_true rfl) ?_
  refine x_iload dm_142_26 rfl ?_
  refine x_iload dm_142_28 rfl ?_
  refine x_icmp_ne 35 dm_142_30 rfl (fun c4 => ?_) (fun c4 => ?_)
  · refine x_iconst (1) dm_142_33 (by decide) ?_
    exact x_zretC dm_142_34 rfl (by decide)
  · refine x_iload dm_142_35 rfl ?_
    refine im_callCI mf_143 rfl (tg_143 b1.1 b3.2) (im_runS (as := [.inl b1.1]) (rest := []) dm_142_37 mf_143 (Nat.le_of_ble_eq_true rfl) ml_10_32 mi_143 mp_143 (Nat.le_of_ble_eq_true rfl)) rfl (fun b5 hb5 => ?_)
    refine x_bipush (6) dm_142_40 (by decide) ?_
    refine x_icmp_ne 70 dm_142_42 rfl (fun c6 => ?_) (fun c6 => ?_)
    · refine x_iload dm_142_45 rfl ?_
      refine im_callCI mf_146 rfl (tg_146 b1.1 b5.2) (im_runS (as := [.inl b1.1]) (rest := []) dm_142_47 mf_146 (Nat.le_of_ble_eq_true rfl) ml_10_27 mi_146 mp_146 (Nat.le_of_ble_eq_true rfl)) rfl (fun b7 hb7 => ?_)
      refine x_iload_n dm_142_50 rfl ?_
      refine x_icmp_ne 70 dm_142_51 rfl (fun c8 => ?_) (fun c8 => ?_)
      · refine x_aload_n dm_142_54 rfl ?_
        refine x_iload_n dm_142_55 rfl ?_
        refine x_iconst (1) dm_142_56 (by decide) ?_
        refine x_iadd dm_142_57 ?_
        refine im_callCI mf_8 rfl (tg_8 _ b7.2) (im_runV (as := [.inl _]) (rest := []) dm_142_58 mf_8 (Nat.le_of_ble_eq_true rfl) ml_10_23 mi_8 ms_8 mp_8 (Nat.le_of_ble_eq_true rfl) rfl rfl ⟨_, _, rfl⟩) rfl (fun b9 hb9 => ?_)
        refine x_iload dm_142_61 rfl ?_
        refine x_icmp_ne 70 dm_142_63 rfl (fun c10 => ?_) (fun c10 => ?_)
        · refine x_iconst (1) dm_142_66 (by decide) ?_
          refine x_goto 71 dm_142_67 rfl ?_
          exact x_zretC dm_142_71 rfl (by decide)
        · refine x_iconst (0) dm_142_70 (by decide) ?_
          exact x_zretC dm_142_71 rfl (by decide)
      · refine x_iconst (0) dm_142_70 (by decide) ?_
        exact x_zretC dm_142_71 rfl (by decide)
    · refine x_iconst (0) dm_142_70 (by decide) ?_
      exact x_zretC dm_142_71 rfl (by decide)
def gn_21_33 (y1 : Int32) (M : im_M) : Option (Int32 × im_M) :=
  if y1 = (4 : Int32) then ((gn_22 (M 48 1) (M 48 2) M).bind fun b2 => if b2.1 = 0 then (some ((0 : Int32), b2.2)) else (some ((1 : Int32), b2.2))) else (some ((0 : Int32), M))
set_option maxRecDepth 100000 in
set_option maxHeartbeats 4000000 in
theorem tg_21_33 (y1 : Int32) (M : im_M) : im_Go zC_I 2 fm_21 33 [(0, .inr (some 42)), (1, .inl y1)] [] (st_hC M) (gn_21_33 y1 M) := by
  unfold gn_21_33
  refine x_iload_n dm_21_33 rfl ?_
  refine x_iconst (4) dm_21_34 (by decide) ?_
  refine x_icmp_ne 61 dm_21_35 rfl (fun c1 => ?_) (fun c1 => ?_)
  · refine x_aload_n dm_21_38 rfl ?_
    refine x_aload_n dm_21_39 rfl ?_
    refine x_getRC dm_21_40 fl_3_20 rfl rfl rfl rfl ?_
    refine x_iconst (1) dm_21_43 (by decide) ?_
    refine x_ialoadX 1 (by decide) dm_21_44 rfl (mk_in rfl (by decide)) ?_
    refine x_aload_n dm_21_45 rfl ?_
    refine x_getRC dm_21_46 fl_3_20 rfl rfl rfl rfl ?_
    refine x_iconst (2) dm_21_49 (by decide) ?_
    refine x_ialoadX 2 (by decide) dm_21_50 rfl (mk_in rfl (by decide)) ?_
    refine im_callCI mf_22 rfl (tg_22 _ _ M) (im_runV (as := [.inl _, .inl _]) (rest := []) dm_21_51 mf_22 (Nat.le_of_ble_eq_true rfl) ml_3_80 mi_22 ms_22 mp_22 (Nat.le_of_ble_eq_true rfl) rfl rfl ⟨_, _, rfl⟩) rfl (fun b2 hb2 => ?_)
    refine x_if_eq 61 dm_21_54 rfl (fun c3 => ?_) (fun c3 => ?_)
    · refine x_iconst (0) dm_21_61 (by decide) ?_
      exact x_zretC dm_21_62 rfl (by decide)
    · refine x_iconst (1) dm_21_57 (by decide) ?_
      refine x_goto 62 dm_21_58 rfl ?_
      exact x_zretC dm_21_62 rfl (by decide)
  · refine x_iconst (0) dm_21_61 (by decide) ?_
    exact x_zretC dm_21_62 rfl (by decide)
def gn_21_18 (y1 : Int32) (y2 : Int32) (M : im_M) : Option (Int32 × im_M) :=
  if y2 < (2 : Int32) then (gn_21_33 y1 M) else ((gn_23 (2 : Int32) M).bind fun b2 => if b2.1 = 0 then (gn_21_33 y1 b2.2) else (some ((1 : Int32), b2.2)))
set_option maxRecDepth 100000 in
set_option maxHeartbeats 4000000 in
theorem tg_21_18 (y1 : Int32) (y2 : Int32) (M : im_M) : im_Go zC_I 2 fm_21 18 [(0, .inr (some 42)), (1, .inl y1), (2, .inl y2)] [] (st_hC M) (gn_21_18 y1 y2 M) := by
  unfold gn_21_18
  refine x_iload_n dm_21_18 rfl ?_
  refine x_iconst (2) dm_21_19 (by decide) ?_
  refine x_icmp_lt 33 dm_21_20 rfl (fun c1 => ?_) (fun c1 => ?_)
  · exact im_lsub [(0, .inr (some 42)), (1, .inl y1)] (im_sb_c rfl (im_sb_c rfl im_sb_n)) (tg_21_33 y1 M)
  · refine x_aload_n dm_21_23 rfl ?_
    refine x_iconst (2) dm_21_24 (by decide) ?_
    refine im_callCI mf_23 rfl (tg_23 (2 : Int32) M) (im_runV (as := [.inl (2 : Int32)]) (rest := []) dm_21_25 mf_23 (Nat.le_of_ble_eq_true rfl) ml_3_67 mi_23 ms_23 mp_23 (Nat.le_of_ble_eq_true rfl) rfl rfl ⟨_, _, rfl⟩) rfl (fun b2 hb2 => ?_)
    refine x_if_eq 33 dm_21_28 rfl (fun c3 => ?_) (fun c3 => ?_)
    · exact im_lsub [(0, .inr (some 42)), (1, .inl y1)] (im_sb_c rfl (im_sb_c rfl im_sb_n)) (tg_21_33 y1 b2.2)
    · refine x_iconst (1) dm_21_31 (by decide) ?_
      exact x_zretC dm_21_32 rfl (by decide)
/-- FencedModules$Follower.callTakesLabel(I)Z -/
def gn_21 (x1 : Int32) (M : im_M) : Option (Int32 × im_M) :=
  (gn_11 x1 M).bind fun b1 => if b1.1 < (1 : Int32) then (gn_21_18 x1 b1.1 b1.2) else ((gn_23 (1 : Int32) b1.2).bind fun b3 => if b3.1 = 0 then (gn_21_18 x1 b1.1 b3.2) else (some ((1 : Int32), b3.2)))
set_option maxRecDepth 100000 in
set_option maxHeartbeats 4000000 in
theorem tg_21 (x1 : Int32) (M : im_M) : im_Go zC_I 2 fm_21 0 (im_en 0 [.inr (some 42), .inl x1]) [] (st_hC M) (gn_21 x1 M) := by
  unfold gn_21
  refine x_iload_n dm_21_0 rfl ?_
  refine im_callCI mf_11 rfl (tg_11 x1 M) (im_runS (as := [.inl x1]) (rest := []) dm_21_1 mf_11 (Nat.le_of_ble_eq_true rfl) ml_3_77 mi_11 mp_11 (Nat.le_of_ble_eq_true rfl)) rfl (fun b1 hb1 => ?_)
  refine x_istore_n dm_21_4 (Nat.le_of_ble_eq_true rfl) ?_
  refine x_iload_n dm_21_5 rfl ?_
  refine x_iconst (1) dm_21_6 (by decide) ?_
  refine x_icmp_lt 18 dm_21_7 rfl (fun c2 => ?_) (fun c2 => ?_)
  · exact im_lsub [(0, .inr (some 42)), (1, .inl x1), (2, .inl b1.1)] (im_sb_c rfl (im_sb_c rfl (im_sb_c rfl im_sb_n))) (tg_21_18 x1 b1.1 b1.2)
  · refine x_aload_n dm_21_10 rfl ?_
    refine x_iconst (1) dm_21_11 (by decide) ?_
    refine im_callCI mf_23 rfl (tg_23 (1 : Int32) b1.2) (im_runV (as := [.inl (1 : Int32)]) (rest := []) dm_21_12 mf_23 (Nat.le_of_ble_eq_true rfl) ml_3_67 mi_23 ms_23 mp_23 (Nat.le_of_ble_eq_true rfl) rfl rfl ⟨_, _, rfl⟩) rfl (fun b3 hb3 => ?_)
    refine x_if_ne 31 dm_21_15 rfl (fun c4 => ?_) (fun c4 => ?_)
    · exact im_lsub [(0, .inr (some 42)), (1, .inl x1), (2, .inl b1.1)] (im_sb_c rfl (im_sb_c rfl (im_sb_c rfl im_sb_n))) (tg_21_18 x1 b1.1 b3.2)
    · refine x_iconst (1) dm_21_31 (by decide) ?_
      exact x_zretC dm_21_32 rfl (by decide)
def gn_29_134 (k : Nat) (s0 : Int32) (s1 : Int32) (M : im_M) : Option (Int32 × im_M) :=
  (gn_27 s1 s0 M).bind fun b1 => some ((0 : Int32), b1)
set_option maxRecDepth 100000 in
set_option maxHeartbeats 4000000 in
theorem tg_29_134 (k : Nat) (hk : k < 3) (s0 : Int32) (s1 : Int32) (M : im_M) : im_Go zC_I 2 fm_29 134 [] [.inl s0, .inl s1, .inr (some 42)] (st_hC M) (gn_29_134 k s0 s1 M) := by
  unfold gn_29_134
  refine im_callCV mf_27 rfl (tg_27 s1 s0 M) (im_runV (as := [.inl s1, .inl s0]) (rest := []) dm_29_134 mf_27 (Nat.le_of_ble_eq_true rfl) ml_3_110 mi_27 ms_27 mp_27 (Nat.le_of_ble_eq_true rfl) rfl rfl ⟨_, _, rfl⟩) rfl (fun b1 hb1 => ?_)
  refine x_goto 146 dm_29_137 rfl ?_
  refine x_iconst (0) dm_29_146 (by decide) ?_
  exact x_iretC dm_29_147 rfl
/-- FencedModules$Follower.answerCall(LFencedModules$Sandbox;I)I -/
def gn_29 (k : Nat) (x2 : Int32) (M : im_M) : Option (Int32 × im_M) :=
  (gn_14 43 x2 (M 48 1) (M 48 2) M).bind fun b1 => if x2 = 0 then (some ((1 : Int32), b1)) else (if x2 = 1 then ((gn_27 (1 : Int32) (0 : Int32) b1).bind fun b4 => some ((0 : Int32), b4)) else (if x2 = 2 then ((gn_16 43 k b1).bind fun b6 => (gn_27 (1 : Int32) b6.1 b6.2).bind fun b7 => some ((0 : Int32), b7)) else (if x2 = 3 then ((gn_15 43 (b1 48 1) b1).bind fun b9 => (gn_27 (1 : Int32) b9.1 b9.2).bind fun b10 => some ((0 : Int32), b10)) else (if x2 = 4 then ((gn_12 (b1 48 1) (b1 48 2) b1).bind fun b12 => if b12.1 = 0 then (gn_29_134 k (-1 : Int32) (1 : Int32) b12.2) else (gn_29_134 k (b12.2 48 2) (1 : Int32) b12.2)) else ((gn_27 (1 : Int32) (-1 : Int32) b1).bind fun b14 => some ((0 : Int32), b14))))))
set_option maxRecDepth 100000 in
set_option maxHeartbeats 4000000 in
theorem tg_29 (k : Nat) (hk : k < 3) (x2 : Int32) (M : im_M) : im_Go zC_I 2 fm_29 0 (im_en 0 [.inr (some 42), .inr (some (12 + 10 * k)), .inl x2]) [] (st_hC M) (gn_29 k x2 M) := by
  unfold gn_29
  refine x_aload_n dm_29_0 rfl ?_
  refine x_getRC dm_29_1 fl_3_16 rfl rfl rfl rfl ?_
  refine x_iload_n dm_29_4 rfl ?_
  refine x_aload_n dm_29_5 rfl ?_
  refine x_getRC dm_29_6 fl_3_20 rfl rfl rfl rfl ?_
  refine x_iconst (1) dm_29_9 (by decide) ?_
  refine x_ialoadX 1 (by decide) dm_29_10 rfl (mk_in rfl (by decide)) ?_
  refine x_aload_n dm_29_11 rfl ?_
  refine x_getRC dm_29_12 fl_3_20 rfl rfl rfl rfl ?_
  refine x_iconst (2) dm_29_15 (by decide) ?_
  refine x_ialoadX 2 (by decide) dm_29_16 rfl (mk_in rfl (by decide)) ?_
  refine im_callCV mf_14 rfl (tg_14 43 dk_F x2 _ _ M) (im_runV (as := [.inl x2, .inl _, .inl _]) (rest := []) dm_29_17 mf_14 (Nat.le_of_ble_eq_true rfl) ml_3_113 mi_14 ms_14 mp_14 (Nat.le_of_ble_eq_true rfl) rfl (kc_D dk_F) ⟨_, _, rfl⟩) rfl (fun b1 hb1 => ?_)
  refine x_iload_n dm_29_20 rfl ?_
  refine im_test _ (fun c2 => ?_) (fun c2 => ?_)
  · refine x_tabIn 0 56 dm_29_21 c2 (by decide) (by decide) rfl rfl ?_
    refine x_iconst (1) dm_29_56 (by decide) ?_
    exact x_iretC dm_29_57 rfl
  refine im_test _ (fun c3 => ?_) (fun c3 => ?_)
  · refine x_tabIn 1 58 dm_29_21 c3 (by decide) (by decide) rfl rfl ?_
    refine x_aload_n dm_29_58 rfl ?_
    refine x_iconst (1) dm_29_59 (by decide) ?_
    refine x_iconst (0) dm_29_60 (by decide) ?_
    refine im_callCV mf_27 rfl (tg_27 (1 : Int32) (0 : Int32) b1) (im_runV (as := [.inl (1 : Int32), .inl (0 : Int32)]) (rest := []) dm_29_61 mf_27 (Nat.le_of_ble_eq_true rfl) ml_3_110 mi_27 ms_27 mp_27 (Nat.le_of_ble_eq_true rfl) rfl rfl ⟨_, _, rfl⟩) rfl (fun b4 hb4 => ?_)
    refine x_goto 146 dm_29_64 rfl ?_
    refine x_iconst (0) dm_29_146 (by decide) ?_
    exact x_iretC dm_29_147 rfl
  refine im_test _ (fun c5 => ?_) (fun c5 => ?_)
  · refine x_tabIn 2 67 dm_29_21 c5 (by decide) (by decide) rfl rfl ?_
    refine x_aload_n dm_29_67 rfl ?_
    refine x_iconst (1) dm_29_68 (by decide) ?_
    refine x_aload_n dm_29_69 rfl ?_
    refine x_getRC dm_29_70 fl_3_16 rfl rfl rfl rfl ?_
    refine x_aload_n dm_29_73 rfl ?_
    refine im_callCI mf_16 rfl (tg_16 43 k dk_F hk b1) (im_runV (as := [.inr (some (12 + 10 * k))]) (rest := [.inl (1 : Int32), .inr (some 42)]) dm_29_74 mf_16 (Nat.le_of_ble_eq_true rfl) ml_3_117 mi_16 ms_16 mp_16 (Nat.le_of_ble_eq_true rfl) rfl (kc_D dk_F) ⟨_, _, rfl⟩) rfl (fun b6 hb6 => ?_)
    refine im_callCV mf_27 rfl (tg_27 (1 : Int32) b6.1 b6.2) (im_runV (as := [.inl (1 : Int32), .inl b6.1]) (rest := []) dm_29_77 mf_27 (Nat.le_of_ble_eq_true rfl) ml_3_110 mi_27 ms_27 mp_27 (Nat.le_of_ble_eq_true rfl) rfl rfl ⟨_, _, rfl⟩) rfl (fun b7 hb7 => ?_)
    refine x_goto 146 dm_29_80 rfl ?_
    refine x_iconst (0) dm_29_146 (by decide) ?_
    exact x_iretC dm_29_147 rfl
  refine im_test _ (fun c8 => ?_) (fun c8 => ?_)
  · refine x_tabIn 3 83 dm_29_21 c8 (by decide) (by decide) rfl rfl ?_
    refine x_aload_n dm_29_83 rfl ?_
    refine x_iconst (1) dm_29_84 (by decide) ?_
    refine x_aload_n dm_29_85 rfl ?_
    refine x_getRC dm_29_86 fl_3_16 rfl rfl rfl rfl ?_
    refine x_aload_n dm_29_89 rfl ?_
    refine x_getRC dm_29_90 fl_3_20 rfl rfl rfl rfl ?_
    refine x_iconst (1) dm_29_93 (by decide) ?_
    refine x_ialoadX 1 (by decide) dm_29_94 rfl (mk_in rfl (by decide)) ?_
    refine im_callCI mf_15 rfl (tg_15 43 dk_F _ b1) (im_runV (as := [.inl _]) (rest := [.inl (1 : Int32), .inr (some 42)]) dm_29_95 mf_15 (Nat.le_of_ble_eq_true rfl) ml_3_121 mi_15 ms_15 mp_15 (Nat.le_of_ble_eq_true rfl) rfl (kc_D dk_F) ⟨_, _, rfl⟩) rfl (fun b9 hb9 => ?_)
    refine im_callCV mf_27 rfl (tg_27 (1 : Int32) b9.1 b9.2) (im_runV (as := [.inl (1 : Int32), .inl b9.1]) (rest := []) dm_29_98 mf_27 (Nat.le_of_ble_eq_true rfl) ml_3_110 mi_27 ms_27 mp_27 (Nat.le_of_ble_eq_true rfl) rfl rfl ⟨_, _, rfl⟩) rfl (fun b10 hb10 => ?_)
    refine x_goto 146 dm_29_101 rfl ?_
    refine x_iconst (0) dm_29_146 (by decide) ?_
    exact x_iretC dm_29_147 rfl
  refine im_test _ (fun c11 => ?_) (fun c11 => ?_)
  · refine x_tabIn 4 104 dm_29_21 c11 (by decide) (by decide) rfl rfl ?_
    refine x_aload_n dm_29_104 rfl ?_
    refine x_iconst (1) dm_29_105 (by decide) ?_
    refine x_aload_n dm_29_106 rfl ?_
    refine x_getRC dm_29_107 fl_3_20 rfl rfl rfl rfl ?_
    refine x_iconst (1) dm_29_110 (by decide) ?_
    refine x_ialoadX 1 (by decide) dm_29_111 rfl (mk_in rfl (by decide)) ?_
    refine x_aload_n dm_29_112 rfl ?_
    refine x_getRC dm_29_113 fl_3_20 rfl rfl rfl rfl ?_
    refine x_iconst (2) dm_29_116 (by decide) ?_
    refine x_ialoadX 2 (by decide) dm_29_117 rfl (mk_in rfl (by decide)) ?_
    refine im_callCI mf_12 rfl (tg_12 _ _ b1) (im_runS (as := [.inl _, .inl _]) (rest := [.inl (1 : Int32), .inr (some 42)]) dm_29_118 mf_12 (Nat.le_of_ble_eq_true rfl) ml_3_84 mi_12 mp_12 (Nat.le_of_ble_eq_true rfl)) rfl (fun b12 hb12 => ?_)
    refine x_if_eq 133 dm_29_121 rfl (fun c13 => ?_) (fun c13 => ?_)
    · refine x_iconst (-1) dm_29_133 (by decide) ?_
      exact im_lsub [] im_sb_n (tg_29_134 k hk (-1 : Int32) (1 : Int32) b12.2)
    · refine x_aload_n dm_29_124 rfl ?_
      refine x_getRC dm_29_125 fl_3_20 rfl rfl rfl rfl ?_
      refine x_iconst (2) dm_29_128 (by decide) ?_
      refine x_ialoadX 2 (by decide) dm_29_129 rfl (mk_in rfl (by decide)) ?_
      refine x_goto 134 dm_29_130 rfl ?_
      exact im_lsub [] im_sb_n (tg_29_134 k hk _ (1 : Int32) b12.2)
  refine x_tabOut 140 dm_29_21 (im_swout (0) 5 (by decide) (by decide) (fun i hi => match i, hi with | 0, _ => c2 | 1, _ => c3 | 2, _ => c5 | 3, _ => c8 | 4, _ => c11 | i + 5, hi => absurd hi (by omega))) rfl ?_
  refine x_aload_n dm_29_140 rfl ?_
  refine x_iconst (1) dm_29_141 (by decide) ?_
  refine x_iconst (-1) dm_29_142 (by decide) ?_
  refine im_callCV mf_27 rfl (tg_27 (1 : Int32) (-1 : Int32) b1) (im_runV (as := [.inl (1 : Int32), .inl (-1 : Int32)]) (rest := []) dm_29_143 mf_27 (Nat.le_of_ble_eq_true rfl) ml_3_110 mi_27 ms_27 mp_27 (Nat.le_of_ble_eq_true rfl) rfl rfl ⟨_, _, rfl⟩) rfl (fun b14 hb14 => ?_)
  refine x_iconst (0) dm_29_146 (by decide) ?_
  exact x_iretC dm_29_147 rfl
def gn_36_45 (r7 : Int32 → Int32 → im_M → Option (Option Nat × im_M)) (y1 : Int32) (y2 : Int32) (M : im_M) : Option (Option Nat × im_M) :=
  (gn_39 y1 M).bind fun b1 => let v2 : Int32 := (y2 + (1 : Int32)); r7 b1.1 v2 b1.2
set_option maxRecDepth 100000 in
set_option maxHeartbeats 4000000 in
theorem tg_36_45 (r7 : Int32 → Int32 → im_M → Option (Option Nat × im_M)) (hr7 : ∀ (y1 : Int32) (y2 : Int32) (M : im_M), im_Go zC_R 2 fm_36 7 [(0, .inr (some 9)), (1, .inl y1), (2, .inl y2)] [] (st_hC M) (r7 y1 y2 M)) (y1 : Int32) (y2 : Int32) (M : im_M) : im_Go zC_R 2 fm_36 45 [(0, .inr (some 9)), (1, .inl y1), (2, .inl y2)] [] (st_hC M) (gn_36_45 r7 y1 y2 M) := by
  unfold gn_36_45
  refine x_iload_n dm_36_45 rfl ?_
  refine im_callCI mf_39 rfl (tg_39 y1 M) (im_runS (as := [.inl y1]) (rest := []) dm_36_46 mf_39 (Nat.le_of_ble_eq_true rfl) ml_4_73 mi_39 mp_39 (Nat.le_of_ble_eq_true rfl)) rfl (fun b1 hb1 => ?_)
  refine x_istore_n dm_36_49 (Nat.le_of_ble_eq_true rfl) ?_
  refine x_iinc (1) dm_36_50 rfl (by decide) (Nat.le_of_ble_eq_true rfl) ?_
  refine x_goto 7 dm_36_53 rfl ?_
  exact im_lsub [(0, .inr (some 9)), (1, .inl b1.1), (2, .inl _)] (im_sb_c rfl (im_sb_c rfl (im_sb_c rfl im_sb_n))) (hr7 b1.1 _ b1.2)
def gn_36_43 (k3 : Nat) (M : im_M) : Option (Option Nat × im_M) :=
  some (some (12 + 10 * k3), M)
set_option maxRecDepth 100000 in
set_option maxHeartbeats 4000000 in
theorem tg_36_43 (k3 : Nat) (M : im_M) (hk3 : k3 < 3) : im_Go zC_R 2 fm_36 43 [(3, .inr (some (12 + 10 * k3)))] [] (st_hC M) (gn_36_43 k3 M) := by
  unfold gn_36_43
  refine x_aload_n dm_36_43 rfl ?_
  exact x_aretC dm_36_44 rfl
def gn_36_7  : Nat → Int32 → Int32 → im_M → Option (Option Nat × im_M)
  | 0, _, _, _ => none
  | n + 1, y1, y2, M =>
    if (3 : Int32) ≤ y2 then (some (none, M)) else (if y1 < 0 then (gn_36_45 (gn_36_7 n) y1 y2 M) else (if 3 ≤ y1 then (gn_36_45 (gn_36_7 n) y1 y2 M) else (if (M (12 + 10 * (y1).toNatClampNeg) 6) = (1 : Int32) then (if y1 = (M 9 2) then (gn_36_43 (y1).toNatClampNeg M) else ((gn_38 y1 M).bind fun b6 => gn_36_43 (y1).toNatClampNeg b6)) else (gn_36_45 (gn_36_7 n) y1 y2 M))))
set_option maxRecDepth 100000 in
set_option maxHeartbeats 4000000 in
theorem tg_36_7  : ∀ (n : Nat) (y1 : Int32) (y2 : Int32) (M : im_M), im_Go zC_R 2 fm_36 7 [(0, .inr (some 9)), (1, .inl y1), (2, .inl y2)] [] (st_hC M) (gn_36_7  n y1 y2 M)
  | 0, y1, y2, M => im_none
  | n + 1, y1, y2, M => by
    have ih := tg_36_7  n
    unfold gn_36_7
    refine x_iload_n dm_36_7 rfl ?_
    refine x_iconst (3) dm_36_8 (by decide) ?_
    refine x_icmp_ge 56 dm_36_9 rfl (fun c1 => ?_) (fun c1 => ?_)
    · refine x_null dm_36_56 ?_
      exact x_aretC dm_36_57 rfl
    · refine x_aload_n dm_36_12 rfl ?_
      refine x_iload_n dm_36_13 rfl ?_
      refine im_test _ (fun c2 => ?_) (fun c2 => ?_)
      · refine im_callK mf_31 rfl (tg_31_n _ (Or.inl c2) _) (im_runV (as := [.inl y1]) (rest := []) dm_36_14 mf_31 (Nat.le_of_ble_eq_true rfl) ml_4_26 mi_31 ms_31 mp_31 (Nat.le_of_ble_eq_true rfl) rfl rfl ⟨_, _, rfl⟩) rfl ?_
        refine x_astore_n dm_36_17 (Nat.le_of_ble_eq_true rfl) ?_
        refine x_aload_n dm_36_18 rfl ?_
        refine x_ifnull_n 45 dm_36_19 rfl ?_
        exact im_lsub [(0, .inr (some 9)), (1, .inl y1), (2, .inl y2)] (im_sb_c rfl (im_sb_c rfl (im_sb_c rfl im_sb_n))) (tg_36_45 (gn_36_7 n) ih y1 y2 M)
      refine im_test _ (fun c3 => ?_) (fun c3 => ?_)
      · refine im_callK mf_31 rfl (tg_31_n _ (Or.inr c3) _) (im_runV (as := [.inl y1]) (rest := []) dm_36_14 mf_31 (Nat.le_of_ble_eq_true rfl) ml_4_26 mi_31 ms_31 mp_31 (Nat.le_of_ble_eq_true rfl) rfl rfl ⟨_, _, rfl⟩) rfl ?_
        refine x_astore_n dm_36_17 (Nat.le_of_ble_eq_true rfl) ?_
        refine x_aload_n dm_36_18 rfl ?_
        refine x_ifnull_n 45 dm_36_19 rfl ?_
        exact im_lsub [(0, .inr (some 9)), (1, .inl y1), (2, .inl y2)] (im_sb_c rfl (im_sb_c rfl (im_sb_c rfl im_sb_n))) (tg_36_45 (gn_36_7 n) ih y1 y2 M)
      refine im_callK mf_31 rfl (tg_31_s _ c2 c3 _) (im_runV (as := [.inl y1]) (rest := []) dm_36_14 mf_31 (Nat.le_of_ble_eq_true rfl) ml_4_26 mi_31 ms_31 mp_31 (Nat.le_of_ble_eq_true rfl) rfl rfl ⟨_, _, rfl⟩) rfl ?_
      refine x_astore_n dm_36_17 (Nat.le_of_ble_eq_true rfl) ?_
      refine x_aload_n dm_36_18 rfl ?_
      refine x_ifnull_s 45 dm_36_19 rfl ?_
      refine x_aload_n dm_36_22 rfl ?_
      refine x_getI dm_36_23 fl_4_67 rfl rfl (kc_S0 (st_ix3 c2 c3)) ?_
      refine x_iconst (1) dm_36_26 (by decide) ?_
      refine x_icmp_ne 45 dm_36_27 rfl (fun c4 => ?_) (fun c4 => ?_)
      · refine x_iload_n dm_36_30 rfl ?_
        refine x_aload_n dm_36_31 rfl ?_
        refine x_getI dm_36_32 fl_4_49 rfl rfl rfl ?_
        refine x_icmp_eq 43 dm_36_35 rfl (fun c5 => ?_) (fun c5 => ?_)
        · exact im_lsub [(3, .inr (some (12 + 10 * _)))] (im_sb_c rfl im_sb_n) (tg_36_43 _ M (st_ix3 c2 c3))
        · refine x_aload_n dm_36_38 rfl ?_
          refine x_iload_n dm_36_39 rfl ?_
          refine im_callCV mf_38 rfl (tg_38 y1 M) (im_runV (as := [.inl y1]) (rest := []) dm_36_40 mf_38 (Nat.le_of_ble_eq_true rfl) ml_4_70 mi_38 ms_38 mp_38 (Nat.le_of_ble_eq_true rfl) rfl rfl ⟨_, _, rfl⟩) rfl (fun b6 hb6 => ?_)
          exact im_lsub [(3, .inr (some (12 + 10 * _)))] (im_sb_c rfl im_sb_n) (tg_36_43 _ b6 (st_ix3 c2 c3))
      · exact im_lsub [(0, .inr (some 9)), (1, .inl y1), (2, .inl y2)] (im_sb_c rfl (im_sb_c rfl (im_sb_c rfl im_sb_n))) (tg_36_45 (gn_36_7 n) ih y1 y2 M)
/-- FencedModules$Machine.nextToStep()LFencedModules$Sandbox; -/
def gn_36 (M : im_M) : Option (Option Nat × im_M) :=
  let v1 : Int32 := (M 9 2); gn_36_7 1000 v1 (0 : Int32) M
set_option maxRecDepth 100000 in
set_option maxHeartbeats 4000000 in
theorem tg_36 (M : im_M) : im_Go zC_R 2 fm_36 0 (im_en 0 [.inr (some 9)]) [] (st_hC M) (gn_36 M) := by
  unfold gn_36
  refine x_aload_n dm_36_0 rfl ?_
  refine x_getI dm_36_1 fl_4_49 rfl rfl rfl ?_
  refine x_istore_n dm_36_4 (Nat.le_of_ble_eq_true rfl) ?_
  refine x_iconst (0) dm_36_5 (by decide) ?_
  refine x_istore_n dm_36_6 (Nat.le_of_ble_eq_true rfl) ?_
  exact im_lsub [(0, .inr (some 9)), (1, .inl _), (2, .inl (0 : Int32))] (im_sb_c rfl (im_sb_c rfl (im_sb_c rfl im_sb_n))) (tg_36_7 1000 _ (0 : Int32) M)
/-- FencedModules$Machine.send(II)I -/
def gn_43 (x1 : Int32) (x2 : Int32) (M : im_M) : Option (Int32 × im_M) :=
  if x1 < 0 then (some ((-1 : Int32), M)) else (if 3 ≤ x1 then (some ((-1 : Int32), M)) else (if (M (12 + 10 * (x1).toNatClampNeg) 6) = 0 then (some ((-1 : Int32), M)) else ((gn_51 (x1).toNatClampNeg x2 M).bind fun b4 => if b4.1 = 0 then (some ((-1 : Int32), b4.2)) else (some ((0 : Int32), b4.2)))))
set_option maxRecDepth 100000 in
set_option maxHeartbeats 4000000 in
theorem tg_43 (x1 : Int32) (x2 : Int32) (M : im_M) : im_Go zC_I 2 fm_43 0 (im_en 0 [.inr (some 9), .inl x1, .inl x2]) [] (st_hC M) (gn_43 x1 x2 M) := by
  unfold gn_43
  refine x_aload_n dm_43_0 rfl ?_
  refine x_iload_n dm_43_1 rfl ?_
  refine im_test _ (fun c1 => ?_) (fun c1 => ?_)
  · refine im_callK mf_31 rfl (tg_31_n _ (Or.inl c1) _) (im_runV (as := [.inl x1]) (rest := []) dm_43_2 mf_31 (Nat.le_of_ble_eq_true rfl) ml_4_26 mi_31 ms_31 mp_31 (Nat.le_of_ble_eq_true rfl) rfl rfl ⟨_, _, rfl⟩) rfl ?_
    refine x_astore_n dm_43_5 (Nat.le_of_ble_eq_true rfl) ?_
    refine x_aload_n dm_43_6 rfl ?_
    refine x_ifnull_n 29 dm_43_7 rfl ?_
    refine x_iconst (-1) dm_43_29 (by decide) ?_
    exact x_iretC dm_43_30 rfl
  refine im_test _ (fun c2 => ?_) (fun c2 => ?_)
  · refine im_callK mf_31 rfl (tg_31_n _ (Or.inr c2) _) (im_runV (as := [.inl x1]) (rest := []) dm_43_2 mf_31 (Nat.le_of_ble_eq_true rfl) ml_4_26 mi_31 ms_31 mp_31 (Nat.le_of_ble_eq_true rfl) rfl rfl ⟨_, _, rfl⟩) rfl ?_
    refine x_astore_n dm_43_5 (Nat.le_of_ble_eq_true rfl) ?_
    refine x_aload_n dm_43_6 rfl ?_
    refine x_ifnull_n 29 dm_43_7 rfl ?_
    refine x_iconst (-1) dm_43_29 (by decide) ?_
    exact x_iretC dm_43_30 rfl
  refine im_callK mf_31 rfl (tg_31_s _ c1 c2 _) (im_runV (as := [.inl x1]) (rest := []) dm_43_2 mf_31 (Nat.le_of_ble_eq_true rfl) ml_4_26 mi_31 ms_31 mp_31 (Nat.le_of_ble_eq_true rfl) rfl rfl ⟨_, _, rfl⟩) rfl ?_
  refine x_astore_n dm_43_5 (Nat.le_of_ble_eq_true rfl) ?_
  refine x_aload_n dm_43_6 rfl ?_
  refine x_ifnull_s 29 dm_43_7 rfl ?_
  refine x_aload_n dm_43_10 rfl ?_
  refine x_getI dm_43_11 fl_4_67 rfl rfl (kc_S0 (st_ix3 c1 c2)) ?_
  refine x_if_eq 29 dm_43_14 rfl (fun c3 => ?_) (fun c3 => ?_)
  · refine x_iconst (-1) dm_43_29 (by decide) ?_
    exact x_iretC dm_43_30 rfl
  · refine x_aload_n dm_43_17 rfl ?_
    refine x_iload_n dm_43_18 rfl ?_
    refine im_callCI mf_51 rfl (tg_51 _ (st_ix3 c1 c2) x2 M) (im_runV (as := [.inl x2]) (rest := []) dm_43_19 mf_51 (Nat.le_of_ble_eq_true rfl) ml_4_153 mi_51 ms_51 mp_51 (Nat.le_of_ble_eq_true rfl) rfl (kc_S0 (st_ix3 c1 c2)) ⟨_, _, rfl⟩) rfl (fun b4 hb4 => ?_)
    refine x_if_eq 29 dm_43_22 rfl (fun c5 => ?_) (fun c5 => ?_)
    · refine x_iconst (-1) dm_43_29 (by decide) ?_
      exact x_iretC dm_43_30 rfl
    · refine x_iconst (0) dm_43_25 (by decide) ?_
      refine x_goto 30 dm_43_26 rfl ?_
      exact x_iretC dm_43_30 rfl
/-- FencedModules$Sandbox.start()V -/
def gn_48 (k : Nat) (M : im_M) : Option (im_M) :=
  (gn_150 (13 + 10 * k) 8 (0 : Int32) M).bind fun b1 => (gn_46 (b1 (12 + 10 * k) 0) b1).bind fun b2 => let M3 : im_M := im_u b2.2 (13 + 10 * k) 6 b2.1; (gn_47 (M3 (12 + 10 * k) 0) M3).bind fun b4 => let M5 : im_M := im_u b4.2 (13 + 10 * k) 7 b4.1; (gn_47 (M5 (12 + 10 * k) 0) M5).bind fun b6 => let M7 : im_M := im_u b6.2 (12 + 10 * k) 5 b6.1; let M8 : im_M := im_u M7 (12 + 10 * k) 6 (1 : Int32); let M9 : im_M := im_u M8 (12 + 10 * k) 4 (0 : Int32); let M10 : im_M := im_u M9 (12 + 10 * k) 9 (0 : Int32); let M11 : im_M := im_u M10 (12 + 10 * k) 10 (0 : Int32); (gn_13 (15 + 10 * k) M11).bind fun b12 => some b12
set_option maxRecDepth 100000 in
set_option maxHeartbeats 4000000 in
theorem tg_48 (k : Nat) (hk : k < 3) (M : im_M) : im_Go zC_V 2 fm_48 0 (im_en 0 [.inr (some (12 + 10 * k))]) [] (st_hC M) (gn_48 k M) := by
  unfold gn_48
  refine x_aload_n dm_48_0 rfl ?_
  refine x_getRC dm_48_1 fl_5_9 rfl rfl (kc_S0 hk) (rc_S1 hk) ?_
  refine x_iconst (0) dm_48_4 (by decide) ?_
  refine im_callCV mf_150 rfl (tg_150 (13 + 10 * k) 8 (kc_S1 hk) (0 : Int32) M) (im_runS (as := [.inr (some (13 + 10 * k)), .inl (0 : Int32)]) (rest := []) dm_48_5 mf_150 (Nat.le_of_ble_eq_true rfl) ml_5_33 mi_150 mp_150 (Nat.le_of_ble_eq_true rfl)) rfl (fun b1 hb1 => ?_)
  refine x_aload_n dm_48_8 rfl ?_
  refine x_getRC dm_48_9 fl_5_9 rfl rfl (kc_S0 hk) (rc_S1 hk) ?_
  refine x_bipush (6) dm_48_12 (by decide) ?_
  refine x_aload_n dm_48_14 rfl ?_
  refine x_getI dm_48_15 fl_5_29 rfl rfl (kc_S0 hk) ?_
  refine im_callCI mf_46 rfl (tg_46 _ b1) (im_runS (as := [.inl _]) (rest := [.inl (6 : Int32), .inr (some (13 + 10 * k))]) dm_48_18 mf_46 (Nat.le_of_ble_eq_true rfl) ml_5_39 mi_46 mp_46 (Nat.le_of_ble_eq_true rfl)) rfl (fun b2 hb2 => ?_)
  refine x_iastoreC 6 (by decide) dm_48_21 rfl (mk_in (kc_S1 hk) (by decide)) ?_
  refine x_aload_n dm_48_22 rfl ?_
  refine x_getRC dm_48_23 fl_5_9 rfl rfl (kc_S0 hk) (rc_S1 hk) ?_
  refine x_bipush (7) dm_48_26 (by decide) ?_
  refine x_aload_n dm_48_28 rfl ?_
  refine x_getI dm_48_29 fl_5_29 rfl rfl (kc_S0 hk) ?_
  refine im_callCI mf_47 rfl (tg_47 _ _) (im_runS (as := [.inl _]) (rest := [.inl (7 : Int32), .inr (some (13 + 10 * k))]) dm_48_32 mf_47 (Nat.le_of_ble_eq_true rfl) ml_5_43 mi_47 mp_47 (Nat.le_of_ble_eq_true rfl)) rfl (fun b4 hb4 => ?_)
  refine x_iastoreC 7 (by decide) dm_48_35 rfl (mk_in (kc_S1 hk) (by decide)) ?_
  refine x_aload_n dm_48_36 rfl ?_
  refine x_aload_n dm_48_37 rfl ?_
  refine x_getI dm_48_38 fl_5_29 rfl rfl (kc_S0 hk) ?_
  refine im_callCI mf_47 rfl (tg_47 _ _) (im_runS (as := [.inl _]) (rest := [.inr (some (12 + 10 * k))]) dm_48_41 mf_47 (Nat.le_of_ble_eq_true rfl) ml_5_43 mi_47 mp_47 (Nat.le_of_ble_eq_true rfl)) rfl (fun b6 hb6 => ?_)
  refine x_putIC dm_48_44 fl_5_46 rfl rfl (kc_S0 hk) ?_
  refine x_aload_n dm_48_47 rfl ?_
  refine x_iconst (1) dm_48_48 (by decide) ?_
  refine x_putIC dm_48_49 fl_5_49 rfl rfl (kc_S0 hk) ?_
  refine x_aload_n dm_48_52 rfl ?_
  refine x_iconst (0) dm_48_53 (by decide) ?_
  refine x_putIC dm_48_54 fl_5_52 rfl rfl (kc_S0 hk) ?_
  refine x_aload_n dm_48_57 rfl ?_
  refine x_iconst (0) dm_48_58 (by decide) ?_
  refine x_putIC dm_48_59 fl_5_55 rfl rfl (kc_S0 hk) ?_
  refine x_aload_n dm_48_62 rfl ?_
  refine x_iconst (0) dm_48_63 (by decide) ?_
  refine x_putIC dm_48_64 fl_5_58 rfl rfl (kc_S0 hk) ?_
  refine x_aload_n dm_48_67 rfl ?_
  refine x_getRC dm_48_68 fl_5_19 rfl rfl (kc_S0 hk) (rc_S3 hk) ?_
  refine im_callCV mf_13 rfl (tg_13 (15 + 10 * k) (dk_S hk) _) (im_runV (as := []) (rest := []) dm_48_71 mf_13 (Nat.le_of_ble_eq_true rfl) ml_5_61 mi_13 ms_13 mp_13 (Nat.le_of_ble_eq_true rfl) rfl (kc_D (dk_S hk)) ⟨_, _, rfl⟩) rfl (fun b12 hb12 => ?_)
  exact x_vretC dm_48_74 rfl
def gn_70_78 (M : im_M) : Option (Int32 × im_M) :=
  some ((1 : Int32), M)
set_option maxRecDepth 100000 in
set_option maxHeartbeats 4000000 in
theorem tg_70_78 (M : im_M) : im_Go zC_I 2 fm_70 78 [] [] (st_hC M) (gn_70_78 M) := by
  unfold gn_70_78
  refine x_iconst (1) dm_70_78 (by decide) ?_
  refine x_goto 83 dm_70_79 rfl ?_
  exact x_zretC dm_70_83 rfl (by decide)
def gn_70_65 (y1 : Int32) (y3 : Int32) (M : im_M) : Option (Int32 × im_M) :=
  if y3 = 0 then (gn_70_78 M) else ((gn_63 y1 M).bind fun b2 => if (5 : Int32) ≤ b2.1 then (some ((0 : Int32), b2.2)) else (gn_70_78 b2.2))
set_option maxRecDepth 100000 in
set_option maxHeartbeats 4000000 in
theorem tg_70_65 (y1 : Int32) (y3 : Int32) (M : im_M) : im_Go zC_I 2 fm_70 65 [(0, .inr (some 1)), (1, .inl y1), (3, .inl y3)] [] (st_hC M) (gn_70_65 y1 y3 M) := by
  unfold gn_70_65
  refine x_iload_n dm_70_65 rfl ?_
  refine x_if_eq 78 dm_70_66 rfl (fun c1 => ?_) (fun c1 => ?_)
  · exact im_lsub [] im_sb_n (tg_70_78 M)
  · refine x_aload_n dm_70_69 rfl ?_
    refine x_iload_n dm_70_70 rfl ?_
    refine im_callCI mf_63 rfl (tg_63 y1 M) (im_runV (as := [.inl y1]) (rest := []) dm_70_71 mf_63 (Nat.le_of_ble_eq_true rfl) ml_6_67 mi_63 ms_63 mp_63 (Nat.le_of_ble_eq_true rfl) rfl rfl ⟨_, _, rfl⟩) rfl (fun b2 hb2 => ?_)
    refine x_iconst (5) dm_70_74 (by decide) ?_
    refine x_icmp_ge 82 dm_70_75 rfl (fun c3 => ?_) (fun c3 => ?_)
    · refine x_iconst (0) dm_70_82 (by decide) ?_
      exact x_zretC dm_70_83 rfl (by decide)
    · exact im_lsub [] im_sb_n (tg_70_78 b2.2)
def gn_70_49 (y1 : Int32) (y3 : Int32) (s0 : Int32) (M : im_M) : Option (Int32 × im_M) :=
  if s0 = 0 then (gn_70_65 y1 y3 M) else ((gn_62 y1 M).bind fun b2 => if (5 : Int32) ≤ b2.1 then (some ((0 : Int32), b2.2)) else (gn_70_65 y1 y3 b2.2))
set_option maxRecDepth 100000 in
set_option maxHeartbeats 4000000 in
theorem tg_70_49 (y1 : Int32) (y3 : Int32) (s0 : Int32) (M : im_M) : im_Go zC_I 2 fm_70 49 [(0, .inr (some 1)), (1, .inl y1), (3, .inl y3)] [.inl s0] (st_hC M) (gn_70_49 y1 y3 s0 M) := by
  unfold gn_70_49
  refine x_istore dm_70_49 (Nat.le_of_ble_eq_true rfl) ?_
  refine x_iload dm_70_51 rfl ?_
  refine x_if_eq 65 dm_70_53 rfl (fun c1 => ?_) (fun c1 => ?_)
  · exact im_lsub [(0, .inr (some 1)), (1, .inl y1), (3, .inl y3)] (im_sb_c rfl (im_sb_c rfl (im_sb_c rfl im_sb_n))) (tg_70_65 y1 y3 M)
  · refine x_aload_n dm_70_56 rfl ?_
    refine x_iload_n dm_70_57 rfl ?_
    refine im_callCI mf_62 rfl (tg_62 y1 M) (im_runV (as := [.inl y1]) (rest := []) dm_70_58 mf_62 (Nat.le_of_ble_eq_true rfl) ml_6_64 mi_62 ms_62 mp_62 (Nat.le_of_ble_eq_true rfl) rfl rfl ⟨_, _, rfl⟩) rfl (fun b2 hb2 => ?_)
    refine x_iconst (5) dm_70_61 (by decide) ?_
    refine x_icmp_ge 82 dm_70_62 rfl (fun c3 => ?_) (fun c3 => ?_)
    · refine x_iconst (0) dm_70_82 (by decide) ?_
      exact x_zretC dm_70_83 rfl (by decide)
    · exact im_lsub [(0, .inr (some 1)), (1, .inl y1), (3, .inl y3)] (im_sb_c rfl (im_sb_c rfl (im_sb_c rfl im_sb_n))) (tg_70_65 y1 y3 b2.2)
def gn_70_44 (y1 : Int32) (y3 : Int32) (M : im_M) : Option (Int32 × im_M) :=
  gn_70_49 y1 y3 (1 : Int32) M
set_option maxRecDepth 100000 in
set_option maxHeartbeats 4000000 in
theorem tg_70_44 (y1 : Int32) (y3 : Int32) (M : im_M) : im_Go zC_I 2 fm_70 44 [(0, .inr (some 1)), (1, .inl y1), (3, .inl y3)] [] (st_hC M) (gn_70_44 y1 y3 M) := by
  unfold gn_70_44
  refine x_iconst (1) dm_70_44 (by decide) ?_
  refine x_goto 49 dm_70_45 rfl ?_
  exact im_lsub [(0, .inr (some 1)), (1, .inl y1), (3, .inl y3)] (im_sb_c rfl (im_sb_c rfl (im_sb_c rfl im_sb_n))) (tg_70_49 y1 y3 (1 : Int32) M)
def gn_70_22 (y1 : Int32) (y2 : Int32) (s0 : Int32) (M : im_M) : Option (Int32 × im_M) :=
  if s0 = 0 then (if y2 = (1 : Int32) then (gn_70_44 y1 s0 M) else (if y2 = (13 : Int32) then (gn_70_44 y1 s0 M) else (if y2 = (15 : Int32) then (gn_70_44 y1 s0 M) else (gn_70_49 y1 s0 (0 : Int32) M)))) else (gn_70_44 y1 s0 M)
set_option maxRecDepth 100000 in
set_option maxHeartbeats 4000000 in
theorem tg_70_22 (y1 : Int32) (y2 : Int32) (s0 : Int32) (M : im_M) : im_Go zC_I 2 fm_70 22 [(0, .inr (some 1)), (1, .inl y1), (2, .inl y2)] [.inl s0] (st_hC M) (gn_70_22 y1 y2 s0 M) := by
  unfold gn_70_22
  refine x_istore_n dm_70_22 (Nat.le_of_ble_eq_true rfl) ?_
  refine x_iload_n dm_70_23 rfl ?_
  refine x_if_ne 44 dm_70_24 rfl (fun c1 => ?_) (fun c1 => ?_)
  · refine x_iload_n dm_70_27 rfl ?_
    refine x_iconst (1) dm_70_28 (by decide) ?_
    refine x_icmp_eq 44 dm_70_29 rfl (fun c2 => ?_) (fun c2 => ?_)
    · exact im_lsub [(0, .inr (some 1)), (1, .inl y1), (3, .inl s0)] (im_sb_c rfl (im_sb_c rfl (im_sb_c rfl im_sb_n))) (tg_70_44 y1 s0 M)
    · refine x_iload_n dm_70_32 rfl ?_
      refine x_bipush (13) dm_70_33 (by decide) ?_
      refine x_icmp_eq 44 dm_70_35 rfl (fun c3 => ?_) (fun c3 => ?_)
      · exact im_lsub [(0, .inr (some 1)), (1, .inl y1), (3, .inl s0)] (im_sb_c rfl (im_sb_c rfl (im_sb_c rfl im_sb_n))) (tg_70_44 y1 s0 M)
      · refine x_iload_n dm_70_38 rfl ?_
        refine x_bipush (15) dm_70_39 (by decide) ?_
        refine x_icmp_ne 48 dm_70_41 rfl (fun c4 => ?_) (fun c4 => ?_)
        · exact im_lsub [(0, .inr (some 1)), (1, .inl y1), (3, .inl s0)] (im_sb_c rfl (im_sb_c rfl (im_sb_c rfl im_sb_n))) (tg_70_44 y1 s0 M)
        · refine x_iconst (0) dm_70_48 (by decide) ?_
          exact im_lsub [(0, .inr (some 1)), (1, .inl y1), (3, .inl s0)] (im_sb_c rfl (im_sb_c rfl (im_sb_c rfl im_sb_n))) (tg_70_49 y1 s0 (0 : Int32) M)
  · exact im_lsub [(0, .inr (some 1)), (1, .inl y1), (3, .inl s0)] (im_sb_c rfl (im_sb_c rfl (im_sb_c rfl im_sb_n))) (tg_70_44 y1 s0 M)
def gn_70_21 (y1 : Int32) (y2 : Int32) (M : im_M) : Option (Int32 × im_M) :=
  gn_70_22 y1 y2 (0 : Int32) M
set_option maxRecDepth 100000 in
set_option maxHeartbeats 4000000 in
theorem tg_70_21 (y1 : Int32) (y2 : Int32) (M : im_M) : im_Go zC_I 2 fm_70 21 [(0, .inr (some 1)), (1, .inl y1), (2, .inl y2)] [] (st_hC M) (gn_70_21 y1 y2 M) := by
  unfold gn_70_21
  refine x_iconst (0) dm_70_21 (by decide) ?_
  exact im_lsub [(0, .inr (some 1)), (1, .inl y1), (2, .inl y2)] (im_sb_c rfl (im_sb_c rfl (im_sb_c rfl im_sb_n))) (tg_70_22 y1 y2 (0 : Int32) M)
/-- FencedModules$Source.keepsToFreeRegisters(I)Z -/
def gn_70 (x1 : Int32) (M : im_M) : Option (Int32 × im_M) :=
  (gn_61 x1 M).bind fun b1 => if b1.1 < (2 : Int32) then (gn_70_21 x1 b1.1 b1.2) else (if (11 : Int32) < b1.1 then (gn_70_21 x1 b1.1 b1.2) else (gn_70_22 x1 b1.1 (1 : Int32) b1.2))
set_option maxRecDepth 100000 in
set_option maxHeartbeats 4000000 in
theorem tg_70 (x1 : Int32) (M : im_M) : im_Go zC_I 2 fm_70 0 (im_en 0 [.inr (some 1), .inl x1]) [] (st_hC M) (gn_70 x1 M) := by
  unfold gn_70
  refine x_aload_n dm_70_0 rfl ?_
  refine x_iload_n dm_70_1 rfl ?_
  refine im_callCI mf_61 rfl (tg_61 x1 M) (im_runV (as := [.inl x1]) (rest := []) dm_70_2 mf_61 (Nat.le_of_ble_eq_true rfl) ml_6_61 mi_61 ms_61 mp_61 (Nat.le_of_ble_eq_true rfl) rfl rfl ⟨_, _, rfl⟩) rfl (fun b1 hb1 => ?_)
  refine x_istore_n dm_70_5 (Nat.le_of_ble_eq_true rfl) ?_
  refine x_iload_n dm_70_6 rfl ?_
  refine x_iconst (2) dm_70_7 (by decide) ?_
  refine x_icmp_lt 21 dm_70_8 rfl (fun c2 => ?_) (fun c2 => ?_)
  · exact im_lsub [(0, .inr (some 1)), (1, .inl x1), (2, .inl b1.1)] (im_sb_c rfl (im_sb_c rfl (im_sb_c rfl im_sb_n))) (tg_70_21 x1 b1.1 b1.2)
  · refine x_iload_n dm_70_11 rfl ?_
    refine x_bipush (11) dm_70_12 (by decide) ?_
    refine x_icmp_gt 21 dm_70_14 rfl (fun c3 => ?_) (fun c3 => ?_)
    · exact im_lsub [(0, .inr (some 1)), (1, .inl x1), (2, .inl b1.1)] (im_sb_c rfl (im_sb_c rfl (im_sb_c rfl im_sb_n))) (tg_70_21 x1 b1.1 b1.2)
    · refine x_iconst (1) dm_70_17 (by decide) ?_
      refine x_goto 22 dm_70_18 rfl ?_
      exact im_lsub [(0, .inr (some 1)), (1, .inl x1), (2, .inl b1.1)] (im_sb_c rfl (im_sb_c rfl (im_sb_c rfl im_sb_n))) (tg_70_22 x1 b1.1 (1 : Int32) b1.2)
def gn_71_44 (y1 : Int32) (M : im_M) : Option (Int32 × im_M) :=
  (gn_64 y1 M).bind fun b1 => (gn_65 b1.1 b1.2).bind fun b2 => if b2.1 &&& 1 = b2.1 then some (b2.1, b2.2) else none
set_option maxRecDepth 100000 in
set_option maxHeartbeats 4000000 in
theorem tg_71_44 (y1 : Int32) (M : im_M) : im_Go zC_I 2 fm_71 44 [(0, .inr (some 1)), (1, .inl y1)] [] (st_hC M) (gn_71_44 y1 M) := by
  unfold gn_71_44
  refine x_aload_n dm_71_44 rfl ?_
  refine x_aload_n dm_71_45 rfl ?_
  refine x_iload_n dm_71_46 rfl ?_
  refine im_callCI mf_64 rfl (tg_64 y1 M) (im_runV (as := [.inl y1]) (rest := [.inr (some 1)]) dm_71_47 mf_64 (Nat.le_of_ble_eq_true rfl) ml_6_70 mi_64 ms_64 mp_64 (Nat.le_of_ble_eq_true rfl) rfl rfl ⟨_, _, rfl⟩) rfl (fun b1 hb1 => ?_)
  refine im_callCI mf_65 rfl (tg_65 b1.1 b1.2) (im_runV (as := [.inl b1.1]) (rest := []) dm_71_50 mf_65 (Nat.le_of_ble_eq_true rfl) ml_6_43 mi_65 ms_65 mp_65 (Nat.le_of_ble_eq_true rfl) rfl rfl ⟨_, _, rfl⟩) rfl (fun b2 hb2 => ?_)
  refine im_chk _ (fun hz3 => ?_)
  exact x_zretC dm_71_53 rfl hz3
/-- FencedModules$Source.namesWhatIsThere(I)Z -/
def gn_71 (x1 : Int32) (M : im_M) : Option (Int32 × im_M) :=
  (gn_61 x1 M).bind fun b1 => if b1.1 = 10 then (gn_71_44 x1 b1.2) else (if b1.1 = 11 then (gn_71_44 x1 b1.2) else (if b1.1 = 12 then (gn_71_44 x1 b1.2) else (if b1.1 = 13 then (some ((1 : Int32), b1.2)) else (if b1.1 = 14 then ((gn_64 x1 b1.2).bind fun b7 => (gn_10 b7.1 b7.2).bind fun b8 => if b8.1 &&& 1 = b8.1 then some (b8.1, b8.2) else none) else (if b1.1 = 15 then (gn_71_44 x1 b1.2) else (some ((1 : Int32), b1.2)))))))
set_option maxRecDepth 100000 in
set_option maxHeartbeats 4000000 in
theorem tg_71 (x1 : Int32) (M : im_M) : im_Go zC_I 2 fm_71 0 (im_en 0 [.inr (some 1), .inl x1]) [] (st_hC M) (gn_71 x1 M) := by
  unfold gn_71
  refine x_aload_n dm_71_0 rfl ?_
  refine x_iload_n dm_71_1 rfl ?_
  refine im_callCI mf_61 rfl (tg_61 x1 M) (im_runV (as := [.inl x1]) (rest := []) dm_71_2 mf_61 (Nat.le_of_ble_eq_true rfl) ml_6_61 mi_61 ms_61 mp_61 (Nat.le_of_ble_eq_true rfl) rfl rfl ⟨_, _, rfl⟩) rfl (fun b1 hb1 => ?_)
  refine im_test _ (fun c2 => ?_) (fun c2 => ?_)
  · refine x_tabIn 10 44 dm_71_5 c2 (by decide) (by decide) rfl rfl ?_
    exact im_lsub [(0, .inr (some 1)), (1, .inl x1)] (im_sb_c rfl (im_sb_c rfl im_sb_n)) (tg_71_44 x1 b1.2)
  refine im_test _ (fun c3 => ?_) (fun c3 => ?_)
  · refine x_tabIn 11 44 dm_71_5 c3 (by decide) (by decide) rfl rfl ?_
    exact im_lsub [(0, .inr (some 1)), (1, .inl x1)] (im_sb_c rfl (im_sb_c rfl im_sb_n)) (tg_71_44 x1 b1.2)
  refine im_test _ (fun c4 => ?_) (fun c4 => ?_)
  · refine x_tabIn 12 44 dm_71_5 c4 (by decide) (by decide) rfl rfl ?_
    exact im_lsub [(0, .inr (some 1)), (1, .inl x1)] (im_sb_c rfl (im_sb_c rfl im_sb_n)) (tg_71_44 x1 b1.2)
  refine im_test _ (fun c5 => ?_) (fun c5 => ?_)
  · refine x_tabIn 13 63 dm_71_5 c5 (by decide) (by decide) rfl rfl ?_
    refine x_iconst (1) dm_71_63 (by decide) ?_
    exact x_zretC dm_71_64 rfl (by decide)
  refine im_test _ (fun c6 => ?_) (fun c6 => ?_)
  · refine x_tabIn 14 54 dm_71_5 c6 (by decide) (by decide) rfl rfl ?_
    refine x_aload_n dm_71_54 rfl ?_
    refine x_iload_n dm_71_55 rfl ?_
    refine im_callCI mf_64 rfl (tg_64 x1 b1.2) (im_runV (as := [.inl x1]) (rest := []) dm_71_56 mf_64 (Nat.le_of_ble_eq_true rfl) ml_6_70 mi_64 ms_64 mp_64 (Nat.le_of_ble_eq_true rfl) rfl rfl ⟨_, _, rfl⟩) rfl (fun b7 hb7 => ?_)
    refine im_callCI mf_10 rfl (tg_10 b7.1 b7.2) (im_runS (as := [.inl b7.1]) (rest := []) dm_71_59 mf_10 (Nat.le_of_ble_eq_true rfl) ml_6_73 mi_10 mp_10 (Nat.le_of_ble_eq_true rfl)) rfl (fun b8 hb8 => ?_)
    refine im_chk _ (fun hz9 => ?_)
    exact x_zretC dm_71_62 rfl hz9
  refine im_test _ (fun c10 => ?_) (fun c10 => ?_)
  · refine x_tabIn 15 44 dm_71_5 c10 (by decide) (by decide) rfl rfl ?_
    exact im_lsub [(0, .inr (some 1)), (1, .inl x1)] (im_sb_c rfl (im_sb_c rfl im_sb_n)) (tg_71_44 x1 b1.2)
  refine x_tabOut 63 dm_71_5 (im_swout (10) 6 (by decide) (by decide) (fun i hi => match i, hi with | 0, _ => c2 | 1, _ => c3 | 2, _ => c4 | 3, _ => c5 | 4, _ => c6 | 5, _ => c10 | i + 6, hi => absurd hi (by omega))) rfl ?_
  refine x_iconst (1) dm_71_63 (by decide) ?_
  exact x_zretC dm_71_64 rfl (by decide)
/-- FencedModules.clear()V -/
def gn_75 (M : im_M) : Option (im_M) :=
  (gn_56 M).bind fun b1 => (gn_5 b1).bind fun b2 => some b2
set_option maxRecDepth 100000 in
set_option maxHeartbeats 4000000 in
theorem tg_75 (M : im_M) : im_Go zC_V 2 fm_75 0 (im_en 0 [.inr (some 0)]) [] (st_hC M) (gn_75 M) := by
  unfold gn_75
  refine x_aload_n dm_75_0 rfl ?_
  refine x_getRC dm_75_1 fl_7_10 rfl rfl rfl rfl ?_
  refine im_callCV mf_56 rfl (tg_56 M) (im_runV (as := []) (rest := []) dm_75_4 mf_56 (Nat.le_of_ble_eq_true rfl) ml_7_45 mi_56 ms_56 mp_56 (Nat.le_of_ble_eq_true rfl) rfl rfl ⟨_, _, rfl⟩) rfl (fun b1 hb1 => ?_)
  refine x_aload_n dm_75_7 rfl ?_
  refine x_getRC dm_75_8 fl_7_19 rfl rfl rfl rfl ?_
  refine im_callCV mf_5 rfl (tg_5 b1) (im_runV (as := []) (rest := []) dm_75_11 mf_5 (Nat.le_of_ble_eq_true rfl) ml_7_48 mi_5 ms_5 mp_5 (Nat.le_of_ble_eq_true rfl) rfl rfl ⟨_, _, rfl⟩) rfl (fun b2 hb2 => ?_)
  exact x_vretC dm_75_14 rfl
/-- FencedModules.feed(II)Z -/
def gn_81 (x1 : Int32) (x2 : Int32) (M : im_M) : Option (Int32 × im_M) :=
  if x1 < 0 then (some ((0 : Int32), M)) else (if 3 ≤ x1 then (some ((0 : Int32), M)) else (if (M (12 + 10 * (x1).toNatClampNeg) 6) = 0 then (some ((0 : Int32), M)) else ((gn_50 (x1).toNatClampNeg x2 M).bind fun b4 => if b4.1 = 0 then (some ((0 : Int32), b4.2)) else (some ((1 : Int32), b4.2)))))
set_option maxRecDepth 100000 in
set_option maxHeartbeats 4000000 in
theorem tg_81 (x1 : Int32) (x2 : Int32) (M : im_M) : im_Go zC_I 2 fm_81 0 (im_en 0 [.inr (some 0), .inl x1, .inl x2]) [] (st_hC M) (gn_81 x1 x2 M) := by
  unfold gn_81
  refine x_aload_n dm_81_0 rfl ?_
  refine x_getRC dm_81_1 fl_7_26 rfl rfl rfl rfl ?_
  refine x_iload_n dm_81_4 rfl ?_
  refine im_test _ (fun c1 => ?_) (fun c1 => ?_)
  · refine im_callK mf_31 rfl (tg_31_n _ (Or.inl c1) _) (im_runV (as := [.inl x1]) (rest := []) dm_81_5 mf_31 (Nat.le_of_ble_eq_true rfl) ml_7_85 mi_31 ms_31 mp_31 (Nat.le_of_ble_eq_true rfl) rfl rfl ⟨_, _, rfl⟩) rfl ?_
    refine x_astore_n dm_81_8 (Nat.le_of_ble_eq_true rfl) ?_
    refine x_aload_n dm_81_9 rfl ?_
    refine x_ifnull_n 32 dm_81_10 rfl ?_
    refine x_iconst (0) dm_81_32 (by decide) ?_
    exact x_zretC dm_81_33 rfl (by decide)
  refine im_test _ (fun c2 => ?_) (fun c2 => ?_)
  · refine im_callK mf_31 rfl (tg_31_n _ (Or.inr c2) _) (im_runV (as := [.inl x1]) (rest := []) dm_81_5 mf_31 (Nat.le_of_ble_eq_true rfl) ml_7_85 mi_31 ms_31 mp_31 (Nat.le_of_ble_eq_true rfl) rfl rfl ⟨_, _, rfl⟩) rfl ?_
    refine x_astore_n dm_81_8 (Nat.le_of_ble_eq_true rfl) ?_
    refine x_aload_n dm_81_9 rfl ?_
    refine x_ifnull_n 32 dm_81_10 rfl ?_
    refine x_iconst (0) dm_81_32 (by decide) ?_
    exact x_zretC dm_81_33 rfl (by decide)
  refine im_callK mf_31 rfl (tg_31_s _ c1 c2 _) (im_runV (as := [.inl x1]) (rest := []) dm_81_5 mf_31 (Nat.le_of_ble_eq_true rfl) ml_7_85 mi_31 ms_31 mp_31 (Nat.le_of_ble_eq_true rfl) rfl rfl ⟨_, _, rfl⟩) rfl ?_
  refine x_astore_n dm_81_8 (Nat.le_of_ble_eq_true rfl) ?_
  refine x_aload_n dm_81_9 rfl ?_
  refine x_ifnull_s 32 dm_81_10 rfl ?_
  refine x_aload_n dm_81_13 rfl ?_
  refine x_getI dm_81_14 fl_7_89 rfl rfl (kc_S0 (st_ix3 c1 c2)) ?_
  refine x_if_eq 32 dm_81_17 rfl (fun c3 => ?_) (fun c3 => ?_)
  · refine x_iconst (0) dm_81_32 (by decide) ?_
    exact x_zretC dm_81_33 rfl (by decide)
  · refine x_aload_n dm_81_20 rfl ?_
    refine x_iload_n dm_81_21 rfl ?_
    refine im_callCI mf_50 rfl (tg_50 _ (st_ix3 c1 c2) x2 M) (im_runV (as := [.inl x2]) (rest := []) dm_81_22 mf_50 (Nat.le_of_ble_eq_true rfl) ml_7_93 mi_50 ms_50 mp_50 (Nat.le_of_ble_eq_true rfl) rfl (kc_S0 (st_ix3 c1 c2)) ⟨_, _, rfl⟩) rfl (fun b4 hb4 => ?_)
    refine x_if_eq 32 dm_81_25 rfl (fun c5 => ?_) (fun c5 => ?_)
    · refine x_iconst (0) dm_81_32 (by decide) ?_
      exact x_zretC dm_81_33 rfl (by decide)
    · refine x_iconst (1) dm_81_28 (by decide) ?_
      refine x_goto 33 dm_81_29 rfl ?_
      exact x_zretC dm_81_33 rfl (by decide)
/-- FencedModules.state(I)I -/
def gn_83 (x1 : Int32) (M : im_M) : Option (Int32 × im_M) :=
  if x1 < 0 then (some ((-1 : Int32), M)) else (if 3 ≤ x1 then (some ((-1 : Int32), M)) else (some ((M (12 + 10 * (x1).toNatClampNeg) 6), M)))
set_option maxRecDepth 100000 in
set_option maxHeartbeats 4000000 in
theorem tg_83 (x1 : Int32) (M : im_M) : im_Go zC_I 2 fm_83 0 (im_en 0 [.inr (some 0), .inl x1]) [] (st_hC M) (gn_83 x1 M) := by
  unfold gn_83
  refine x_aload_n dm_83_0 rfl ?_
  refine x_getRC dm_83_1 fl_7_26 rfl rfl rfl rfl ?_
  refine x_iload_n dm_83_4 rfl ?_
  refine im_test _ (fun c1 => ?_) (fun c1 => ?_)
  · refine im_callK mf_31 rfl (tg_31_n _ (Or.inl c1) _) (im_runV (as := [.inl x1]) (rest := []) dm_83_5 mf_31 (Nat.le_of_ble_eq_true rfl) ml_7_85 mi_31 ms_31 mp_31 (Nat.le_of_ble_eq_true rfl) rfl rfl ⟨_, _, rfl⟩) rfl ?_
    refine x_astore_n dm_83_8 (Nat.le_of_ble_eq_true rfl) ?_
    refine x_aload_n dm_83_9 rfl ?_
    refine x_ifnonnull_n 17 dm_83_10 rfl ?_
    refine x_iconst (-1) dm_83_13 (by decide) ?_
    refine x_goto 21 dm_83_14 rfl ?_
    exact x_iretC dm_83_21 rfl
  refine im_test _ (fun c2 => ?_) (fun c2 => ?_)
  · refine im_callK mf_31 rfl (tg_31_n _ (Or.inr c2) _) (im_runV (as := [.inl x1]) (rest := []) dm_83_5 mf_31 (Nat.le_of_ble_eq_true rfl) ml_7_85 mi_31 ms_31 mp_31 (Nat.le_of_ble_eq_true rfl) rfl rfl ⟨_, _, rfl⟩) rfl ?_
    refine x_astore_n dm_83_8 (Nat.le_of_ble_eq_true rfl) ?_
    refine x_aload_n dm_83_9 rfl ?_
    refine x_ifnonnull_n 17 dm_83_10 rfl ?_
    refine x_iconst (-1) dm_83_13 (by decide) ?_
    refine x_goto 21 dm_83_14 rfl ?_
    exact x_iretC dm_83_21 rfl
  refine im_callK mf_31 rfl (tg_31_s _ c1 c2 _) (im_runV (as := [.inl x1]) (rest := []) dm_83_5 mf_31 (Nat.le_of_ble_eq_true rfl) ml_7_85 mi_31 ms_31 mp_31 (Nat.le_of_ble_eq_true rfl) rfl rfl ⟨_, _, rfl⟩) rfl ?_
  refine x_astore_n dm_83_8 (Nat.le_of_ble_eq_true rfl) ?_
  refine x_aload_n dm_83_9 rfl ?_
  refine x_ifnonnull_s 17 dm_83_10 rfl ?_
  refine x_aload_n dm_83_17 rfl ?_
  refine x_getI dm_83_18 fl_7_89 rfl rfl (kc_S0 (st_ix3 c1 c2)) ?_
  exact x_iretC dm_83_21 rfl
/-- FencedModules.pc(I)I -/
def gn_84 (x1 : Int32) (M : im_M) : Option (Int32 × im_M) :=
  if x1 < 0 then (some ((-1 : Int32), M)) else (if 3 ≤ x1 then (some ((-1 : Int32), M)) else (some ((M (12 + 10 * (x1).toNatClampNeg) 5), M)))
set_option maxRecDepth 100000 in
set_option maxHeartbeats 4000000 in
theorem tg_84 (x1 : Int32) (M : im_M) : im_Go zC_I 2 fm_84 0 (im_en 0 [.inr (some 0), .inl x1]) [] (st_hC M) (gn_84 x1 M) := by
  unfold gn_84
  refine x_aload_n dm_84_0 rfl ?_
  refine x_getRC dm_84_1 fl_7_26 rfl rfl rfl rfl ?_
  refine x_iload_n dm_84_4 rfl ?_
  refine im_test _ (fun c1 => ?_) (fun c1 => ?_)
  · refine im_callK mf_31 rfl (tg_31_n _ (Or.inl c1) _) (im_runV (as := [.inl x1]) (rest := []) dm_84_5 mf_31 (Nat.le_of_ble_eq_true rfl) ml_7_85 mi_31 ms_31 mp_31 (Nat.le_of_ble_eq_true rfl) rfl rfl ⟨_, _, rfl⟩) rfl ?_
    refine x_astore_n dm_84_8 (Nat.le_of_ble_eq_true rfl) ?_
    refine x_aload_n dm_84_9 rfl ?_
    refine x_ifnonnull_n 17 dm_84_10 rfl ?_
    refine x_iconst (-1) dm_84_13 (by decide) ?_
    refine x_goto 21 dm_84_14 rfl ?_
    exact x_iretC dm_84_21 rfl
  refine im_test _ (fun c2 => ?_) (fun c2 => ?_)
  · refine im_callK mf_31 rfl (tg_31_n _ (Or.inr c2) _) (im_runV (as := [.inl x1]) (rest := []) dm_84_5 mf_31 (Nat.le_of_ble_eq_true rfl) ml_7_85 mi_31 ms_31 mp_31 (Nat.le_of_ble_eq_true rfl) rfl rfl ⟨_, _, rfl⟩) rfl ?_
    refine x_astore_n dm_84_8 (Nat.le_of_ble_eq_true rfl) ?_
    refine x_aload_n dm_84_9 rfl ?_
    refine x_ifnonnull_n 17 dm_84_10 rfl ?_
    refine x_iconst (-1) dm_84_13 (by decide) ?_
    refine x_goto 21 dm_84_14 rfl ?_
    exact x_iretC dm_84_21 rfl
  refine im_callK mf_31 rfl (tg_31_s _ c1 c2 _) (im_runV (as := [.inl x1]) (rest := []) dm_84_5 mf_31 (Nat.le_of_ble_eq_true rfl) ml_7_85 mi_31 ms_31 mp_31 (Nat.le_of_ble_eq_true rfl) rfl rfl ⟨_, _, rfl⟩) rfl ?_
  refine x_astore_n dm_84_8 (Nat.le_of_ble_eq_true rfl) ?_
  refine x_aload_n dm_84_9 rfl ?_
  refine x_ifnonnull_s 17 dm_84_10 rfl ?_
  refine x_aload_n dm_84_17 rfl ?_
  refine x_getI dm_84_18 fl_7_99 rfl rfl (kc_S0 (st_ix3 c1 c2)) ?_
  exact x_iretC dm_84_21 rfl
def gn_85_23 (M : im_M) : Option (Int32 × im_M) :=
  some ((0 : Int32), M)
set_option maxRecDepth 100000 in
set_option maxHeartbeats 4000000 in
theorem tg_85_23 (M : im_M) : im_Go zC_I 2 fm_85 23 [] [] (st_hC M) (gn_85_23 M) := by
  unfold gn_85_23
  refine x_iconst (0) dm_85_23 (by decide) ?_
  refine x_goto 33 dm_85_24 rfl ?_
  exact x_iretC dm_85_33 rfl
/-- FencedModules.register(II)I -/
def gn_85 (x1 : Int32) (x2 : Int32) (M : im_M) : Option (Int32 × im_M) :=
  if x1 < 0 then (gn_85_23 M) else (if 3 ≤ x1 then (gn_85_23 M) else (if x2 < 0 then (gn_85_23 M) else (if x2 < (8 : Int32) then (if st_ib x2 8 then (some ((M (13 + 10 * (x1).toNatClampNeg) (x2).toNatClampNeg), M)) else none) else (gn_85_23 M))))
set_option maxRecDepth 100000 in
set_option maxHeartbeats 4000000 in
theorem tg_85 (x1 : Int32) (x2 : Int32) (M : im_M) : im_Go zC_I 2 fm_85 0 (im_en 0 [.inr (some 0), .inl x1, .inl x2]) [] (st_hC M) (gn_85 x1 x2 M) := by
  unfold gn_85
  refine x_aload_n dm_85_0 rfl ?_
  refine x_getRC dm_85_1 fl_7_26 rfl rfl rfl rfl ?_
  refine x_iload_n dm_85_4 rfl ?_
  refine im_test _ (fun c1 => ?_) (fun c1 => ?_)
  · refine im_callK mf_31 rfl (tg_31_n _ (Or.inl c1) _) (im_runV (as := [.inl x1]) (rest := []) dm_85_5 mf_31 (Nat.le_of_ble_eq_true rfl) ml_7_85 mi_31 ms_31 mp_31 (Nat.le_of_ble_eq_true rfl) rfl rfl ⟨_, _, rfl⟩) rfl ?_
    refine x_astore_n dm_85_8 (Nat.le_of_ble_eq_true rfl) ?_
    refine x_aload_n dm_85_9 rfl ?_
    refine x_ifnull_n 23 dm_85_10 rfl ?_
    exact im_lsub [] im_sb_n (tg_85_23 M)
  refine im_test _ (fun c2 => ?_) (fun c2 => ?_)
  · refine im_callK mf_31 rfl (tg_31_n _ (Or.inr c2) _) (im_runV (as := [.inl x1]) (rest := []) dm_85_5 mf_31 (Nat.le_of_ble_eq_true rfl) ml_7_85 mi_31 ms_31 mp_31 (Nat.le_of_ble_eq_true rfl) rfl rfl ⟨_, _, rfl⟩) rfl ?_
    refine x_astore_n dm_85_8 (Nat.le_of_ble_eq_true rfl) ?_
    refine x_aload_n dm_85_9 rfl ?_
    refine x_ifnull_n 23 dm_85_10 rfl ?_
    exact im_lsub [] im_sb_n (tg_85_23 M)
  refine im_callK mf_31 rfl (tg_31_s _ c1 c2 _) (im_runV (as := [.inl x1]) (rest := []) dm_85_5 mf_31 (Nat.le_of_ble_eq_true rfl) ml_7_85 mi_31 ms_31 mp_31 (Nat.le_of_ble_eq_true rfl) rfl rfl ⟨_, _, rfl⟩) rfl ?_
  refine x_astore_n dm_85_8 (Nat.le_of_ble_eq_true rfl) ?_
  refine x_aload_n dm_85_9 rfl ?_
  refine x_ifnull_s 23 dm_85_10 rfl ?_
  refine x_iload_n dm_85_13 rfl ?_
  refine x_if_lt 23 dm_85_14 rfl (fun c3 => ?_) (fun c3 => ?_)
  · exact im_lsub [] im_sb_n (tg_85_23 M)
  · refine x_iload_n dm_85_17 rfl ?_
    refine x_bipush (8) dm_85_18 (by decide) ?_
    refine x_icmp_lt 27 dm_85_20 rfl (fun c4 => ?_) (fun c4 => ?_)
    · refine x_aload_n dm_85_27 rfl ?_
      refine x_getRC dm_85_28 fl_7_102 rfl rfl (kc_S0 (st_ix3 c1 c2)) (rc_S1 (st_ix3 c1 c2)) ?_
      refine x_iload_n dm_85_31 rfl ?_
      refine im_chk _ (fun hi5 => ?_)
      refine x_ialoadX _ rfl dm_85_32 rfl (mk_in (kc_S1 (st_ix3 c1 c2)) hi5) ?_
      exact x_iretC dm_85_33 rfl
    · exact im_lsub [] im_sb_n (tg_85_23 M)
/-- FencedModules.output(II)I -/
def gn_87 (x1 : Int32) (x2 : Int32) (M : im_M) : Option (Int32 × im_M) :=
  if x1 < 0 then (some ((0 : Int32), M)) else (if 3 ≤ x1 then (some ((0 : Int32), M)) else ((gn_54 (x1).toNatClampNeg x2 M).bind fun b3 => some (b3.1, b3.2)))
set_option maxRecDepth 100000 in
set_option maxHeartbeats 4000000 in
theorem tg_87 (x1 : Int32) (x2 : Int32) (M : im_M) : im_Go zC_I 2 fm_87 0 (im_en 0 [.inr (some 0), .inl x1, .inl x2]) [] (st_hC M) (gn_87 x1 x2 M) := by
  unfold gn_87
  refine x_aload_n dm_87_0 rfl ?_
  refine x_getRC dm_87_1 fl_7_26 rfl rfl rfl rfl ?_
  refine x_iload_n dm_87_4 rfl ?_
  refine im_test _ (fun c1 => ?_) (fun c1 => ?_)
  · refine im_callK mf_31 rfl (tg_31_n _ (Or.inl c1) _) (im_runV (as := [.inl x1]) (rest := []) dm_87_5 mf_31 (Nat.le_of_ble_eq_true rfl) ml_7_85 mi_31 ms_31 mp_31 (Nat.le_of_ble_eq_true rfl) rfl rfl ⟨_, _, rfl⟩) rfl ?_
    refine x_astore_n dm_87_8 (Nat.le_of_ble_eq_true rfl) ?_
    refine x_aload_n dm_87_9 rfl ?_
    refine x_ifnonnull_n 17 dm_87_10 rfl ?_
    refine x_iconst (0) dm_87_13 (by decide) ?_
    refine x_goto 22 dm_87_14 rfl ?_
    exact x_iretC dm_87_22 rfl
  refine im_test _ (fun c2 => ?_) (fun c2 => ?_)
  · refine im_callK mf_31 rfl (tg_31_n _ (Or.inr c2) _) (im_runV (as := [.inl x1]) (rest := []) dm_87_5 mf_31 (Nat.le_of_ble_eq_true rfl) ml_7_85 mi_31 ms_31 mp_31 (Nat.le_of_ble_eq_true rfl) rfl rfl ⟨_, _, rfl⟩) rfl ?_
    refine x_astore_n dm_87_8 (Nat.le_of_ble_eq_true rfl) ?_
    refine x_aload_n dm_87_9 rfl ?_
    refine x_ifnonnull_n 17 dm_87_10 rfl ?_
    refine x_iconst (0) dm_87_13 (by decide) ?_
    refine x_goto 22 dm_87_14 rfl ?_
    exact x_iretC dm_87_22 rfl
  refine im_callK mf_31 rfl (tg_31_s _ c1 c2 _) (im_runV (as := [.inl x1]) (rest := []) dm_87_5 mf_31 (Nat.le_of_ble_eq_true rfl) ml_7_85 mi_31 ms_31 mp_31 (Nat.le_of_ble_eq_true rfl) rfl rfl ⟨_, _, rfl⟩) rfl ?_
  refine x_astore_n dm_87_8 (Nat.le_of_ble_eq_true rfl) ?_
  refine x_aload_n dm_87_9 rfl ?_
  refine x_ifnonnull_s 17 dm_87_10 rfl ?_
  refine x_aload_n dm_87_17 rfl ?_
  refine x_iload_n dm_87_18 rfl ?_
  refine im_callCI mf_54 rfl (tg_54 _ (st_ix3 c1 c2) x2 M) (im_runV (as := [.inl x2]) (rest := []) dm_87_19 mf_54 (Nat.le_of_ble_eq_true rfl) ml_7_109 mi_54 ms_54 mp_54 (Nat.le_of_ble_eq_true rfl) rfl (kc_S0 (st_ix3 c1 c2)) ⟨_, _, rfl⟩) rfl (fun b3 hb3 => ?_)
  exact x_iretC dm_87_22 rfl
/-- FencedModules.call(III)I -/
def gn_88 (x1 : Int32) (x2 : Int32) (x3 : Int32) (M : im_M) : Option (Int32 × im_M) :=
  if x1 < 0 then (some ((0 : Int32), M)) else (if 3 ≤ x1 then (some ((0 : Int32), M)) else ((gn_3 ((15 + 10 * (x1).toNatClampNeg) + 1) x2 x3 M).bind fun b3 => some (b3.1, b3.2)))
set_option maxRecDepth 100000 in
set_option maxHeartbeats 4000000 in
theorem tg_88 (x1 : Int32) (x2 : Int32) (x3 : Int32) (M : im_M) : im_Go zC_I 2 fm_88 0 (im_en 0 [.inr (some 0), .inl x1, .inl x2, .inl x3]) [] (st_hC M) (gn_88 x1 x2 x3 M) := by
  unfold gn_88
  refine x_aload_n dm_88_0 rfl ?_
  refine x_getRC dm_88_1 fl_7_26 rfl rfl rfl rfl ?_
  refine x_iload_n dm_88_4 rfl ?_
  refine im_test _ (fun c1 => ?_) (fun c1 => ?_)
  · refine im_callK mf_31 rfl (tg_31_n _ (Or.inl c1) _) (im_runV (as := [.inl x1]) (rest := []) dm_88_5 mf_31 (Nat.le_of_ble_eq_true rfl) ml_7_85 mi_31 ms_31 mp_31 (Nat.le_of_ble_eq_true rfl) rfl rfl ⟨_, _, rfl⟩) rfl ?_
    refine x_astore dm_88_8 (Nat.le_of_ble_eq_true rfl) ?_
    refine x_aload dm_88_10 rfl ?_
    refine x_ifnonnull_n 19 dm_88_12 rfl ?_
    refine x_iconst (0) dm_88_15 (by decide) ?_
    refine x_goto 32 dm_88_16 rfl ?_
    exact x_iretC dm_88_32 rfl
  refine im_test _ (fun c2 => ?_) (fun c2 => ?_)
  · refine im_callK mf_31 rfl (tg_31_n _ (Or.inr c2) _) (im_runV (as := [.inl x1]) (rest := []) dm_88_5 mf_31 (Nat.le_of_ble_eq_true rfl) ml_7_85 mi_31 ms_31 mp_31 (Nat.le_of_ble_eq_true rfl) rfl rfl ⟨_, _, rfl⟩) rfl ?_
    refine x_astore dm_88_8 (Nat.le_of_ble_eq_true rfl) ?_
    refine x_aload dm_88_10 rfl ?_
    refine x_ifnonnull_n 19 dm_88_12 rfl ?_
    refine x_iconst (0) dm_88_15 (by decide) ?_
    refine x_goto 32 dm_88_16 rfl ?_
    exact x_iretC dm_88_32 rfl
  refine im_callK mf_31 rfl (tg_31_s _ c1 c2 _) (im_runV (as := [.inl x1]) (rest := []) dm_88_5 mf_31 (Nat.le_of_ble_eq_true rfl) ml_7_85 mi_31 ms_31 mp_31 (Nat.le_of_ble_eq_true rfl) rfl rfl ⟨_, _, rfl⟩) rfl ?_
  refine x_astore dm_88_8 (Nat.le_of_ble_eq_true rfl) ?_
  refine x_aload dm_88_10 rfl ?_
  refine x_ifnonnull_s 19 dm_88_12 rfl ?_
  refine x_aload dm_88_19 rfl ?_
  refine x_getRC dm_88_21 fl_7_112 rfl rfl (kc_S0 (st_ix3 c1 c2)) (rc_S3 (st_ix3 c1 c2)) ?_
  refine x_getRC dm_88_24 fl_7_116 rfl rfl (kc_D (dk_S (st_ix3 c1 c2))) (rc_D (dk_S (st_ix3 c1 c2))) ?_
  refine x_iload_n dm_88_27 rfl ?_
  refine x_iload_n dm_88_28 rfl ?_
  refine im_callCI mf_3 rfl (tg_3 _ (lk_D (dk_S (st_ix3 c1 c2))) x2 x3 M) (im_runV (as := [.inl x2, .inl x3]) (rest := []) dm_88_29 mf_3 (Nat.le_of_ble_eq_true rfl) ml_7_122 mi_3 ms_3 mp_3 (Nat.le_of_ble_eq_true rfl) rfl (kc_L (lk_D (dk_S (st_ix3 c1 c2)))) ⟨_, _, rfl⟩) rfl (fun b3 hb3 => ?_)
  exact x_iretC dm_88_32 rfl
/-- FencedModules$Rewriter.targetOf(LFencedModules$Source;I)I -/
def gn_136 (x1 : Int32) (M : im_M) : Option (Int32 × im_M) :=
  (gn_66 x1 M).bind fun b1 => (gn_68 b1.1 b1.2).bind fun b2 => some (b2.1, b2.2)
set_option maxRecDepth 100000 in
set_option maxHeartbeats 4000000 in
theorem tg_136 (x1 : Int32) (M : im_M) : im_Go zC_I 2 fm_136 0 (im_en 0 [.inr (some 1), .inl x1]) [] (st_hC M) (gn_136 x1 M) := by
  unfold gn_136
  refine x_aload_n dm_136_0 rfl ?_
  refine x_aload_n dm_136_1 rfl ?_
  refine x_iload_n dm_136_2 rfl ?_
  refine im_callCI mf_66 rfl (tg_66 x1 M) (im_runV (as := [.inl x1]) (rest := [.inr (some 1)]) dm_136_3 mf_66 (Nat.le_of_ble_eq_true rfl) ml_9_70 mi_66 ms_66 mp_66 (Nat.le_of_ble_eq_true rfl) rfl rfl ⟨_, _, rfl⟩) rfl (fun b1 hb1 => ?_)
  refine im_callCI mf_68 rfl (tg_68 b1.1 b1.2) (im_runV (as := [.inl b1.1]) (rest := []) dm_136_6 mf_68 (Nat.le_of_ble_eq_true rfl) ml_9_73 mi_68 ms_68 mp_68 (Nat.le_of_ble_eq_true rfl) rfl rfl ⟨_, _, rfl⟩) rfl (fun b2 hb2 => ?_)
  exact x_iretC dm_136_9 rfl
