/-- FencedModulesModel.line(IIII)Z -/
def fn_93 (j : Nat) (x1 : Int32) (x2 : Int32) (x3 : Int32) (x4 : Int32) (h : im_H) : Option (Int32 × im_H) :=
  (fn_92 x1 (0 : Int32) (15 : Int32) h).bind fun b1 => if b1.1 = 0 then (some ((0 : Int32), b1.2)) else ((fn_92 x2 (0 : Int32) (7 : Int32) b1.2).bind fun b3 => if b3.1 = 0 then (some ((0 : Int32), b3.2)) else ((fn_92 x3 (0 : Int32) (7 : Int32) b3.2).bind fun b5 => if b5.1 = 0 then (some ((0 : Int32), b5.2)) else ((fn_92 x4 (-2097152 : Int32) (2097151 : Int32) b5.2).bind fun b7 => if b7.1 = 0 then (some ((0 : Int32), b7.2)) else (if b7.2.2.1 j = (0, 8) then (if (im_gI b7.2 j 16) = (24 : Int32) then (some ((0 : Int32), b7.2)) else (((im_gR b7.2 j 17)).bind fun q11 => if im_in b7.2 1 q11 (im_gI b7.2 j 16) then (let h13 : im_H := im_pI b7.2 q11 ((im_gI b7.2 j 16)).toNatClampNeg x1; ((im_gR b7.2 j 18)).bind fun q14 => if im_in b7.2 1 q14 (im_gI h13 j 16) then (let h16 : im_H := im_pI h13 q14 ((im_gI h13 j 16)).toNatClampNeg x2; ((im_gR b7.2 j 19)).bind fun q17 => if im_in b7.2 1 q17 (im_gI h16 j 16) then (let h19 : im_H := im_pI h16 q17 ((im_gI h16 j 16)).toNatClampNeg x3; ((im_gR b7.2 j 20)).bind fun q20 => if im_in b7.2 1 q20 (im_gI h19 j 16) then (let h22 : im_H := im_pI h19 q20 ((im_gI h19 j 16)).toNatClampNeg x4; let h23 : im_H := im_pI h22 j 16 ((im_gI h22 j 16) + (1 : Int32)); some ((1 : Int32), h23)) else none) else none) else none) else none)) else none))))
set_option maxRecDepth 100000 in
set_option maxHeartbeats 4000000 in
theorem tn_93 (j : Nat) (x1 : Int32) (x2 : Int32) (x3 : Int32) (x4 : Int32) (h : im_H) : im_Go im_zI 1 fm_93 0 (im_en 0 [.inr (some j), .inl x1, .inl x2, .inl x3, .inl x4]) [] h (fn_93 j x1 x2 x3 x4 h) := by
  unfold fn_93
  refine x_iload_n dm_93_0 rfl ?_
  refine x_iconst (0) dm_93_1 (by decide) ?_
  refine x_bipush (15) dm_93_2 (by decide) ?_
  refine im_callI mf_92 rfl (tn_92 x1 (0 : Int32) (15 : Int32) h) (im_runS (as := [.inl x1, .inl (0 : Int32), .inl (15 : Int32)]) (rest := []) dm_93_4 mf_92 (Nat.le_of_ble_eq_true rfl) ml_8_83 mi_92 mp_92 (Nat.le_of_ble_eq_true rfl)) rfl (fun b1 hb1 => ?_)
  refine x_if_eq 51 dm_93_7 rfl (fun c2 => ?_) (fun c2 => ?_)
  · refine x_iconst (0) dm_93_51 (by decide) ?_
    exact x_zreturn dm_93_52 rfl (by decide)
  · refine x_iload_n dm_93_10 rfl ?_
    refine x_iconst (0) dm_93_11 (by decide) ?_
    refine x_bipush (7) dm_93_12 (by decide) ?_
    refine im_callI mf_92 rfl (tn_92 x2 (0 : Int32) (7 : Int32) b1.2) (im_runS (as := [.inl x2, .inl (0 : Int32), .inl (7 : Int32)]) (rest := []) dm_93_14 mf_92 (Nat.le_of_ble_eq_true rfl) ml_8_83 mi_92 mp_92 (Nat.le_of_ble_eq_true rfl)) rfl (fun b3 hb3 => ?_)
    refine x_if_eq 51 dm_93_17 rfl (fun c4 => ?_) (fun c4 => ?_)
    · refine x_iconst (0) dm_93_51 (by decide) ?_
      exact x_zreturn dm_93_52 rfl (by decide)
    · refine x_iload_n dm_93_20 rfl ?_
      refine x_iconst (0) dm_93_21 (by decide) ?_
      refine x_bipush (7) dm_93_22 (by decide) ?_
      refine im_callI mf_92 rfl (tn_92 x3 (0 : Int32) (7 : Int32) b3.2) (im_runS (as := [.inl x3, .inl (0 : Int32), .inl (7 : Int32)]) (rest := []) dm_93_24 mf_92 (Nat.le_of_ble_eq_true rfl) ml_8_83 mi_92 mp_92 (Nat.le_of_ble_eq_true rfl)) rfl (fun b5 hb5 => ?_)
      refine x_if_eq 51 dm_93_27 rfl (fun c6 => ?_) (fun c6 => ?_)
      · refine x_iconst (0) dm_93_51 (by decide) ?_
        exact x_zreturn dm_93_52 rfl (by decide)
      · refine x_iload dm_93_30 rfl ?_
        refine x_ldc (-2097152) dm_93_32 kc_8_87 ?_
        refine x_ldc (2097151) dm_93_34 kc_8_88 ?_
        refine im_callI mf_92 rfl (tn_92 x4 (-2097152 : Int32) (2097151 : Int32) b5.2) (im_runS (as := [.inl x4, .inl (-2097152 : Int32), .inl (2097151 : Int32)]) (rest := []) dm_93_36 mf_92 (Nat.le_of_ble_eq_true rfl) ml_8_83 mi_92 mp_92 (Nat.le_of_ble_eq_true rfl)) rfl (fun b7 hb7 => ?_)
        refine x_if_eq 51 dm_93_39 rfl (fun c8 => ?_) (fun c8 => ?_)
        · refine x_iconst (0) dm_93_51 (by decide) ?_
          exact x_zreturn dm_93_52 rfl (by decide)
        · refine x_aload_n dm_93_42 rfl ?_
          refine im_chk _ (fun hk9 => ?_)
          refine x_getI dm_93_43 fl_8_89 rfl rfl hk9 ?_
          refine x_bipush (24) dm_93_46 (by decide) ?_
          refine x_icmp_ne 53 dm_93_48 rfl (fun c10 => ?_) (fun c10 => ?_)
          · refine x_iconst (0) dm_93_51 (by decide) ?_
            exact x_zreturn dm_93_52 rfl (by decide)
          · refine x_aload_n dm_93_53 rfl ?_
            refine x_getR dm_93_54 fl_8_52 rfl rfl hk9 ?_
            refine x_aload_n dm_93_57 rfl ?_
            refine x_getI dm_93_58 fl_8_89 rfl rfl hk9 ?_
            refine x_iload_n dm_93_61 rfl ?_
            refine im_bind (fun q11 hq11 => ?_)
            refine im_chk _ (fun hi12 => ?_)
            refine x_iastore dm_93_62 hq11 hi12 ?_
            refine x_aload_n dm_93_63 rfl ?_
            refine x_getR dm_93_64 fl_8_55 rfl rfl hk9 ?_
            refine x_aload_n dm_93_67 rfl ?_
            refine x_getI dm_93_68 fl_8_89 rfl rfl hk9 ?_
            refine x_iload_n dm_93_71 rfl ?_
            refine im_bind (fun q14 hq14 => ?_)
            refine im_chk _ (fun hi15 => ?_)
            refine x_iastore dm_93_72 hq14 hi15 ?_
            refine x_aload_n dm_93_73 rfl ?_
            refine x_getR dm_93_74 fl_8_58 rfl rfl hk9 ?_
            refine x_aload_n dm_93_77 rfl ?_
            refine x_getI dm_93_78 fl_8_89 rfl rfl hk9 ?_
            refine x_iload_n dm_93_81 rfl ?_
            refine im_bind (fun q17 hq17 => ?_)
            refine im_chk _ (fun hi18 => ?_)
            refine x_iastore dm_93_82 hq17 hi18 ?_
            refine x_aload_n dm_93_83 rfl ?_
            refine x_getR dm_93_84 fl_8_61 rfl rfl hk9 ?_
            refine x_aload_n dm_93_87 rfl ?_
            refine x_getI dm_93_88 fl_8_89 rfl rfl hk9 ?_
            refine x_iload dm_93_91 rfl ?_
            refine im_bind (fun q20 hq20 => ?_)
            refine im_chk _ (fun hi21 => ?_)
            refine x_iastore dm_93_93 hq20 hi21 ?_
            refine x_aload_n dm_93_94 rfl ?_
            refine x_dup dm_93_95 ?_
            refine x_getI dm_93_96 fl_8_89 rfl rfl hk9 ?_
            refine x_iconst (1) dm_93_99 (by decide) ?_
            refine x_iadd dm_93_100 ?_
            refine x_putI dm_93_101 fl_8_89 rfl rfl hk9 ?_
            refine x_iconst (1) dm_93_104 (by decide) ?_
            exact x_zreturn dm_93_105 rfl (by decide)
/-- FencedModulesModel.mark(I)Z -/
def fn_94 (j : Nat) (x1 : Int32) (h : im_H) : Option (Int32 × im_H) :=
  (fn_92 x1 (0 : Int32) (7 : Int32) h).bind fun b1 => if b1.1 = 0 then (some ((0 : Int32), b1.2)) else (if b1.2.2.1 j = (0, 8) then (((im_gR b1.2 j 21)).bind fun q4 => if im_in b1.2 2 q4 x1 then (if (im_gI b1.2 q4 (x1).toNatClampNeg) = 0 then (let h7 : im_H := im_pI b1.2 q4 (x1).toNatClampNeg ((1 : Int32) &&& 1); ((im_gR b1.2 j 22)).bind fun q8 => if im_in b1.2 1 q8 x1 then (let h10 : im_H := im_pI h7 q8 (x1).toNatClampNeg (im_gI h7 j 16); some ((1 : Int32), h10)) else none) else (some ((0 : Int32), b1.2))) else none) else none)
set_option maxRecDepth 100000 in
set_option maxHeartbeats 4000000 in
theorem tn_94 (j : Nat) (x1 : Int32) (h : im_H) : im_Go im_zI 1 fm_94 0 (im_en 0 [.inr (some j), .inl x1]) [] h (fn_94 j x1 h) := by
  unfold fn_94
  refine x_iload_n dm_94_0 rfl ?_
  refine x_iconst (0) dm_94_1 (by decide) ?_
  refine x_bipush (7) dm_94_2 (by decide) ?_
  refine im_callI mf_92 rfl (tn_92 x1 (0 : Int32) (7 : Int32) h) (im_runS (as := [.inl x1, .inl (0 : Int32), .inl (7 : Int32)]) (rest := []) dm_94_4 mf_92 (Nat.le_of_ble_eq_true rfl) ml_8_83 mi_92 mp_92 (Nat.le_of_ble_eq_true rfl)) rfl (fun b1 hb1 => ?_)
  refine x_if_eq 19 dm_94_7 rfl (fun c2 => ?_) (fun c2 => ?_)
  · refine x_iconst (0) dm_94_19 (by decide) ?_
    exact x_zreturn dm_94_20 rfl (by decide)
  · refine x_aload_n dm_94_10 rfl ?_
    refine im_chk _ (fun hk3 => ?_)
    refine x_getR dm_94_11 fl_8_64 rfl rfl hk3 ?_
    refine x_iload_n dm_94_14 rfl ?_
    refine im_bind (fun q4 hq4 => ?_)
    refine im_chk _ (fun hi5 => ?_)
    refine x_baload dm_94_15 hq4 hi5 ?_
    refine x_if_eq 21 dm_94_16 rfl (fun c6 => ?_) (fun c6 => ?_)
    · refine x_aload_n dm_94_21 rfl ?_
      refine x_getR dm_94_22 fl_8_64 rfl rfl hk3 ?_
      refine x_iload_n dm_94_25 rfl ?_
      refine x_iconst (1) dm_94_26 (by decide) ?_
      refine x_bastore dm_94_27 hq4 hi5 ?_
      refine x_aload_n dm_94_28 rfl ?_
      refine x_getR dm_94_29 fl_8_68 rfl rfl hk3 ?_
      refine x_iload_n dm_94_32 rfl ?_
      refine x_aload_n dm_94_33 rfl ?_
      refine x_getI dm_94_34 fl_8_89 rfl rfl hk3 ?_
      refine im_bind (fun q8 hq8 => ?_)
      refine im_chk _ (fun hi9 => ?_)
      refine x_iastore dm_94_37 hq8 hi9 ?_
      refine x_iconst (1) dm_94_38 (by decide) ?_
      exact x_zreturn dm_94_39 rfl (by decide)
    · refine x_iconst (0) dm_94_19 (by decide) ?_
      exact x_zreturn dm_94_20 rfl (by decide)
def fn_97_101 (j : Nat) (y3 : Int32) (h : im_H) : Option (Int32 × im_H) :=
  (fn_92 y3 (0 : Int32) (7 : Int32) h).bind fun b1 => if b1.1 = 0 then (some ((0 : Int32), b1.2)) else (if b1.2.2.1 j = (0, 8) then (((im_gR b1.2 j 21)).bind fun q4 => if im_in b1.2 2 q4 y3 then (if (im_gI b1.2 q4 (y3).toNatClampNeg) = 0 then (some ((0 : Int32), b1.2)) else (some ((1 : Int32), b1.2))) else none) else none)
set_option maxRecDepth 100000 in
set_option maxHeartbeats 4000000 in
theorem tn_97_101 (j : Nat) (y3 : Int32) (h : im_H) : im_Go im_zI 1 fm_97 101 [(0, .inr (some j)), (3, .inl y3)] [] h (fn_97_101 j y3 h) := by
  unfold fn_97_101
  refine x_iload_n dm_97_101 rfl ?_
  refine x_iconst (0) dm_97_102 (by decide) ?_
  refine x_bipush (7) dm_97_103 (by decide) ?_
  refine im_callI mf_92 rfl (tn_92 y3 (0 : Int32) (7 : Int32) h) (im_runS (as := [.inl y3, .inl (0 : Int32), .inl (7 : Int32)]) (rest := []) dm_97_105 mf_92 (Nat.le_of_ble_eq_true rfl) ml_8_83 mi_92 mp_92 (Nat.le_of_ble_eq_true rfl)) rfl (fun b1 hb1 => ?_)
  refine x_if_eq 124 dm_97_108 rfl (fun c2 => ?_) (fun c2 => ?_)
  · refine x_iconst (0) dm_97_124 (by decide) ?_
    exact x_zreturn dm_97_125 rfl (by decide)
  · refine x_aload_n dm_97_111 rfl ?_
    refine im_chk _ (fun hk3 => ?_)
    refine x_getR dm_97_112 fl_8_64 rfl rfl hk3 ?_
    refine x_iload_n dm_97_115 rfl ?_
    refine im_bind (fun q4 hq4 => ?_)
    refine im_chk _ (fun hi5 => ?_)
    refine x_baload dm_97_116 hq4 hi5 ?_
    refine x_if_eq 124 dm_97_117 rfl (fun c6 => ?_) (fun c6 => ?_)
    · refine x_iconst (0) dm_97_124 (by decide) ?_
      exact x_zreturn dm_97_125 rfl (by decide)
    · refine x_iconst (1) dm_97_120 (by decide) ?_
      refine x_goto 125 dm_97_121 rfl ?_
      exact x_zreturn dm_97_125 rfl (by decide)
def fn_97_142 (j : Nat) (h : im_H) : Option (Int32 × im_H) :=
  some ((1 : Int32), h)
set_option maxRecDepth 100000 in
set_option maxHeartbeats 4000000 in
theorem tn_97_142 (j : Nat) (h : im_H) : im_Go im_zI 1 fm_97 142 [] [] h (fn_97_142 j h) := by
  unfold fn_97_142
  refine x_iconst (1) dm_97_142 (by decide) ?_
  refine x_goto 147 dm_97_143 rfl ?_
  exact x_zreturn dm_97_147 rfl (by decide)
def fn_97_84 (j : Nat) (y2 : Int32) (y3 : Int32) (h : im_H) : Option (Int32 × im_H) :=
  (fn_92 y2 (10 : Int32) (12 : Int32) h).bind fun b1 => if b1.1 = 0 then (if y2 = (15 : Int32) then (fn_97_101 j y3 b1.2) else (if y2 = (14 : Int32) then ((fn_92 y3 (0 : Int32) (6 : Int32) b1.2).bind fun b5 => if b5.1 = 0 then (some ((0 : Int32), b5.2)) else (fn_97_142 j b5.2)) else (fn_97_142 j b1.2))) else (fn_97_101 j y3 b1.2)
set_option maxRecDepth 100000 in
set_option maxHeartbeats 4000000 in
theorem tn_97_84 (j : Nat) (y2 : Int32) (y3 : Int32) (h : im_H) : im_Go im_zI 1 fm_97 84 [(0, .inr (some j)), (2, .inl y2), (3, .inl y3)] [] h (fn_97_84 j y2 y3 h) := by
  unfold fn_97_84
  refine x_iload_n dm_97_84 rfl ?_
  refine x_bipush (10) dm_97_85 (by decide) ?_
  refine x_bipush (12) dm_97_87 (by decide) ?_
  refine im_callI mf_92 rfl (tn_92 y2 (10 : Int32) (12 : Int32) h) (im_runS (as := [.inl y2, .inl (10 : Int32), .inl (12 : Int32)]) (rest := []) dm_97_89 mf_92 (Nat.le_of_ble_eq_true rfl) ml_8_83 mi_92 mp_92 (Nat.le_of_ble_eq_true rfl)) rfl (fun b1 hb1 => ?_)
  refine x_if_ne 101 dm_97_92 rfl (fun c2 => ?_) (fun c2 => ?_)
  · refine x_iload_n dm_97_95 rfl ?_
    refine x_bipush (15) dm_97_96 (by decide) ?_
    refine x_icmp_ne 126 dm_97_98 rfl (fun c3 => ?_) (fun c3 => ?_)
    · exact im_lsub [(0, .inr (some j)), (3, .inl y3)] (im_sb_c rfl (im_sb_c rfl im_sb_n)) (tn_97_101 j y3 b1.2)
    · refine x_iload_n dm_97_126 rfl ?_
      refine x_bipush (14) dm_97_127 (by decide) ?_
      refine x_icmp_ne 142 dm_97_129 rfl (fun c4 => ?_) (fun c4 => ?_)
      · refine x_iload_n dm_97_132 rfl ?_
        refine x_iconst (0) dm_97_133 (by decide) ?_
        refine x_bipush (6) dm_97_134 (by decide) ?_
        refine im_callI mf_92 rfl (tn_92 y3 (0 : Int32) (6 : Int32) b1.2) (im_runS (as := [.inl y3, .inl (0 : Int32), .inl (6 : Int32)]) (rest := []) dm_97_136 mf_92 (Nat.le_of_ble_eq_true rfl) ml_8_83 mi_92 mp_92 (Nat.le_of_ble_eq_true rfl)) rfl (fun b5 hb5 => ?_)
        refine x_if_eq 146 dm_97_139 rfl (fun c6 => ?_) (fun c6 => ?_)
        · refine x_iconst (0) dm_97_146 (by decide) ?_
          exact x_zreturn dm_97_147 rfl (by decide)
        · exact im_lsub [] im_sb_n (tn_97_142 j b5.2)
      · exact im_lsub [] im_sb_n (tn_97_142 j b1.2)
  · exact im_lsub [(0, .inr (some j)), (3, .inl y3)] (im_sb_c rfl (im_sb_c rfl im_sb_n)) (tn_97_101 j y3 b1.2)
def fn_97_67 (j : Nat) (y1 : Int32) (y2 : Int32) (y3 : Int32) (y4 : Int32) (h : im_H) : Option (Int32 × im_H) :=
  if y4 = 0 then (fn_97_84 j y2 y3 h) else (if h.2.1 j = (0, 8) then (((im_gR h j 19)).bind fun q3 => if im_in h 1 q3 y1 then (if (im_gI h q3 (y1).toNatClampNeg) ≤ (4 : Int32) then (fn_97_84 j y2 y3 h) else (some ((0 : Int32), h))) else none) else none)
set_option maxRecDepth 100000 in
set_option maxHeartbeats 4000000 in
theorem tn_97_67 (j : Nat) (y1 : Int32) (y2 : Int32) (y3 : Int32) (y4 : Int32) (h : im_H) : im_Go im_zI 1 fm_97 67 [(0, .inr (some j)), (1, .inl y1), (2, .inl y2), (3, .inl y3), (4, .inl y4)] [] h (fn_97_67 j y1 y2 y3 y4 h) := by
  unfold fn_97_67
  refine x_iload dm_97_67 rfl ?_
  refine x_if_eq 84 dm_97_69 rfl (fun c1 => ?_) (fun c1 => ?_)
  · exact im_lsub [(0, .inr (some j)), (2, .inl y2), (3, .inl y3)] (im_sb_c rfl (im_sb_c rfl (im_sb_c rfl im_sb_n))) (tn_97_84 j y2 y3 h)
  · refine x_aload_n dm_97_72 rfl ?_
    refine im_chk _ (fun hk2 => ?_)
    refine x_getR dm_97_73 fl_8_58 rfl rfl hk2 ?_
    refine x_iload_n dm_97_76 rfl ?_
    refine im_bind (fun q3 hq3 => ?_)
    refine im_chk _ (fun hi4 => ?_)
    refine x_iaload dm_97_77 hq3 hi4 ?_
    refine x_iconst (4) dm_97_78 (by decide) ?_
    refine x_icmp_le 84 dm_97_79 rfl (fun c5 => ?_) (fun c5 => ?_)
    · exact im_lsub [(0, .inr (some j)), (2, .inl y2), (3, .inl y3)] (im_sb_c rfl (im_sb_c rfl (im_sb_c rfl im_sb_n))) (tn_97_84 j y2 y3 h)
    · refine x_iconst (0) dm_97_82 (by decide) ?_
      exact x_zreturn dm_97_83 rfl (by decide)
def fn_97_50 (j : Nat) (y1 : Int32) (y2 : Int32) (y3 : Int32) (y4 : Int32) (s0 : Int32) (h : im_H) : Option (Int32 × im_H) :=
  if s0 = 0 then (fn_97_67 j y1 y2 y3 y4 h) else (if h.2.1 j = (0, 8) then (((im_gR h j 18)).bind fun q3 => if im_in h 1 q3 y1 then (if (4 : Int32) < (im_gI h q3 (y1).toNatClampNeg) then (some ((0 : Int32), h)) else (fn_97_67 j y1 y2 y3 y4 h)) else none) else none)
set_option maxRecDepth 100000 in
set_option maxHeartbeats 4000000 in
theorem tn_97_50 (j : Nat) (y1 : Int32) (y2 : Int32) (y3 : Int32) (y4 : Int32) (s0 : Int32) (h : im_H) : im_Go im_zI 1 fm_97 50 [(0, .inr (some j)), (1, .inl y1), (2, .inl y2), (3, .inl y3), (4, .inl y4)] [.inl s0] h (fn_97_50 j y1 y2 y3 y4 s0 h) := by
  unfold fn_97_50
  refine x_istore dm_97_50 (Nat.le_of_ble_eq_true rfl) ?_
  refine x_iload dm_97_52 rfl ?_
  refine x_if_eq 67 dm_97_54 rfl (fun c1 => ?_) (fun c1 => ?_)
  · exact im_lsub [(0, .inr (some j)), (1, .inl y1), (2, .inl y2), (3, .inl y3), (4, .inl y4)] (im_sb_c rfl (im_sb_c rfl (im_sb_c rfl (im_sb_c rfl (im_sb_c rfl im_sb_n))))) (tn_97_67 j y1 y2 y3 y4 h)
  · refine x_aload_n dm_97_57 rfl ?_
    refine im_chk _ (fun hk2 => ?_)
    refine x_getR dm_97_58 fl_8_55 rfl rfl hk2 ?_
    refine x_iload_n dm_97_61 rfl ?_
    refine im_bind (fun q3 hq3 => ?_)
    refine im_chk _ (fun hi4 => ?_)
    refine x_iaload dm_97_62 hq3 hi4 ?_
    refine x_iconst (4) dm_97_63 (by decide) ?_
    refine x_icmp_gt 82 dm_97_64 rfl (fun c5 => ?_) (fun c5 => ?_)
    · refine x_iconst (0) dm_97_82 (by decide) ?_
      exact x_zreturn dm_97_83 rfl (by decide)
    · exact im_lsub [(0, .inr (some j)), (1, .inl y1), (2, .inl y2), (3, .inl y3), (4, .inl y4)] (im_sb_c rfl (im_sb_c rfl (im_sb_c rfl (im_sb_c rfl (im_sb_c rfl im_sb_n))))) (tn_97_67 j y1 y2 y3 y4 h)
def fn_97_45 (j : Nat) (y1 : Int32) (y2 : Int32) (y3 : Int32) (y4 : Int32) (h : im_H) : Option (Int32 × im_H) :=
  fn_97_50 j y1 y2 y3 y4 (1 : Int32) h
set_option maxRecDepth 100000 in
set_option maxHeartbeats 4000000 in
theorem tn_97_45 (j : Nat) (y1 : Int32) (y2 : Int32) (y3 : Int32) (y4 : Int32) (h : im_H) : im_Go im_zI 1 fm_97 45 [(0, .inr (some j)), (1, .inl y1), (2, .inl y2), (3, .inl y3), (4, .inl y4)] [] h (fn_97_45 j y1 y2 y3 y4 h) := by
  unfold fn_97_45
  refine x_iconst (1) dm_97_45 (by decide) ?_
  refine x_goto 50 dm_97_46 rfl ?_
  exact im_lsub [(0, .inr (some j)), (1, .inl y1), (2, .inl y2), (3, .inl y3), (4, .inl y4)] (im_sb_c rfl (im_sb_c rfl (im_sb_c rfl (im_sb_c rfl (im_sb_c rfl im_sb_n))))) (tn_97_50 j y1 y2 y3 y4 (1 : Int32) h)
/-- FencedModulesModel.fits(I)Z -/
def fn_97 (j : Nat) (x1 : Int32) (h : im_H) : Option (Int32 × im_H) :=
  if h.2.1 j = (0, 8) then (((im_gR h j 17)).bind fun q2 => if im_in h 1 q2 x1 then (let v4 : Int32 := (im_gI h q2 (x1).toNatClampNeg); ((im_gR h j 20)).bind fun q5 => if im_in h 1 q5 x1 then (let v7 : Int32 := (im_gI h q5 (x1).toNatClampNeg); (fn_92 v4 (2 : Int32) (11 : Int32) h).bind fun b8 => if b8.1 = 0 then (if v4 = (1 : Int32) then (fn_97_45 j x1 v4 v7 b8.1 b8.2) else (if v4 = (13 : Int32) then (fn_97_45 j x1 v4 v7 b8.1 b8.2) else (if v4 = (15 : Int32) then (fn_97_45 j x1 v4 v7 b8.1 b8.2) else (fn_97_50 j x1 v4 v7 b8.1 (0 : Int32) b8.2)))) else (fn_97_45 j x1 v4 v7 b8.1 b8.2)) else none) else none) else none
set_option maxRecDepth 100000 in
set_option maxHeartbeats 4000000 in
theorem tn_97 (j : Nat) (x1 : Int32) (h : im_H) : im_Go im_zI 1 fm_97 0 (im_en 0 [.inr (some j), .inl x1]) [] h (fn_97 j x1 h) := by
  unfold fn_97
  refine x_aload_n dm_97_0 rfl ?_
  refine im_chk _ (fun hk1 => ?_)
  refine x_getR dm_97_1 fl_8_52 rfl rfl hk1 ?_
  refine x_iload_n dm_97_4 rfl ?_
  refine im_bind (fun q2 hq2 => ?_)
  refine im_chk _ (fun hi3 => ?_)
  refine x_iaload dm_97_5 hq2 hi3 ?_
  refine x_istore_n dm_97_6 (Nat.le_of_ble_eq_true rfl) ?_
  refine x_aload_n dm_97_7 rfl ?_
  refine x_getR dm_97_8 fl_8_61 rfl rfl hk1 ?_
  refine x_iload_n dm_97_11 rfl ?_
  refine im_bind (fun q5 hq5 => ?_)
  refine im_chk _ (fun hi6 => ?_)
  refine x_iaload dm_97_12 hq5 hi6 ?_
  refine x_istore_n dm_97_13 (Nat.le_of_ble_eq_true rfl) ?_
  refine x_iload_n dm_97_14 rfl ?_
  refine x_iconst (2) dm_97_15 (by decide) ?_
  refine x_bipush (11) dm_97_16 (by decide) ?_
  refine im_callI mf_92 rfl (tn_92 _ (2 : Int32) (11 : Int32) h) (im_runS (as := [.inl _, .inl (2 : Int32), .inl (11 : Int32)]) (rest := []) dm_97_18 mf_92 (Nat.le_of_ble_eq_true rfl) ml_8_83 mi_92 mp_92 (Nat.le_of_ble_eq_true rfl)) rfl (fun b8 hb8 => ?_)
  refine x_istore dm_97_21 (Nat.le_of_ble_eq_true rfl) ?_
  refine x_iload dm_97_23 rfl ?_
  refine x_if_ne 45 dm_97_25 rfl (fun c9 => ?_) (fun c9 => ?_)
  · refine x_iload_n dm_97_28 rfl ?_
    refine x_iconst (1) dm_97_29 (by decide) ?_
    refine x_icmp_eq 45 dm_97_30 rfl (fun c10 => ?_) (fun c10 => ?_)
    · exact im_lsub [(0, .inr (some j)), (1, .inl x1), (2, .inl _), (3, .inl _), (4, .inl b8.1)] (im_sb_c rfl (im_sb_c rfl (im_sb_c rfl (im_sb_c rfl (im_sb_c rfl im_sb_n))))) (tn_97_45 j x1 _ _ b8.1 b8.2)
    · refine x_iload_n dm_97_33 rfl ?_
      refine x_bipush (13) dm_97_34 (by decide) ?_
      refine x_icmp_eq 45 dm_97_36 rfl (fun c11 => ?_) (fun c11 => ?_)
      · exact im_lsub [(0, .inr (some j)), (1, .inl x1), (2, .inl _), (3, .inl _), (4, .inl b8.1)] (im_sb_c rfl (im_sb_c rfl (im_sb_c rfl (im_sb_c rfl (im_sb_c rfl im_sb_n))))) (tn_97_45 j x1 _ _ b8.1 b8.2)
      · refine x_iload_n dm_97_39 rfl ?_
        refine x_bipush (15) dm_97_40 (by decide) ?_
        refine x_icmp_ne 49 dm_97_42 rfl (fun c12 => ?_) (fun c12 => ?_)
        · exact im_lsub [(0, .inr (some j)), (1, .inl x1), (2, .inl _), (3, .inl _), (4, .inl b8.1)] (im_sb_c rfl (im_sb_c rfl (im_sb_c rfl (im_sb_c rfl (im_sb_c rfl im_sb_n))))) (tn_97_45 j x1 _ _ b8.1 b8.2)
        · refine x_iconst (0) dm_97_49 (by decide) ?_
          exact im_lsub [(0, .inr (some j)), (1, .inl x1), (2, .inl _), (3, .inl _), (4, .inl b8.1)] (im_sb_c rfl (im_sb_c rfl (im_sb_c rfl (im_sb_c rfl (im_sb_c rfl im_sb_n))))) (tn_97_50 j x1 _ _ b8.1 (0 : Int32) b8.2)
  · exact im_lsub [(0, .inr (some j)), (1, .inl x1), (2, .inl _), (3, .inl _), (4, .inl b8.1)] (im_sb_c rfl (im_sb_c rfl (im_sb_c rfl (im_sb_c rfl (im_sb_c rfl im_sb_n))))) (tn_97_45 j x1 _ _ b8.1 b8.2)
/-- FencedModulesModel.target(I)I -/
def fn_101 (j : Nat) (x1 : Int32) (h : im_H) : Option (Int32 × im_H) :=
  if h.2.1 j = (0, 8) then (((im_gR h j 22)).bind fun q2 => if im_in h 1 q2 x1 then ((fn_96 j (im_gI h q2 (x1).toNatClampNeg) h).bind fun b4 => some (b4.1, b4.2)) else none) else none
set_option maxRecDepth 100000 in
set_option maxHeartbeats 4000000 in
theorem tn_101 (j : Nat) (x1 : Int32) (h : im_H) : im_Go im_zI 1 fm_101 0 (im_en 0 [.inr (some j), .inl x1]) [] h (fn_101 j x1 h) := by
  unfold fn_101
  refine x_aload_n dm_101_0 rfl ?_
  refine x_aload_n dm_101_1 rfl ?_
  refine im_chk _ (fun hk1 => ?_)
  refine x_getR dm_101_2 fl_8_68 rfl rfl hk1 ?_
  refine x_iload_n dm_101_5 rfl ?_
  refine im_bind (fun q2 hq2 => ?_)
  refine im_chk _ (fun hi3 => ?_)
  refine x_iaload dm_101_6 hq2 hi3 ?_
  refine im_callI mf_96 rfl (tn_96 j _ h) (im_runV (as := [.inl _]) (rest := []) dm_101_7 mf_96 (Nat.le_of_ble_eq_true rfl) ml_8_100 mi_96 ms_96 mp_96 (Nat.le_of_ble_eq_true rfl) rfl hk1 ⟨_, _, rfl⟩) rfl (fun b4 hb4 => ?_)
  exact x_ireturn dm_101_10 rfl
/-- FencedModulesModel.word(I)Z -/
def fn_104 (j : Nat) (x1 : Int32) (h : im_H) : Option (Int32 × im_H) :=
  if h.2.1 j = (0, 8) then (if (im_gI h j 23) = (31 : Int32) then (some ((0 : Int32), h)) else ((fn_100 j x1 h).bind fun b3 => some ((1 : Int32), b3))) else none
set_option maxRecDepth 100000 in
set_option maxHeartbeats 4000000 in
theorem tn_104 (j : Nat) (x1 : Int32) (h : im_H) : im_Go im_zI 1 fm_104 0 (im_en 0 [.inr (some j), .inl x1]) [] h (fn_104 j x1 h) := by
  unfold fn_104
  refine x_aload_n dm_104_0 rfl ?_
  refine im_chk _ (fun hk1 => ?_)
  refine x_getI dm_104_1 fl_8_93 rfl rfl hk1 ?_
  refine x_bipush (31) dm_104_4 (by decide) ?_
  refine x_icmp_ne 11 dm_104_6 rfl (fun c2 => ?_) (fun c2 => ?_)
  · refine x_iconst (0) dm_104_9 (by decide) ?_
    exact x_zreturn dm_104_10 rfl (by decide)
  · refine x_aload_n dm_104_11 rfl ?_
    refine x_iload_n dm_104_12 rfl ?_
    refine im_callV mf_100 rfl (tn_100 j x1 h) (im_runV (as := [.inl x1]) (rest := []) dm_104_13 mf_100 (Nat.le_of_ble_eq_true rfl) ml_8_112 mi_100 ms_100 mp_100 (Nat.le_of_ble_eq_true rfl) rfl hk1 ⟨_, _, rfl⟩) rfl (fun b3 hb3 => ?_)
    refine x_iconst (1) dm_104_16 (by decide) ?_
    exact x_zreturn dm_104_17 rfl (by decide)
/-- FencedModulesModel.module(I)I -/
def fn_105 (j : Nat) (x1 : Int32) (h : im_H) : Option (Int32 × im_H) :=
  if x1 = (-1 : Int32) then (if h.2.1 j = (0, 8) then (some ((im_gI h j 23), h)) else none) else (if h.2.1 j = (0, 8) then ((fn_92 x1 (0 : Int32) ((im_gI h j 23) - (1 : Int32)) h).bind fun b4 => if b4.1 = 0 then (some ((0 : Int32), b4.2)) else (if b4.2.2.1 j = (0, 8) then (((im_gR b4.2 j 24)).bind fun q7 => if im_in b4.2 1 q7 x1 then (some ((im_gI b4.2 q7 (x1).toNatClampNeg), b4.2)) else none) else none)) else none)
set_option maxRecDepth 100000 in
set_option maxHeartbeats 4000000 in
theorem tn_105 (j : Nat) (x1 : Int32) (h : im_H) : im_Go im_zI 1 fm_105 0 (im_en 0 [.inr (some j), .inl x1]) [] h (fn_105 j x1 h) := by
  unfold fn_105
  refine x_iload_n dm_105_0 rfl ?_
  refine x_iconst (-1) dm_105_1 (by decide) ?_
  refine x_icmp_ne 12 dm_105_2 rfl (fun c1 => ?_) (fun c1 => ?_)
  · refine x_aload_n dm_105_5 rfl ?_
    refine im_chk _ (fun hk2 => ?_)
    refine x_getI dm_105_6 fl_8_93 rfl rfl hk2 ?_
    refine x_goto 36 dm_105_9 rfl ?_
    exact x_ireturn dm_105_36 rfl
  · refine x_iload_n dm_105_12 rfl ?_
    refine x_iconst (0) dm_105_13 (by decide) ?_
    refine x_aload_n dm_105_14 rfl ?_
    refine im_chk _ (fun hk3 => ?_)
    refine x_getI dm_105_15 fl_8_93 rfl rfl hk3 ?_
    refine x_iconst (1) dm_105_18 (by decide) ?_
    refine x_isub dm_105_19 ?_
    refine im_callI mf_92 rfl (tn_92 x1 (0 : Int32) _ h) (im_runS (as := [.inl x1, .inl (0 : Int32), .inl _]) (rest := []) dm_105_20 mf_92 (Nat.le_of_ble_eq_true rfl) ml_8_83 mi_92 mp_92 (Nat.le_of_ble_eq_true rfl)) rfl (fun b4 hb4 => ?_)
    refine x_if_eq 35 dm_105_23 rfl (fun c5 => ?_) (fun c5 => ?_)
    · refine x_iconst (0) dm_105_35 (by decide) ?_
      exact x_ireturn dm_105_36 rfl
    · refine x_aload_n dm_105_26 rfl ?_
      refine im_chk _ (fun hk6 => ?_)
      refine x_getR dm_105_27 fl_8_71 rfl rfl hk6 ?_
      refine x_iload_n dm_105_30 rfl ?_
      refine im_bind (fun q7 hq7 => ?_)
      refine im_chk _ (fun hi8 => ?_)
      refine x_iaload dm_105_31 hq7 hi8 ?_
      refine x_goto 36 dm_105_32 rfl ?_
      exact x_ireturn dm_105_36 rfl
/-- FencedModulesModel.isWord(IIIII)Z -/
def fn_106 (j : Nat) (x1 : Int32) (x2 : Int32) (x3 : Int32) (x4 : Int32) (x5 : Int32) (h : im_H) : Option (Int32 × im_H) :=
  if h.2.1 j = (0, 8) then (if (im_gI h j 23) ≤ x1 then (some ((0 : Int32), h)) else (((im_gR h j 24)).bind fun q3 => if im_in h 1 q3 x1 then ((fn_99 x2 x3 x4 x5 h).bind fun b5 => if (im_gI h q3 (x1).toNatClampNeg) = b5.1 then (some ((1 : Int32), b5.2)) else (some ((0 : Int32), b5.2))) else none)) else none
set_option maxRecDepth 100000 in
set_option maxHeartbeats 4000000 in
theorem tn_106 (j : Nat) (x1 : Int32) (x2 : Int32) (x3 : Int32) (x4 : Int32) (x5 : Int32) (h : im_H) : im_Go im_zI 1 fm_106 0 (im_en 0 [.inr (some j), .inl x1, .inl x2, .inl x3, .inl x4, .inl x5]) [] h (fn_106 j x1 x2 x3 x4 x5 h) := by
  unfold fn_106
  refine x_iload_n dm_106_0 rfl ?_
  refine x_aload_n dm_106_1 rfl ?_
  refine im_chk _ (fun hk1 => ?_)
  refine x_getI dm_106_2 fl_8_93 rfl rfl hk1 ?_
  refine x_icmp_ge 30 dm_106_5 rfl (fun c2 => ?_) (fun c2 => ?_)
  · refine x_iconst (0) dm_106_30 (by decide) ?_
    exact x_zreturn dm_106_31 rfl (by decide)
  · refine x_aload_n dm_106_8 rfl ?_
    refine x_getR dm_106_9 fl_8_71 rfl rfl hk1 ?_
    refine x_iload_n dm_106_12 rfl ?_
    refine im_bind (fun q3 hq3 => ?_)
    refine im_chk _ (fun hi4 => ?_)
    refine x_iaload dm_106_13 hq3 hi4 ?_
    refine x_iload_n dm_106_14 rfl ?_
    refine x_iload_n dm_106_15 rfl ?_
    refine x_iload dm_106_16 rfl ?_
    refine x_iload dm_106_18 rfl ?_
    refine im_callI mf_99 rfl (tn_99 x2 x3 x4 x5 h) (im_runS (as := [.inl x2, .inl x3, .inl x4, .inl x5]) (rest := [.inl _]) dm_106_20 mf_99 (Nat.le_of_ble_eq_true rfl) ml_8_116 mi_99 mp_99 (Nat.le_of_ble_eq_true rfl)) rfl (fun b5 hb5 => ?_)
    refine x_icmp_ne 30 dm_106_23 rfl (fun c6 => ?_) (fun c6 => ?_)
    · refine x_iconst (1) dm_106_26 (by decide) ?_
      refine x_goto 31 dm_106_27 rfl ?_
      exact x_zreturn dm_106_31 rfl (by decide)
    · refine x_iconst (0) dm_106_30 (by decide) ?_
      exact x_zreturn dm_106_31 rfl (by decide)
/-- FencedModulesModel.feed(II)Z -/
def fn_111 (j : Nat) (x1 : Int32) (x2 : Int32) (h : im_H) : Option (Int32 × im_H) :=
  (fn_92 x1 (0 : Int32) (2 : Int32) h).bind fun b1 => if b1.1 = 0 then (some ((0 : Int32), b1.2)) else (if b1.2.2.1 j = (0, 8) then (((im_gR b1.2 j 1)).bind fun q4 => if im_in b1.2 1 q4 x1 then (if (im_gI b1.2 q4 (x1).toNatClampNeg) = 0 then (some ((0 : Int32), b1.2)) else (((im_gR b1.2 j 8)).bind fun q7 => if im_in b1.2 1 q7 x1 then (if (im_gI b1.2 q7 (x1).toNatClampNeg) = (12 : Int32) then (some ((0 : Int32), b1.2)) else (((im_gR b1.2 j 7)).bind fun q10 => if im_in b1.2 1 q10 (((12 : Int32) * x1) + (im_gI b1.2 q7 (x1).toNatClampNeg)) then (let h12 : im_H := im_pI b1.2 q10 ((((12 : Int32) * x1) + (im_gI b1.2 q7 (x1).toNatClampNeg))).toNatClampNeg x2; let h13 : im_H := im_pI h12 q7 (x1).toNatClampNeg ((im_gI h12 q7 (x1).toNatClampNeg) + (1 : Int32)); some ((1 : Int32), h13)) else none)) else none)) else none) else none)
set_option maxRecDepth 100000 in
set_option maxHeartbeats 4000000 in
theorem tn_111 (j : Nat) (x1 : Int32) (x2 : Int32) (h : im_H) : im_Go im_zI 1 fm_111 0 (im_en 0 [.inr (some j), .inl x1, .inl x2]) [] h (fn_111 j x1 x2 h) := by
  unfold fn_111
  refine x_iload_n dm_111_0 rfl ?_
  refine x_iconst (0) dm_111_1 (by decide) ?_
  refine x_iconst (2) dm_111_2 (by decide) ?_
  refine im_callI mf_92 rfl (tn_92 x1 (0 : Int32) (2 : Int32) h) (im_runS (as := [.inl x1, .inl (0 : Int32), .inl (2 : Int32)]) (rest := []) dm_111_3 mf_92 (Nat.le_of_ble_eq_true rfl) ml_8_83 mi_92 mp_92 (Nat.le_of_ble_eq_true rfl)) rfl (fun b1 hb1 => ?_)
  refine x_if_eq 29 dm_111_6 rfl (fun c2 => ?_) (fun c2 => ?_)
  · refine x_iconst (0) dm_111_29 (by decide) ?_
    exact x_zreturn dm_111_30 rfl (by decide)
  · refine x_aload_n dm_111_9 rfl ?_
    refine im_chk _ (fun hk3 => ?_)
    refine x_getR dm_111_10 fl_8_13 rfl rfl hk3 ?_
    refine x_iload_n dm_111_13 rfl ?_
    refine im_bind (fun q4 hq4 => ?_)
    refine im_chk _ (fun hi5 => ?_)
    refine x_iaload dm_111_14 hq4 hi5 ?_
    refine x_if_eq 29 dm_111_15 rfl (fun c6 => ?_) (fun c6 => ?_)
    · refine x_iconst (0) dm_111_29 (by decide) ?_
      exact x_zreturn dm_111_30 rfl (by decide)
    · refine x_aload_n dm_111_18 rfl ?_
      refine x_getR dm_111_19 fl_8_34 rfl rfl hk3 ?_
      refine x_iload_n dm_111_22 rfl ?_
      refine im_bind (fun q7 hq7 => ?_)
      refine im_chk _ (fun hi8 => ?_)
      refine x_iaload dm_111_23 hq7 hi8 ?_
      refine x_bipush (12) dm_111_24 (by decide) ?_
      refine x_icmp_ne 31 dm_111_26 rfl (fun c9 => ?_) (fun c9 => ?_)
      · refine x_iconst (0) dm_111_29 (by decide) ?_
        exact x_zreturn dm_111_30 rfl (by decide)
      · refine x_aload_n dm_111_31 rfl ?_
        refine x_getR dm_111_32 fl_8_31 rfl rfl hk3 ?_
        refine x_bipush (12) dm_111_35 (by decide) ?_
        refine x_iload_n dm_111_37 rfl ?_
        refine x_imul dm_111_38 ?_
        refine x_aload_n dm_111_39 rfl ?_
        refine x_getR dm_111_40 fl_8_34 rfl rfl hk3 ?_
        refine x_iload_n dm_111_43 rfl ?_
        refine x_iaload dm_111_44 hq7 hi8 ?_
        refine x_iadd dm_111_45 ?_
        refine x_iload_n dm_111_46 rfl ?_
        refine im_bind (fun q10 hq10 => ?_)
        refine im_chk _ (fun hi11 => ?_)
        refine x_iastore dm_111_47 hq10 hi11 ?_
        refine x_aload_n dm_111_48 rfl ?_
        refine x_getR dm_111_49 fl_8_34 rfl rfl hk3 ?_
        refine x_iload_n dm_111_52 rfl ?_
        refine x_dup2 dm_111_53 ?_
        refine x_iaload dm_111_54 hq7 hi8 ?_
        refine x_iconst (1) dm_111_55 (by decide) ?_
        refine x_iadd dm_111_56 ?_
        refine x_iastore dm_111_57 hq7 hi8 ?_
        refine x_iconst (1) dm_111_58 (by decide) ?_
        exact x_zreturn dm_111_59 rfl (by decide)
/-- FencedModulesModel.prints(II)Z -/
def fn_115 (x0 : Int32) (x1 : Int32) (h : im_H) : Option (Int32 × im_H) :=
  (fn_92 x0 (0 : Int32) (16 : Int32) h).bind fun b1 => if b1.1 = 0 then (some ((0 : Int32), b1.2)) else ((fn_92 x1 (0 : Int32) (16 : Int32) b1.2).bind fun b3 => if b3.1 = 0 then (some ((0 : Int32), b3.2)) else (if (16 : Int32) < (x0 + x1) then (some ((0 : Int32), b3.2)) else (some ((1 : Int32), b3.2))))
set_option maxRecDepth 100000 in
set_option maxHeartbeats 4000000 in
theorem tn_115 (x0 : Int32) (x1 : Int32) (h : im_H) : im_Go im_zI 1 fm_115 0 (im_en 0 [.inl x0, .inl x1]) [] h (fn_115 x0 x1 h) := by
  unfold fn_115
  refine x_iload_n dm_115_0 rfl ?_
  refine x_iconst (0) dm_115_1 (by decide) ?_
  refine x_bipush (16) dm_115_2 (by decide) ?_
  refine im_callI mf_92 rfl (tn_92 x0 (0 : Int32) (16 : Int32) h) (im_runS (as := [.inl x0, .inl (0 : Int32), .inl (16 : Int32)]) (rest := []) dm_115_4 mf_92 (Nat.le_of_ble_eq_true rfl) ml_8_83 mi_92 mp_92 (Nat.le_of_ble_eq_true rfl)) rfl (fun b1 hb1 => ?_)
  refine x_if_eq 32 dm_115_7 rfl (fun c2 => ?_) (fun c2 => ?_)
  · refine x_iconst (0) dm_115_32 (by decide) ?_
    exact x_zreturn dm_115_33 rfl (by decide)
  · refine x_iload_n dm_115_10 rfl ?_
    refine x_iconst (0) dm_115_11 (by decide) ?_
    refine x_bipush (16) dm_115_12 (by decide) ?_
    refine im_callI mf_92 rfl (tn_92 x1 (0 : Int32) (16 : Int32) b1.2) (im_runS (as := [.inl x1, .inl (0 : Int32), .inl (16 : Int32)]) (rest := []) dm_115_14 mf_92 (Nat.le_of_ble_eq_true rfl) ml_8_83 mi_92 mp_92 (Nat.le_of_ble_eq_true rfl)) rfl (fun b3 hb3 => ?_)
    refine x_if_eq 32 dm_115_17 rfl (fun c4 => ?_) (fun c4 => ?_)
    · refine x_iconst (0) dm_115_32 (by decide) ?_
      exact x_zreturn dm_115_33 rfl (by decide)
    · refine x_iload_n dm_115_20 rfl ?_
      refine x_iload_n dm_115_21 rfl ?_
      refine x_iadd dm_115_22 ?_
      refine x_bipush (16) dm_115_23 (by decide) ?_
      refine x_icmp_gt 32 dm_115_25 rfl (fun c5 => ?_) (fun c5 => ?_)
      · refine x_iconst (0) dm_115_32 (by decide) ?_
        exact x_zreturn dm_115_33 rfl (by decide)
      · refine x_iconst (1) dm_115_28 (by decide) ?_
        refine x_goto 33 dm_115_29 rfl ?_
        exact x_zreturn dm_115_33 rfl (by decide)
/-- FencedModulesModel.state(I)I -/
def fn_126 (j : Nat) (x1 : Int32) (h : im_H) : Option (Int32 × im_H) :=
  (fn_92 x1 (0 : Int32) (2 : Int32) h).bind fun b1 => if b1.1 = 0 then (some ((-1 : Int32), b1.2)) else (if b1.2.2.1 j = (0, 8) then (((im_gR b1.2 j 1)).bind fun q4 => if im_in b1.2 1 q4 x1 then (some ((im_gI b1.2 q4 (x1).toNatClampNeg), b1.2)) else none) else none)
set_option maxRecDepth 100000 in
set_option maxHeartbeats 4000000 in
theorem tn_126 (j : Nat) (x1 : Int32) (h : im_H) : im_Go im_zI 1 fm_126 0 (im_en 0 [.inr (some j), .inl x1]) [] h (fn_126 j x1 h) := by
  unfold fn_126
  refine x_iload_n dm_126_0 rfl ?_
  refine x_iconst (0) dm_126_1 (by decide) ?_
  refine x_iconst (2) dm_126_2 (by decide) ?_
  refine im_callI mf_92 rfl (tn_92 x1 (0 : Int32) (2 : Int32) h) (im_runS (as := [.inl x1, .inl (0 : Int32), .inl (2 : Int32)]) (rest := []) dm_126_3 mf_92 (Nat.le_of_ble_eq_true rfl) ml_8_83 mi_92 mp_92 (Nat.le_of_ble_eq_true rfl)) rfl (fun b1 hb1 => ?_)
  refine x_if_eq 18 dm_126_6 rfl (fun c2 => ?_) (fun c2 => ?_)
  · refine x_iconst (-1) dm_126_18 (by decide) ?_
    exact x_ireturn dm_126_19 rfl
  · refine x_aload_n dm_126_9 rfl ?_
    refine im_chk _ (fun hk3 => ?_)
    refine x_getR dm_126_10 fl_8_13 rfl rfl hk3 ?_
    refine x_iload_n dm_126_13 rfl ?_
    refine im_bind (fun q4 hq4 => ?_)
    refine im_chk _ (fun hi5 => ?_)
    refine x_iaload dm_126_14 hq4 hi5 ?_
    refine x_goto 19 dm_126_15 rfl ?_
    exact x_ireturn dm_126_19 rfl
/-- FencedModulesModel.pc(I)I -/
def fn_127 (j : Nat) (x1 : Int32) (h : im_H) : Option (Int32 × im_H) :=
  (fn_92 x1 (0 : Int32) (2 : Int32) h).bind fun b1 => if b1.1 = 0 then (some ((-1 : Int32), b1.2)) else (if b1.2.2.1 j = (0, 8) then (((im_gR b1.2 j 3)).bind fun q4 => if im_in b1.2 1 q4 x1 then (some ((im_gI b1.2 q4 (x1).toNatClampNeg), b1.2)) else none) else none)
set_option maxRecDepth 100000 in
set_option maxHeartbeats 4000000 in
theorem tn_127 (j : Nat) (x1 : Int32) (h : im_H) : im_Go im_zI 1 fm_127 0 (im_en 0 [.inr (some j), .inl x1]) [] h (fn_127 j x1 h) := by
  unfold fn_127
  refine x_iload_n dm_127_0 rfl ?_
  refine x_iconst (0) dm_127_1 (by decide) ?_
  refine x_iconst (2) dm_127_2 (by decide) ?_
  refine im_callI mf_92 rfl (tn_92 x1 (0 : Int32) (2 : Int32) h) (im_runS (as := [.inl x1, .inl (0 : Int32), .inl (2 : Int32)]) (rest := []) dm_127_3 mf_92 (Nat.le_of_ble_eq_true rfl) ml_8_83 mi_92 mp_92 (Nat.le_of_ble_eq_true rfl)) rfl (fun b1 hb1 => ?_)
  refine x_if_eq 18 dm_127_6 rfl (fun c2 => ?_) (fun c2 => ?_)
  · refine x_iconst (-1) dm_127_18 (by decide) ?_
    exact x_ireturn dm_127_19 rfl
  · refine x_aload_n dm_127_9 rfl ?_
    refine im_chk _ (fun hk3 => ?_)
    refine x_getR dm_127_10 fl_8_19 rfl rfl hk3 ?_
    refine x_iload_n dm_127_13 rfl ?_
    refine im_bind (fun q4 hq4 => ?_)
    refine im_chk _ (fun hi5 => ?_)
    refine x_iaload dm_127_14 hq4 hi5 ?_
    refine x_goto 19 dm_127_15 rfl ?_
    exact x_ireturn dm_127_19 rfl
/-- FencedModulesModel.register(II)I -/
def fn_128 (j : Nat) (x1 : Int32) (x2 : Int32) (h : im_H) : Option (Int32 × im_H) :=
  (fn_92 x1 (0 : Int32) (2 : Int32) h).bind fun b1 => if b1.1 = 0 then (some ((0 : Int32), b1.2)) else ((fn_92 x2 (0 : Int32) (7 : Int32) b1.2).bind fun b3 => if b3.1 = 0 then (some ((0 : Int32), b3.2)) else (if b3.2.2.1 j = (0, 8) then (((im_gR b3.2 j 2)).bind fun q6 => if im_in b3.2 1 q6 (((8 : Int32) * x1) + x2) then (some ((im_gI b3.2 q6 ((((8 : Int32) * x1) + x2)).toNatClampNeg), b3.2)) else none) else none))
set_option maxRecDepth 100000 in
set_option maxHeartbeats 4000000 in
theorem tn_128 (j : Nat) (x1 : Int32) (x2 : Int32) (h : im_H) : im_Go im_zI 1 fm_128 0 (im_en 0 [.inr (some j), .inl x1, .inl x2]) [] h (fn_128 j x1 x2 h) := by
  unfold fn_128
  refine x_iload_n dm_128_0 rfl ?_
  refine x_iconst (0) dm_128_1 (by decide) ?_
  refine x_iconst (2) dm_128_2 (by decide) ?_
  refine im_callI mf_92 rfl (tn_92 x1 (0 : Int32) (2 : Int32) h) (im_runS (as := [.inl x1, .inl (0 : Int32), .inl (2 : Int32)]) (rest := []) dm_128_3 mf_92 (Nat.le_of_ble_eq_true rfl) ml_8_83 mi_92 mp_92 (Nat.le_of_ble_eq_true rfl)) rfl (fun b1 hb1 => ?_)
  refine x_if_eq 33 dm_128_6 rfl (fun c2 => ?_) (fun c2 => ?_)
  · refine x_iconst (0) dm_128_33 (by decide) ?_
    exact x_ireturn dm_128_34 rfl
  · refine x_iload_n dm_128_9 rfl ?_
    refine x_iconst (0) dm_128_10 (by decide) ?_
    refine x_bipush (7) dm_128_11 (by decide) ?_
    refine im_callI mf_92 rfl (tn_92 x2 (0 : Int32) (7 : Int32) b1.2) (im_runS (as := [.inl x2, .inl (0 : Int32), .inl (7 : Int32)]) (rest := []) dm_128_13 mf_92 (Nat.le_of_ble_eq_true rfl) ml_8_83 mi_92 mp_92 (Nat.le_of_ble_eq_true rfl)) rfl (fun b3 hb3 => ?_)
    refine x_if_eq 33 dm_128_16 rfl (fun c4 => ?_) (fun c4 => ?_)
    · refine x_iconst (0) dm_128_33 (by decide) ?_
      exact x_ireturn dm_128_34 rfl
    · refine x_aload_n dm_128_19 rfl ?_
      refine im_chk _ (fun hk5 => ?_)
      refine x_getR dm_128_20 fl_8_16 rfl rfl hk5 ?_
      refine x_bipush (8) dm_128_23 (by decide) ?_
      refine x_iload_n dm_128_25 rfl ?_
      refine x_imul dm_128_26 ?_
      refine x_iload_n dm_128_27 rfl ?_
      refine x_iadd dm_128_28 ?_
      refine im_bind (fun q6 hq6 => ?_)
      refine im_chk _ (fun hi7 => ?_)
      refine x_iaload dm_128_29 hq6 hi7 ?_
      refine x_goto 34 dm_128_30 rfl ?_
      exact x_ireturn dm_128_34 rfl
/-- FencedModulesModel.peek(I)I -/
def fn_129 (j : Nat) (x1 : Int32) (h : im_H) : Option (Int32 × im_H) :=
  (fn_92 x1 (0 : Int32) (255 : Int32) h).bind fun b1 => if b1.1 = 0 then (some ((0 : Int32), b1.2)) else (if b1.2.2.1 j = (0, 8) then (((im_gR b1.2 j 0)).bind fun q4 => if im_in b1.2 1 q4 x1 then (some ((im_gI b1.2 q4 (x1).toNatClampNeg), b1.2)) else none) else none)
set_option maxRecDepth 100000 in
set_option maxHeartbeats 4000000 in
theorem tn_129 (j : Nat) (x1 : Int32) (h : im_H) : im_Go im_zI 1 fm_129 0 (im_en 0 [.inr (some j), .inl x1]) [] h (fn_129 j x1 h) := by
  unfold fn_129
  refine x_iload_n dm_129_0 rfl ?_
  refine x_iconst (0) dm_129_1 (by decide) ?_
  refine x_sipush (255) dm_129_2 (by decide) ?_
  refine im_callI mf_92 rfl (tn_92 x1 (0 : Int32) (255 : Int32) h) (im_runS (as := [.inl x1, .inl (0 : Int32), .inl (255 : Int32)]) (rest := []) dm_129_5 mf_92 (Nat.le_of_ble_eq_true rfl) ml_8_83 mi_92 mp_92 (Nat.le_of_ble_eq_true rfl)) rfl (fun b1 hb1 => ?_)
  refine x_if_eq 20 dm_129_8 rfl (fun c2 => ?_) (fun c2 => ?_)
  · refine x_iconst (0) dm_129_20 (by decide) ?_
    exact x_ireturn dm_129_21 rfl
  · refine x_aload_n dm_129_11 rfl ?_
    refine im_chk _ (fun hk3 => ?_)
    refine x_getR dm_129_12 fl_8_7 rfl rfl hk3 ?_
    refine x_iload_n dm_129_15 rfl ?_
    refine im_bind (fun q4 hq4 => ?_)
    refine im_chk _ (fun hi5 => ?_)
    refine x_iaload dm_129_16 hq4 hi5 ?_
    refine x_goto 21 dm_129_17 rfl ?_
    exact x_ireturn dm_129_21 rfl
/-- FencedModulesModel.output(II)I -/
def fn_130 (j : Nat) (x1 : Int32) (x2 : Int32) (h : im_H) : Option (Int32 × im_H) :=
  (fn_92 x1 (0 : Int32) (2 : Int32) h).bind fun b1 => if b1.1 = 0 then (some ((0 : Int32), b1.2)) else (if x2 = (-1 : Int32) then (if b1.2.2.1 j = (0, 8) then (((im_gR b1.2 j 11)).bind fun q5 => if im_in b1.2 1 q5 x1 then (some ((im_gI b1.2 q5 (x1).toNatClampNeg), b1.2)) else none) else none) else ((fn_92 x2 (0 : Int32) (7 : Int32) b1.2).bind fun b7 => if b7.1 = 0 then (some ((0 : Int32), b7.2)) else (if b7.2.2.1 j = (0, 8) then (((im_gR b7.2 j 11)).bind fun q10 => if im_in b7.2 1 q10 x1 then (if (im_gI b7.2 q10 (x1).toNatClampNeg) ≤ x2 then (some ((0 : Int32), b7.2)) else (((im_gR b7.2 j 10)).bind fun q13 => if im_in b7.2 1 q13 (((8 : Int32) * x1) + ((((im_gI b7.2 q10 (x1).toNatClampNeg) - (1 : Int32)) - x2) &&& (7 : Int32))) then (some ((im_gI b7.2 q13 ((((8 : Int32) * x1) + ((((im_gI b7.2 q10 (x1).toNatClampNeg) - (1 : Int32)) - x2) &&& (7 : Int32)))).toNatClampNeg), b7.2)) else none)) else none) else none)))
set_option maxRecDepth 100000 in
set_option maxHeartbeats 4000000 in
theorem tn_130 (j : Nat) (x1 : Int32) (x2 : Int32) (h : im_H) : im_Go im_zI 1 fm_130 0 (im_en 0 [.inr (some j), .inl x1, .inl x2]) [] h (fn_130 j x1 x2 h) := by
  unfold fn_130
  refine x_iload_n dm_130_0 rfl ?_
  refine x_iconst (0) dm_130_1 (by decide) ?_
  refine x_iconst (2) dm_130_2 (by decide) ?_
  refine im_callI mf_92 rfl (tn_92 x1 (0 : Int32) (2 : Int32) h) (im_runS (as := [.inl x1, .inl (0 : Int32), .inl (2 : Int32)]) (rest := []) dm_130_3 mf_92 (Nat.le_of_ble_eq_true rfl) ml_8_83 mi_92 mp_92 (Nat.le_of_ble_eq_true rfl)) rfl (fun b1 hb1 => ?_)
  refine x_if_ne 11 dm_130_6 rfl (fun c2 => ?_) (fun c2 => ?_)
  · refine x_iconst (0) dm_130_9 (by decide) ?_
    exact x_ireturn dm_130_10 rfl
  · refine x_iload_n dm_130_11 rfl ?_
    refine x_iconst (-1) dm_130_12 (by decide) ?_
    refine x_icmp_ne 25 dm_130_13 rfl (fun c3 => ?_) (fun c3 => ?_)
    · refine x_aload_n dm_130_16 rfl ?_
      refine im_chk _ (fun hk4 => ?_)
      refine x_getR dm_130_17 fl_8_43 rfl rfl hk4 ?_
      refine x_iload_n dm_130_20 rfl ?_
      refine im_bind (fun q5 hq5 => ?_)
      refine im_chk _ (fun hi6 => ?_)
      refine x_iaload dm_130_21 hq5 hi6 ?_
      refine x_goto 72 dm_130_22 rfl ?_
      exact x_ireturn dm_130_72 rfl
    · refine x_iload_n dm_130_25 rfl ?_
      refine x_iconst (0) dm_130_26 (by decide) ?_
      refine x_bipush (7) dm_130_27 (by decide) ?_
      refine im_callI mf_92 rfl (tn_92 x2 (0 : Int32) (7 : Int32) b1.2) (im_runS (as := [.inl x2, .inl (0 : Int32), .inl (7 : Int32)]) (rest := []) dm_130_29 mf_92 (Nat.le_of_ble_eq_true rfl) ml_8_83 mi_92 mp_92 (Nat.le_of_ble_eq_true rfl)) rfl (fun b7 hb7 => ?_)
      refine x_if_eq 71 dm_130_32 rfl (fun c8 => ?_) (fun c8 => ?_)
      · refine x_iconst (0) dm_130_71 (by decide) ?_
        exact x_ireturn dm_130_72 rfl
      · refine x_iload_n dm_130_35 rfl ?_
        refine x_aload_n dm_130_36 rfl ?_
        refine im_chk _ (fun hk9 => ?_)
        refine x_getR dm_130_37 fl_8_43 rfl rfl hk9 ?_
        refine x_iload_n dm_130_40 rfl ?_
        refine im_bind (fun q10 hq10 => ?_)
        refine im_chk _ (fun hi11 => ?_)
        refine x_iaload dm_130_41 hq10 hi11 ?_
        refine x_icmp_ge 71 dm_130_42 rfl (fun c12 => ?_) (fun c12 => ?_)
        · refine x_iconst (0) dm_130_71 (by decide) ?_
          exact x_ireturn dm_130_72 rfl
        · refine x_aload_n dm_130_45 rfl ?_
          refine x_getR dm_130_46 fl_8_40 rfl rfl hk9 ?_
          refine x_bipush (8) dm_130_49 (by decide) ?_
          refine x_iload_n dm_130_51 rfl ?_
          refine x_imul dm_130_52 ?_
          refine x_aload_n dm_130_53 rfl ?_
          refine x_getR dm_130_54 fl_8_43 rfl rfl hk9 ?_
          refine x_iload_n dm_130_57 rfl ?_
          refine x_iaload dm_130_58 hq10 hi11 ?_
          refine x_iconst (1) dm_130_59 (by decide) ?_
          refine x_isub dm_130_60 ?_
          refine x_iload_n dm_130_61 rfl ?_
          refine x_isub dm_130_62 ?_
          refine x_bipush (7) dm_130_63 (by decide) ?_
          refine x_iand dm_130_65 ?_
          refine x_iadd dm_130_66 ?_
          refine im_bind (fun q13 hq13 => ?_)
          refine im_chk _ (fun hi14 => ?_)
          refine x_iaload dm_130_67 hq13 hi14 ?_
          refine x_goto 72 dm_130_68 rfl ?_
          exact x_ireturn dm_130_72 rfl
