def fn_140_60 (y2 : Int32) (y3 : Int32) (h : im_H) : Option (Int32 × im_H) :=
  (fn_145 y2 h).bind fun b1 => if b1.1 = (6 : Int32) then (if y3 = 0 then (some ((1 : Int32), b1.2)) else (some ((0 : Int32), b1.2))) else (some ((0 : Int32), b1.2))
set_option maxRecDepth 100000 in
set_option maxHeartbeats 4000000 in
theorem tn_140_60 (y2 : Int32) (y3 : Int32) (h : im_H) : im_Go im_zI 1 fm_140 60 [(2, .inl y2), (3, .inl y3)] [] h (fn_140_60 y2 y3 h) := by
  unfold fn_140_60
  refine x_iload_n dm_140_60 rfl ?_
  refine im_callI mf_145 rfl (tn_145 y2 h) (im_runS (as := [.inl y2]) (rest := []) dm_140_61 mf_145 (Nat.le_of_ble_eq_true rfl) ml_10_35 mi_145 mp_145 (Nat.le_of_ble_eq_true rfl)) rfl (fun b1 hb1 => ?_)
  refine x_bipush (6) dm_140_64 (by decide) ?_
  refine x_icmp_ne 77 dm_140_66 rfl (fun c2 => ?_) (fun c2 => ?_)
  · refine x_iload_n dm_140_69 rfl ?_
    refine x_if_ne 77 dm_140_70 rfl (fun c3 => ?_) (fun c3 => ?_)
    · refine x_iconst (1) dm_140_73 (by decide) ?_
      refine x_goto 78 dm_140_74 rfl ?_
      exact x_zreturn dm_140_78 rfl (by decide)
    · refine x_iconst (0) dm_140_77 (by decide) ?_
      exact x_zreturn dm_140_78 rfl (by decide)
  · refine x_iconst (0) dm_140_77 (by decide) ?_
    exact x_zreturn dm_140_78 rfl (by decide)
def fn_140_79 (y0 : Option Nat) (y1 : Int32) (y3 : Int32) (h : im_H) : Option (Int32 × im_H) :=
  if ((y1 + (1 : Int32)) + y3) < 0 then (some ((0 : Int32), h)) else ((y0).bind fun q2 => if h.2.1 q2 = (0, 1) then ((fn_7 q2 h).bind fun b4 => if b4.1 ≤ ((y1 + (1 : Int32)) + y3) then (some ((0 : Int32), b4.2)) else (some ((1 : Int32), b4.2))) else none)
set_option maxRecDepth 100000 in
set_option maxHeartbeats 4000000 in
theorem tn_140_79 (y0 : Option Nat) (y1 : Int32) (y3 : Int32) (h : im_H) : im_Go im_zI 1 fm_140 79 [(0, .inr y0), (1, .inl y1), (3, .inl y3)] [] h (fn_140_79 y0 y1 y3 h) := by
  unfold fn_140_79
  refine x_iload_n dm_140_79 rfl ?_
  refine x_iconst (1) dm_140_80 (by decide) ?_
  refine x_iadd dm_140_81 ?_
  refine x_iload_n dm_140_82 rfl ?_
  refine x_iadd dm_140_83 ?_
  refine x_if_lt 103 dm_140_84 rfl (fun c1 => ?_) (fun c1 => ?_)
  · refine x_iconst (0) dm_140_103 (by decide) ?_
    exact x_zreturn dm_140_104 rfl (by decide)
  · refine x_iload_n dm_140_87 rfl ?_
    refine x_iconst (1) dm_140_88 (by decide) ?_
    refine x_iadd dm_140_89 ?_
    refine x_iload_n dm_140_90 rfl ?_
    refine x_iadd dm_140_91 ?_
    refine x_aload_n dm_140_92 rfl ?_
    refine im_bind (fun q2 hq2 => ?_)
    refine im_chk _ (fun hk3 => ?_)
    refine im_callI mf_7 rfl (im_eqo hq2 (tn_7 q2 h)) (im_runV (as := []) (rest := [.inl _]) dm_140_93 mf_7 (Nat.le_of_ble_eq_true rfl) ml_10_7 mi_7 ms_7 mp_7 (Nat.le_of_ble_eq_true rfl) hq2 hk3 ⟨_, _, rfl⟩) rfl (fun b4 hb4 => ?_)
    refine x_icmp_ge 103 dm_140_96 rfl (fun c5 => ?_) (fun c5 => ?_)
    · refine x_iconst (0) dm_140_103 (by decide) ?_
      exact x_zreturn dm_140_104 rfl (by decide)
    · refine x_iconst (1) dm_140_99 (by decide) ?_
      refine x_goto 104 dm_140_100 rfl ?_
      exact x_zreturn dm_140_104 rfl (by decide)
/-- FencedModules$Verifier.isSafe(LFencedModules$Code;I)Z -/
def fn_140 (x0 : Option Nat) (x1 : Int32) (h : im_H) : Option (Int32 × im_H) :=
  (x0).bind fun q1 => if h.2.1 q1 = (0, 1) then ((fn_8 q1 x1 h).bind fun b3 => (fn_146 b3.1 b3.2).bind fun b4 => (fn_143 b3.1 b4.2).bind fun b5 => if b5.1 = 8 then (fn_140_60 b3.1 b4.1 b5.2) else (if b5.1 = 9 then (fn_140_60 b3.1 b4.1 b5.2) else (if b5.1 = 10 then (fn_140_79 x0 x1 b4.1 b5.2) else (if b5.1 = 11 then (fn_140_79 x0 x1 b4.1 b5.2) else (if b5.1 = 12 then (fn_140_79 x0 x1 b4.1 b5.2) else (if b5.1 = 13 then ((fn_144 b3.1 b5.2).bind fun b12 => if b12.1 = (7 : Int32) then (some ((1 : Int32), b12.2)) else (some ((0 : Int32), b12.2))) else (if b5.1 = 14 then ((fn_10 b4.1 b5.2).bind fun b15 => if b15.1 &&& 1 = b15.1 then some (b15.1, b15.2) else none) else (if b5.1 = 15 then (some ((0 : Int32), b5.2)) else (some ((1 : Int32), b5.2)))))))))) else none
set_option maxRecDepth 100000 in
set_option maxHeartbeats 4000000 in
theorem tn_140 (x0 : Option Nat) (x1 : Int32) (h : im_H) : im_Go im_zI 1 fm_140 0 (im_en 0 [.inr x0, .inl x1]) [] h (fn_140 x0 x1 h) := by
  unfold fn_140
  refine x_aload_n dm_140_0 rfl ?_
  refine x_iload_n dm_140_1 rfl ?_
  refine im_bind (fun q1 hq1 => ?_)
  refine im_chk _ (fun hk2 => ?_)
  refine im_callI mf_8 rfl (im_eqo hq1 (tn_8 q1 x1 h)) (im_runV (as := [.inl x1]) (rest := []) dm_140_2 mf_8 (Nat.le_of_ble_eq_true rfl) ml_10_23 mi_8 ms_8 mp_8 (Nat.le_of_ble_eq_true rfl) hq1 hk2 ⟨_, _, rfl⟩) rfl (fun b3 hb3 => ?_)
  refine x_istore_n dm_140_5 (Nat.le_of_ble_eq_true rfl) ?_
  refine x_iload_n dm_140_6 rfl ?_
  refine im_callI mf_146 rfl (tn_146 b3.1 b3.2) (im_runS (as := [.inl b3.1]) (rest := []) dm_140_7 mf_146 (Nat.le_of_ble_eq_true rfl) ml_10_27 mi_146 mp_146 (Nat.le_of_ble_eq_true rfl)) rfl (fun b4 hb4 => ?_)
  refine x_istore_n dm_140_10 (Nat.le_of_ble_eq_true rfl) ?_
  refine x_iload_n dm_140_11 rfl ?_
  refine im_callI mf_143 rfl (tn_143 b3.1 b4.2) (im_runS (as := [.inl b3.1]) (rest := []) dm_140_12 mf_143 (Nat.le_of_ble_eq_true rfl) ml_10_32 mi_143 mp_143 (Nat.le_of_ble_eq_true rfl)) rfl (fun b5 hb5 => ?_)
  refine im_test _ (fun c6 => ?_) (fun c6 => ?_)
  · refine x_tabIn 8 60 dm_140_15 c6 (by decide) (by decide) rfl rfl ?_
    exact im_lsub [(2, .inl b3.1), (3, .inl b4.1)] (im_sb_c rfl (im_sb_c rfl im_sb_n)) (tn_140_60 b3.1 b4.1 b5.2)
  refine im_test _ (fun c7 => ?_) (fun c7 => ?_)
  · refine x_tabIn 9 60 dm_140_15 c7 (by decide) (by decide) rfl rfl ?_
    exact im_lsub [(2, .inl b3.1), (3, .inl b4.1)] (im_sb_c rfl (im_sb_c rfl im_sb_n)) (tn_140_60 b3.1 b4.1 b5.2)
  refine im_test _ (fun c8 => ?_) (fun c8 => ?_)
  · refine x_tabIn 10 79 dm_140_15 c8 (by decide) (by decide) rfl rfl ?_
    exact im_lsub [(0, .inr x0), (1, .inl x1), (3, .inl b4.1)] (im_sb_c rfl (im_sb_c rfl (im_sb_c rfl im_sb_n))) (tn_140_79 x0 x1 b4.1 b5.2)
  refine im_test _ (fun c9 => ?_) (fun c9 => ?_)
  · refine x_tabIn 11 79 dm_140_15 c9 (by decide) (by decide) rfl rfl ?_
    exact im_lsub [(0, .inr x0), (1, .inl x1), (3, .inl b4.1)] (im_sb_c rfl (im_sb_c rfl (im_sb_c rfl im_sb_n))) (tn_140_79 x0 x1 b4.1 b5.2)
  refine im_test _ (fun c10 => ?_) (fun c10 => ?_)
  · refine x_tabIn 12 79 dm_140_15 c10 (by decide) (by decide) rfl rfl ?_
    exact im_lsub [(0, .inr x0), (1, .inl x1), (3, .inl b4.1)] (im_sb_c rfl (im_sb_c rfl (im_sb_c rfl im_sb_n))) (tn_140_79 x0 x1 b4.1 b5.2)
  refine im_test _ (fun c11 => ?_) (fun c11 => ?_)
  · refine x_tabIn 13 105 dm_140_15 c11 (by decide) (by decide) rfl rfl ?_
    refine x_iload_n dm_140_105 rfl ?_
    refine im_callI mf_144 rfl (tn_144 b3.1 b5.2) (im_runS (as := [.inl b3.1]) (rest := []) dm_140_106 mf_144 (Nat.le_of_ble_eq_true rfl) ml_10_40 mi_144 mp_144 (Nat.le_of_ble_eq_true rfl)) rfl (fun b12 hb12 => ?_)
    refine x_bipush (7) dm_140_109 (by decide) ?_
    refine x_icmp_ne 118 dm_140_111 rfl (fun c13 => ?_) (fun c13 => ?_)
    · refine x_iconst (1) dm_140_114 (by decide) ?_
      refine x_goto 119 dm_140_115 rfl ?_
      exact x_zreturn dm_140_119 rfl (by decide)
    · refine x_iconst (0) dm_140_118 (by decide) ?_
      exact x_zreturn dm_140_119 rfl (by decide)
  refine im_test _ (fun c14 => ?_) (fun c14 => ?_)
  · refine x_tabIn 14 120 dm_140_15 c14 (by decide) (by decide) rfl rfl ?_
    refine x_iload_n dm_140_120 rfl ?_
    refine im_callI mf_10 rfl (tn_10 b4.1 b5.2) (im_runS (as := [.inl b4.1]) (rest := []) dm_140_121 mf_10 (Nat.le_of_ble_eq_true rfl) ml_10_43 mi_10 mp_10 (Nat.le_of_ble_eq_true rfl)) rfl (fun b15 hb15 => ?_)
    refine im_chk _ (fun hz16 => ?_)
    exact x_zreturn dm_140_124 rfl hz16
  refine im_test _ (fun c17 => ?_) (fun c17 => ?_)
  · refine x_tabIn 15 125 dm_140_15 c17 (by decide) (by decide) rfl rfl ?_
    refine x_iconst (0) dm_140_125 (by decide) ?_
    exact x_zreturn dm_140_126 rfl (by decide)
  refine x_tabOut 127 dm_140_15 (im_swout (8) 8 (by decide) (by decide) (fun i hi => match i, hi with | 0, _ => c6 | 1, _ => c7 | 2, _ => c8 | 3, _ => c9 | 4, _ => c10 | 5, _ => c11 | 6, _ => c14 | 7, _ => c17 | i + 8, hi => absurd hi (by omega))) rfl ?_
  refine x_iconst (1) dm_140_127 (by decide) ?_
  exact x_zreturn dm_140_128 rfl (by decide)
/-- FencedModules$Verifier.isFenced(LFencedModules$Code;III)Z -/
def fn_142 (x0 : Option Nat) (x1 : Int32) (x2 : Int32) (x3 : Int32) (h : im_H) : Option (Int32 × im_H) :=
  (x0).bind fun q1 => if h.2.1 q1 = (0, 1) then ((fn_8 q1 x1 h).bind fun b3 => (fn_144 b3.1 b3.2).bind fun b4 => (fn_147 (7 : Int32) b4.1 b4.1 x3 b4.2).bind fun b5 => if b3.1 = b5.1 then (some ((1 : Int32), b5.2)) else ((fn_143 b3.1 b5.2).bind fun b7 => if b7.1 = (6 : Int32) then ((fn_146 b3.1 b7.2).bind fun b9 => if b9.1 = x2 then (if b9.2.2.1 q1 = (0, 1) then ((fn_8 q1 (x1 + (1 : Int32)) b9.2).bind fun b12 => if b12.1 = b5.1 then (some ((1 : Int32), b12.2)) else (some ((0 : Int32), b12.2))) else none) else (some ((0 : Int32), b9.2))) else (some ((0 : Int32), b7.2)))) else none
set_option maxRecDepth 100000 in
set_option maxHeartbeats 4000000 in
theorem tn_142 (x0 : Option Nat) (x1 : Int32) (x2 : Int32) (x3 : Int32) (h : im_H) : im_Go im_zI 1 fm_142 0 (im_en 0 [.inr x0, .inl x1, .inl x2, .inl x3]) [] h (fn_142 x0 x1 x2 x3 h) := by
  unfold fn_142
  refine x_aload_n dm_142_0 rfl ?_
  refine x_iload_n dm_142_1 rfl ?_
  refine im_bind (fun q1 hq1 => ?_)
  refine im_chk _ (fun hk2 => ?_)
  refine im_callI mf_8 rfl (im_eqo hq1 (tn_8 q1 x1 h)) (im_runV (as := [.inl x1]) (rest := []) dm_142_2 mf_8 (Nat.le_of_ble_eq_true rfl) ml_10_23 mi_8 ms_8 mp_8 (Nat.le_of_ble_eq_true rfl) hq1 hk2 ⟨_, _, rfl⟩) rfl (fun b3 hb3 => ?_)
  refine x_istore dm_142_5 (Nat.le_of_ble_eq_true rfl) ?_
  refine x_iload dm_142_7 rfl ?_
  refine im_callI mf_144 rfl (tn_144 b3.1 b3.2) (im_runS (as := [.inl b3.1]) (rest := []) dm_142_9 mf_144 (Nat.le_of_ble_eq_true rfl) ml_10_40 mi_144 mp_144 (Nat.le_of_ble_eq_true rfl)) rfl (fun b4 hb4 => ?_)
  refine x_istore dm_142_12 (Nat.le_of_ble_eq_true rfl) ?_
  refine x_bipush (7) dm_142_14 (by decide) ?_
  refine x_iload dm_142_16 rfl ?_
  refine x_iload dm_142_18 rfl ?_
  refine x_iload_n dm_142_20 rfl ?_
  refine im_callI mf_147 rfl (tn_147 (7 : Int32) b4.1 b4.1 x3 b4.2) (im_runS (as := [.inl (7 : Int32), .inl b4.1, .inl b4.1, .inl x3]) (rest := []) dm_142_21 mf_147 (Nat.le_of_ble_eq_true rfl) ml_10_59 mi_147 mp_147 (Nat.le_of_ble_eq_true rfl)) rfl (fun b5 hb5 => ?_)
  refine x_istore dm_142_24 (Nat.le_of_ble_eq_true rfl) ?_
  refine x_iload dm_142_26 rfl ?_
  refine x_iload dm_142_28 rfl ?_
  refine x_icmp_ne 35 dm_142_30 rfl (fun c6 => ?_) (fun c6 => ?_)
  · refine x_iconst (1) dm_142_33 (by decide) ?_
    exact x_zreturn dm_142_34 rfl (by decide)
  · refine x_iload dm_142_35 rfl ?_
    refine im_callI mf_143 rfl (tn_143 b3.1 b5.2) (im_runS (as := [.inl b3.1]) (rest := []) dm_142_37 mf_143 (Nat.le_of_ble_eq_true rfl) ml_10_32 mi_143 mp_143 (Nat.le_of_ble_eq_true rfl)) rfl (fun b7 hb7 => ?_)
    refine x_bipush (6) dm_142_40 (by decide) ?_
    refine x_icmp_ne 70 dm_142_42 rfl (fun c8 => ?_) (fun c8 => ?_)
    · refine x_iload dm_142_45 rfl ?_
      refine im_callI mf_146 rfl (tn_146 b3.1 b7.2) (im_runS (as := [.inl b3.1]) (rest := []) dm_142_47 mf_146 (Nat.le_of_ble_eq_true rfl) ml_10_27 mi_146 mp_146 (Nat.le_of_ble_eq_true rfl)) rfl (fun b9 hb9 => ?_)
      refine x_iload_n dm_142_50 rfl ?_
      refine x_icmp_ne 70 dm_142_51 rfl (fun c10 => ?_) (fun c10 => ?_)
      · refine x_aload_n dm_142_54 rfl ?_
        refine x_iload_n dm_142_55 rfl ?_
        refine x_iconst (1) dm_142_56 (by decide) ?_
        refine x_iadd dm_142_57 ?_
        refine im_chk _ (fun hk11 => ?_)
        refine im_callI mf_8 rfl (im_eqo hq1 (tn_8 q1 _ b9.2)) (im_runV (as := [.inl _]) (rest := []) dm_142_58 mf_8 (Nat.le_of_ble_eq_true rfl) ml_10_23 mi_8 ms_8 mp_8 (Nat.le_of_ble_eq_true rfl) hq1 hk11 ⟨_, _, rfl⟩) rfl (fun b12 hb12 => ?_)
        refine x_iload dm_142_61 rfl ?_
        refine x_icmp_ne 70 dm_142_63 rfl (fun c13 => ?_) (fun c13 => ?_)
        · refine x_iconst (1) dm_142_66 (by decide) ?_
          refine x_goto 71 dm_142_67 rfl ?_
          exact x_zreturn dm_142_71 rfl (by decide)
        · refine x_iconst (0) dm_142_70 (by decide) ?_
          exact x_zreturn dm_142_71 rfl (by decide)
      · refine x_iconst (0) dm_142_70 (by decide) ?_
        exact x_zreturn dm_142_71 rfl (by decide)
    · refine x_iconst (0) dm_142_70 (by decide) ?_
      exact x_zreturn dm_142_71 rfl (by decide)
/-- FencedModules$Desk.<init>()V -/
def fn_9 (j : Nat) (h : im_H) : Option (im_H) :=
  if im_oa h [(0, .inr (some j))] [.inr (some j)] = true then (let h2 : im_H := im_nw h (0, 0) 4; if ([(0, .inr (some j))] : im_L).all (fun q => im_ok h2.1.1 q.2) = true ∧ ([.inr (some h.1.1), .inr (some j)] : List im_V).all (im_ok h2.1.1) = true then ((fn_0 h.1.1 h2).bind fun b3 => if b3.2.1 j = (0, 2) then (let h6 : im_H := im_pR b3 j 0 (some h.1.1); some h6) else none) else none) else none
set_option maxRecDepth 100000 in
set_option maxHeartbeats 4000000 in
theorem tn_9 (j : Nat) (h : im_H) : im_Go im_zV 2 fm_9 0 (im_en 0 [.inr (some j)]) [] h (fn_9 j h) := by
  unfold fn_9
  refine x_aload_n dm_9_0 rfl ?_
  refine x_objinit dm_9_1 ml_2_1 mo_i mo_c (Nat.le_of_ble_eq_true rfl) (Nat.le_of_ble_eq_true rfl) rfl ?_
  refine x_aload_n dm_9_4 rfl ?_
  refine im_chk _ (fun ho1 => ?_)
  refine x_new dm_9_5 fc_0 ct_0 cl_2_7 cn_0 ci_0 rfl ho1 ?_
  refine x_dup dm_9_8 ?_
  refine im_chk _ (fun ho4 => ?_)
  refine im_callA mf_0 rfl (tn_0 _ _) (im_runI (as := []) (rest := [.inr _, .inr (some j)]) dm_9_9 mf_0 (Nat.le_of_ble_eq_true rfl) rfl ml_2_9 mi_0 rfl mp_0 (Nat.le_of_ble_eq_true rfl) rfl) rfl ho4 (fun b3 hb3 => ?_)
  refine im_chk _ (fun hk5 => ?_)
  refine x_putFR dm_9_12 fl_2_10 rfl rfl rfl rfl hk5 ?_
  exact x_return dm_9_15 rfl
def fn_21_33 (j : Nat) (y1 : Int32) (h : im_H) : Option (Int32 × im_H) :=
  if y1 = (4 : Int32) then (if h.2.1 j = (0, 3) then (((im_gR h j 1)).bind fun q3 => if im_in h 1 q3 (1 : Int32) then (if im_in h 1 q3 (2 : Int32) then ((fn_22 j (im_gI h q3 ((1 : Int32)).toNatClampNeg) (im_gI h q3 ((2 : Int32)).toNatClampNeg) h).bind fun b6 => if b6.1 = 0 then (some ((0 : Int32), b6.2)) else (some ((1 : Int32), b6.2))) else none) else none) else none) else (some ((0 : Int32), h))
set_option maxRecDepth 100000 in
set_option maxHeartbeats 4000000 in
theorem tn_21_33 (j : Nat) (y1 : Int32) (h : im_H) : im_Go im_zI 2 fm_21 33 [(0, .inr (some j)), (1, .inl y1)] [] h (fn_21_33 j y1 h) := by
  unfold fn_21_33
  refine x_iload_n dm_21_33 rfl ?_
  refine x_iconst (4) dm_21_34 (by decide) ?_
  refine x_icmp_ne 61 dm_21_35 rfl (fun c1 => ?_) (fun c1 => ?_)
  · refine x_aload_n dm_21_38 rfl ?_
    refine x_aload_n dm_21_39 rfl ?_
    refine im_chk _ (fun hk2 => ?_)
    refine x_getR dm_21_40 fl_3_20 rfl rfl hk2 ?_
    refine x_iconst (1) dm_21_43 (by decide) ?_
    refine im_bind (fun q3 hq3 => ?_)
    refine im_chk _ (fun hi4 => ?_)
    refine x_iaload dm_21_44 hq3 hi4 ?_
    refine x_aload_n dm_21_45 rfl ?_
    refine x_getR dm_21_46 fl_3_20 rfl rfl hk2 ?_
    refine x_iconst (2) dm_21_49 (by decide) ?_
    refine im_chk _ (fun hi5 => ?_)
    refine x_iaload dm_21_50 hq3 hi5 ?_
    refine im_callI mf_22 rfl (tn_22 j _ _ h) (im_runV (as := [.inl _, .inl _]) (rest := []) dm_21_51 mf_22 (Nat.le_of_ble_eq_true rfl) ml_3_80 mi_22 ms_22 mp_22 (Nat.le_of_ble_eq_true rfl) rfl hk2 ⟨_, _, rfl⟩) rfl (fun b6 hb6 => ?_)
    refine x_if_eq 61 dm_21_54 rfl (fun c7 => ?_) (fun c7 => ?_)
    · refine x_iconst (0) dm_21_61 (by decide) ?_
      exact x_zreturn dm_21_62 rfl (by decide)
    · refine x_iconst (1) dm_21_57 (by decide) ?_
      refine x_goto 62 dm_21_58 rfl ?_
      exact x_zreturn dm_21_62 rfl (by decide)
  · refine x_iconst (0) dm_21_61 (by decide) ?_
    exact x_zreturn dm_21_62 rfl (by decide)
def fn_21_18 (j : Nat) (y1 : Int32) (y2 : Int32) (h : im_H) : Option (Int32 × im_H) :=
  if y2 < (2 : Int32) then (fn_21_33 j y1 h) else (if h.2.1 j = (0, 3) then ((fn_23 j (2 : Int32) h).bind fun b3 => if b3.1 = 0 then (fn_21_33 j y1 b3.2) else (some ((1 : Int32), b3.2))) else none)
set_option maxRecDepth 100000 in
set_option maxHeartbeats 4000000 in
theorem tn_21_18 (j : Nat) (y1 : Int32) (y2 : Int32) (h : im_H) : im_Go im_zI 2 fm_21 18 [(0, .inr (some j)), (1, .inl y1), (2, .inl y2)] [] h (fn_21_18 j y1 y2 h) := by
  unfold fn_21_18
  refine x_iload_n dm_21_18 rfl ?_
  refine x_iconst (2) dm_21_19 (by decide) ?_
  refine x_icmp_lt 33 dm_21_20 rfl (fun c1 => ?_) (fun c1 => ?_)
  · exact im_lsub [(0, .inr (some j)), (1, .inl y1)] (im_sb_c rfl (im_sb_c rfl im_sb_n)) (tn_21_33 j y1 h)
  · refine x_aload_n dm_21_23 rfl ?_
    refine x_iconst (2) dm_21_24 (by decide) ?_
    refine im_chk _ (fun hk2 => ?_)
    refine im_callI mf_23 rfl (tn_23 j (2 : Int32) h) (im_runV (as := [.inl (2 : Int32)]) (rest := []) dm_21_25 mf_23 (Nat.le_of_ble_eq_true rfl) ml_3_67 mi_23 ms_23 mp_23 (Nat.le_of_ble_eq_true rfl) rfl hk2 ⟨_, _, rfl⟩) rfl (fun b3 hb3 => ?_)
    refine x_if_eq 33 dm_21_28 rfl (fun c4 => ?_) (fun c4 => ?_)
    · exact im_lsub [(0, .inr (some j)), (1, .inl y1)] (im_sb_c rfl (im_sb_c rfl im_sb_n)) (tn_21_33 j y1 b3.2)
    · refine x_iconst (1) dm_21_31 (by decide) ?_
      exact x_zreturn dm_21_32 rfl (by decide)
/-- FencedModules$Follower.callTakesLabel(I)Z -/
def fn_21 (j : Nat) (x1 : Int32) (h : im_H) : Option (Int32 × im_H) :=
  (fn_11 x1 h).bind fun b1 => if b1.1 < (1 : Int32) then (fn_21_18 j x1 b1.1 b1.2) else (if b1.2.2.1 j = (0, 3) then ((fn_23 j (1 : Int32) b1.2).bind fun b4 => if b4.1 = 0 then (fn_21_18 j x1 b1.1 b4.2) else (some ((1 : Int32), b4.2))) else none)
set_option maxRecDepth 100000 in
set_option maxHeartbeats 4000000 in
theorem tn_21 (j : Nat) (x1 : Int32) (h : im_H) : im_Go im_zI 2 fm_21 0 (im_en 0 [.inr (some j), .inl x1]) [] h (fn_21 j x1 h) := by
  unfold fn_21
  refine x_iload_n dm_21_0 rfl ?_
  refine im_callI mf_11 rfl (tn_11 x1 h) (im_runS (as := [.inl x1]) (rest := []) dm_21_1 mf_11 (Nat.le_of_ble_eq_true rfl) ml_3_77 mi_11 mp_11 (Nat.le_of_ble_eq_true rfl)) rfl (fun b1 hb1 => ?_)
  refine x_istore_n dm_21_4 (Nat.le_of_ble_eq_true rfl) ?_
  refine x_iload_n dm_21_5 rfl ?_
  refine x_iconst (1) dm_21_6 (by decide) ?_
  refine x_icmp_lt 18 dm_21_7 rfl (fun c2 => ?_) (fun c2 => ?_)
  · exact im_lsub [(0, .inr (some j)), (1, .inl x1), (2, .inl b1.1)] (im_sb_c rfl (im_sb_c rfl (im_sb_c rfl im_sb_n))) (tn_21_18 j x1 b1.1 b1.2)
  · refine x_aload_n dm_21_10 rfl ?_
    refine x_iconst (1) dm_21_11 (by decide) ?_
    refine im_chk _ (fun hk3 => ?_)
    refine im_callI mf_23 rfl (tn_23 j (1 : Int32) b1.2) (im_runV (as := [.inl (1 : Int32)]) (rest := []) dm_21_12 mf_23 (Nat.le_of_ble_eq_true rfl) ml_3_67 mi_23 ms_23 mp_23 (Nat.le_of_ble_eq_true rfl) rfl hk3 ⟨_, _, rfl⟩) rfl (fun b4 hb4 => ?_)
    refine x_if_ne 31 dm_21_15 rfl (fun c5 => ?_) (fun c5 => ?_)
    · exact im_lsub [(0, .inr (some j)), (1, .inl x1), (2, .inl b1.1)] (im_sb_c rfl (im_sb_c rfl (im_sb_c rfl im_sb_n))) (tn_21_18 j x1 b1.1 b4.2)
    · refine x_iconst (1) dm_21_31 (by decide) ?_
      exact x_zreturn dm_21_32 rfl (by decide)
def fn_29_134 (j : Nat) (s0 : Int32) (s1 : Int32) (s2 : Option Nat) (h : im_H) : Option (Int32 × im_H) :=
  (s2).bind fun q1 => if h.2.1 q1 = (0, 3) then ((fn_27 q1 s1 s0 h).bind fun b3 => some ((0 : Int32), b3)) else none
set_option maxRecDepth 100000 in
set_option maxHeartbeats 4000000 in
theorem tn_29_134 (j : Nat) (s0 : Int32) (s1 : Int32) (s2 : Option Nat) (h : im_H) : im_Go im_zI 2 fm_29 134 [] [.inl s0, .inl s1, .inr s2] h (fn_29_134 j s0 s1 s2 h) := by
  unfold fn_29_134
  refine im_bind (fun q1 hq1 => ?_)
  refine im_chk _ (fun hk2 => ?_)
  refine im_callV mf_27 rfl (im_eqo hq1 (tn_27 q1 s1 s0 h)) (im_runV (as := [.inl s1, .inl s0]) (rest := []) dm_29_134 mf_27 (Nat.le_of_ble_eq_true rfl) ml_3_110 mi_27 ms_27 mp_27 (Nat.le_of_ble_eq_true rfl) hq1 hk2 ⟨_, _, rfl⟩) rfl (fun b3 hb3 => ?_)
  refine x_goto 146 dm_29_137 rfl ?_
  refine x_iconst (0) dm_29_146 (by decide) ?_
  exact x_ireturn dm_29_147 rfl
/-- FencedModules$Follower.answerCall(LFencedModules$Sandbox;I)I -/
def fn_29 (j : Nat) (x1 : Option Nat) (x2 : Int32) (h : im_H) : Option (Int32 × im_H) :=
  if h.2.1 j = (0, 3) then (((im_gR h j 1)).bind fun q2 => if im_in h 1 q2 (1 : Int32) then (if im_in h 1 q2 (2 : Int32) then (((im_gR h j 0)).bind fun q5 => if h.2.1 q5 = (0, 2) then ((fn_14 q5 x2 (im_gI h q2 ((1 : Int32)).toNatClampNeg) (im_gI h q2 ((2 : Int32)).toNatClampNeg) h).bind fun b7 => if x2 = 0 then (some ((1 : Int32), b7)) else (if x2 = 1 then (if b7.2.1 j = (0, 3) then ((fn_27 j (1 : Int32) (0 : Int32) b7).bind fun b11 => some ((0 : Int32), b11)) else none) else (if x2 = 2 then (if b7.2.1 j = (0, 3) then (((im_gR b7 j 0)).bind fun q14 => if b7.2.1 q14 = (0, 2) then ((fn_16 q14 x1 b7).bind fun b16 => if b16.2.2.1 j = (0, 3) then ((fn_27 j (1 : Int32) b16.1 b16.2).bind fun b18 => some ((0 : Int32), b18)) else none) else none) else none) else (if x2 = 3 then (if b7.2.1 j = (0, 3) then (((im_gR b7 j 1)).bind fun q21 => if im_in b7 1 q21 (1 : Int32) then (((im_gR b7 j 0)).bind fun q23 => if b7.2.1 q23 = (0, 2) then ((fn_15 q23 (im_gI b7 q21 ((1 : Int32)).toNatClampNeg) b7).bind fun b25 => if b25.2.2.1 j = (0, 3) then ((fn_27 j (1 : Int32) b25.1 b25.2).bind fun b27 => some ((0 : Int32), b27)) else none) else none) else none) else none) else (if x2 = 4 then (if b7.2.1 j = (0, 3) then (((im_gR b7 j 1)).bind fun q30 => if im_in b7 1 q30 (1 : Int32) then (if im_in b7 1 q30 (2 : Int32) then ((fn_12 (im_gI b7 q30 ((1 : Int32)).toNatClampNeg) (im_gI b7 q30 ((2 : Int32)).toNatClampNeg) b7).bind fun b33 => if b33.1 = 0 then (fn_29_134 j (-1 : Int32) (1 : Int32) (some j) b33.2) else (if b33.2.2.1 j = (0, 3) then (((im_gR b33.2 j 1)).bind fun q36 => if im_in b33.2 1 q36 (2 : Int32) then (fn_29_134 j (im_gI b33.2 q36 ((2 : Int32)).toNatClampNeg) (1 : Int32) (some j) b33.2) else none) else none)) else none) else none) else none) else (if b7.2.1 j = (0, 3) then ((fn_27 j (1 : Int32) (-1 : Int32) b7).bind fun b39 => some ((0 : Int32), b39)) else none)))))) else none) else none) else none) else none
set_option maxRecDepth 100000 in
set_option maxHeartbeats 4000000 in
theorem tn_29 (j : Nat) (x1 : Option Nat) (x2 : Int32) (h : im_H) : im_Go im_zI 2 fm_29 0 (im_en 0 [.inr (some j), .inr x1, .inl x2]) [] h (fn_29 j x1 x2 h) := by
  unfold fn_29
  refine x_aload_n dm_29_0 rfl ?_
  refine im_chk _ (fun hk1 => ?_)
  refine x_getR dm_29_1 fl_3_16 rfl rfl hk1 ?_
  refine x_iload_n dm_29_4 rfl ?_
  refine x_aload_n dm_29_5 rfl ?_
  refine x_getR dm_29_6 fl_3_20 rfl rfl hk1 ?_
  refine x_iconst (1) dm_29_9 (by decide) ?_
  refine im_bind (fun q2 hq2 => ?_)
  refine im_chk _ (fun hi3 => ?_)
  refine x_iaload dm_29_10 hq2 hi3 ?_
  refine x_aload_n dm_29_11 rfl ?_
  refine x_getR dm_29_12 fl_3_20 rfl rfl hk1 ?_
  refine x_iconst (2) dm_29_15 (by decide) ?_
  refine im_chk _ (fun hi4 => ?_)
  refine x_iaload dm_29_16 hq2 hi4 ?_
  refine im_bind (fun q5 hq5 => ?_)
  refine im_chk _ (fun hk6 => ?_)
  refine im_callV mf_14 rfl (im_eqo hq5 (tn_14 q5 x2 _ _ h)) (im_runV (as := [.inl x2, .inl _, .inl _]) (rest := []) dm_29_17 mf_14 (Nat.le_of_ble_eq_true rfl) ml_3_113 mi_14 ms_14 mp_14 (Nat.le_of_ble_eq_true rfl) hq5 hk6 ⟨_, _, rfl⟩) rfl (fun b7 hb7 => ?_)
  refine x_iload_n dm_29_20 rfl ?_
  refine im_test _ (fun c8 => ?_) (fun c8 => ?_)
  · refine x_tabIn 0 56 dm_29_21 c8 (by decide) (by decide) rfl rfl ?_
    refine x_iconst (1) dm_29_56 (by decide) ?_
    exact x_ireturn dm_29_57 rfl
  refine im_test _ (fun c9 => ?_) (fun c9 => ?_)
  · refine x_tabIn 1 58 dm_29_21 c9 (by decide) (by decide) rfl rfl ?_
    refine x_aload_n dm_29_58 rfl ?_
    refine x_iconst (1) dm_29_59 (by decide) ?_
    refine x_iconst (0) dm_29_60 (by decide) ?_
    refine im_chk _ (fun hk10 => ?_)
    refine im_callV mf_27 rfl (tn_27 j (1 : Int32) (0 : Int32) b7) (im_runV (as := [.inl (1 : Int32), .inl (0 : Int32)]) (rest := []) dm_29_61 mf_27 (Nat.le_of_ble_eq_true rfl) ml_3_110 mi_27 ms_27 mp_27 (Nat.le_of_ble_eq_true rfl) rfl hk10 ⟨_, _, rfl⟩) rfl (fun b11 hb11 => ?_)
    refine x_goto 146 dm_29_64 rfl ?_
    refine x_iconst (0) dm_29_146 (by decide) ?_
    exact x_ireturn dm_29_147 rfl
  refine im_test _ (fun c12 => ?_) (fun c12 => ?_)
  · refine x_tabIn 2 67 dm_29_21 c12 (by decide) (by decide) rfl rfl ?_
    refine x_aload_n dm_29_67 rfl ?_
    refine x_iconst (1) dm_29_68 (by decide) ?_
    refine x_aload_n dm_29_69 rfl ?_
    refine im_chk _ (fun hk13 => ?_)
    refine x_getR dm_29_70 fl_3_16 rfl rfl hk13 ?_
    refine x_aload_n dm_29_73 rfl ?_
    refine im_bind (fun q14 hq14 => ?_)
    refine im_chk _ (fun hk15 => ?_)
    refine im_callI mf_16 rfl (im_eqo hq14 (tn_16 q14 x1 b7)) (im_runV (as := [.inr x1]) (rest := [.inl (1 : Int32), .inr (some j)]) dm_29_74 mf_16 (Nat.le_of_ble_eq_true rfl) ml_3_117 mi_16 ms_16 mp_16 (Nat.le_of_ble_eq_true rfl) hq14 hk15 ⟨_, _, rfl⟩) rfl (fun b16 hb16 => ?_)
    refine im_chk _ (fun hk17 => ?_)
    refine im_callV mf_27 rfl (tn_27 j (1 : Int32) b16.1 b16.2) (im_runV (as := [.inl (1 : Int32), .inl b16.1]) (rest := []) dm_29_77 mf_27 (Nat.le_of_ble_eq_true rfl) ml_3_110 mi_27 ms_27 mp_27 (Nat.le_of_ble_eq_true rfl) rfl hk17 ⟨_, _, rfl⟩) rfl (fun b18 hb18 => ?_)
    refine x_goto 146 dm_29_80 rfl ?_
    refine x_iconst (0) dm_29_146 (by decide) ?_
    exact x_ireturn dm_29_147 rfl
  refine im_test _ (fun c19 => ?_) (fun c19 => ?_)
  · refine x_tabIn 3 83 dm_29_21 c19 (by decide) (by decide) rfl rfl ?_
    refine x_aload_n dm_29_83 rfl ?_
    refine x_iconst (1) dm_29_84 (by decide) ?_
    refine x_aload_n dm_29_85 rfl ?_
    refine im_chk _ (fun hk20 => ?_)
    refine x_getR dm_29_86 fl_3_16 rfl rfl hk20 ?_
    refine x_aload_n dm_29_89 rfl ?_
    refine x_getR dm_29_90 fl_3_20 rfl rfl hk20 ?_
    refine x_iconst (1) dm_29_93 (by decide) ?_
    refine im_bind (fun q21 hq21 => ?_)
    refine im_chk _ (fun hi22 => ?_)
    refine x_iaload dm_29_94 hq21 hi22 ?_
    refine im_bind (fun q23 hq23 => ?_)
    refine im_chk _ (fun hk24 => ?_)
    refine im_callI mf_15 rfl (im_eqo hq23 (tn_15 q23 _ b7)) (im_runV (as := [.inl _]) (rest := [.inl (1 : Int32), .inr (some j)]) dm_29_95 mf_15 (Nat.le_of_ble_eq_true rfl) ml_3_121 mi_15 ms_15 mp_15 (Nat.le_of_ble_eq_true rfl) hq23 hk24 ⟨_, _, rfl⟩) rfl (fun b25 hb25 => ?_)
    refine im_chk _ (fun hk26 => ?_)
    refine im_callV mf_27 rfl (tn_27 j (1 : Int32) b25.1 b25.2) (im_runV (as := [.inl (1 : Int32), .inl b25.1]) (rest := []) dm_29_98 mf_27 (Nat.le_of_ble_eq_true rfl) ml_3_110 mi_27 ms_27 mp_27 (Nat.le_of_ble_eq_true rfl) rfl hk26 ⟨_, _, rfl⟩) rfl (fun b27 hb27 => ?_)
    refine x_goto 146 dm_29_101 rfl ?_
    refine x_iconst (0) dm_29_146 (by decide) ?_
    exact x_ireturn dm_29_147 rfl
  refine im_test _ (fun c28 => ?_) (fun c28 => ?_)
  · refine x_tabIn 4 104 dm_29_21 c28 (by decide) (by decide) rfl rfl ?_
    refine x_aload_n dm_29_104 rfl ?_
    refine x_iconst (1) dm_29_105 (by decide) ?_
    refine x_aload_n dm_29_106 rfl ?_
    refine im_chk _ (fun hk29 => ?_)
    refine x_getR dm_29_107 fl_3_20 rfl rfl hk29 ?_
    refine x_iconst (1) dm_29_110 (by decide) ?_
    refine im_bind (fun q30 hq30 => ?_)
    refine im_chk _ (fun hi31 => ?_)
    refine x_iaload dm_29_111 hq30 hi31 ?_
    refine x_aload_n dm_29_112 rfl ?_
    refine x_getR dm_29_113 fl_3_20 rfl rfl hk29 ?_
    refine x_iconst (2) dm_29_116 (by decide) ?_
    refine im_chk _ (fun hi32 => ?_)
    refine x_iaload dm_29_117 hq30 hi32 ?_
    refine im_callI mf_12 rfl (tn_12 _ _ b7) (im_runS (as := [.inl _, .inl _]) (rest := [.inl (1 : Int32), .inr (some j)]) dm_29_118 mf_12 (Nat.le_of_ble_eq_true rfl) ml_3_84 mi_12 mp_12 (Nat.le_of_ble_eq_true rfl)) rfl (fun b33 hb33 => ?_)
    refine x_if_eq 133 dm_29_121 rfl (fun c34 => ?_) (fun c34 => ?_)
    · refine x_iconst (-1) dm_29_133 (by decide) ?_
      exact im_lsub [] im_sb_n (tn_29_134 j (-1 : Int32) (1 : Int32) (some j) b33.2)
    · refine x_aload_n dm_29_124 rfl ?_
      refine im_chk _ (fun hk35 => ?_)
      refine x_getR dm_29_125 fl_3_20 rfl rfl hk35 ?_
      refine x_iconst (2) dm_29_128 (by decide) ?_
      refine im_bind (fun q36 hq36 => ?_)
      refine im_chk _ (fun hi37 => ?_)
      refine x_iaload dm_29_129 hq36 hi37 ?_
      refine x_goto 134 dm_29_130 rfl ?_
      exact im_lsub [] im_sb_n (tn_29_134 j _ (1 : Int32) (some j) b33.2)
  refine x_tabOut 140 dm_29_21 (im_swout (0) 5 (by decide) (by decide) (fun i hi => match i, hi with | 0, _ => c8 | 1, _ => c9 | 2, _ => c12 | 3, _ => c19 | 4, _ => c28 | i + 5, hi => absurd hi (by omega))) rfl ?_
  refine x_aload_n dm_29_140 rfl ?_
  refine x_iconst (1) dm_29_141 (by decide) ?_
  refine x_iconst (-1) dm_29_142 (by decide) ?_
  refine im_chk _ (fun hk38 => ?_)
  refine im_callV mf_27 rfl (tn_27 j (1 : Int32) (-1 : Int32) b7) (im_runV (as := [.inl (1 : Int32), .inl (-1 : Int32)]) (rest := []) dm_29_143 mf_27 (Nat.le_of_ble_eq_true rfl) ml_3_110 mi_27 ms_27 mp_27 (Nat.le_of_ble_eq_true rfl) rfl hk38 ⟨_, _, rfl⟩) rfl (fun b39 hb39 => ?_)
  refine x_iconst (0) dm_29_146 (by decide) ?_
  exact x_ireturn dm_29_147 rfl
def fn_36_45 (r7 : Int32 → Int32 → im_H → Option (Option Nat × im_H)) (j : Nat) (y1 : Int32) (y2 : Int32) (h : im_H) : Option (Option Nat × im_H) :=
  (fn_39 y1 h).bind fun b1 => let v2 : Int32 := (y2 + (1 : Int32)); r7 b1.1 v2 b1.2
set_option maxRecDepth 100000 in
set_option maxHeartbeats 4000000 in
theorem tn_36_45 (j : Nat) (r7 : Int32 → Int32 → im_H → Option (Option Nat × im_H)) (hr7 : ∀ (y1 : Int32) (y2 : Int32) (h : im_H), im_Go im_zR 2 fm_36 7 [(0, .inr (some j)), (1, .inl y1), (2, .inl y2)] [] h (r7 y1 y2 h)) (y1 : Int32) (y2 : Int32) (h : im_H) : im_Go im_zR 2 fm_36 45 [(0, .inr (some j)), (1, .inl y1), (2, .inl y2)] [] h (fn_36_45 r7 j y1 y2 h) := by
  unfold fn_36_45
  refine x_iload_n dm_36_45 rfl ?_
  refine im_callI mf_39 rfl (tn_39 y1 h) (im_runS (as := [.inl y1]) (rest := []) dm_36_46 mf_39 (Nat.le_of_ble_eq_true rfl) ml_4_73 mi_39 mp_39 (Nat.le_of_ble_eq_true rfl)) rfl (fun b1 hb1 => ?_)
  refine x_istore_n dm_36_49 (Nat.le_of_ble_eq_true rfl) ?_
  refine x_iinc (1) dm_36_50 rfl (by decide) (Nat.le_of_ble_eq_true rfl) ?_
  refine x_goto 7 dm_36_53 rfl ?_
  exact im_lsub [(0, .inr (some j)), (1, .inl b1.1), (2, .inl _)] (im_sb_c rfl (im_sb_c rfl (im_sb_c rfl im_sb_n))) (hr7 b1.1 _ b1.2)
def fn_36_43 (j : Nat) (y3 : Option Nat) (h : im_H) : Option (Option Nat × im_H) :=
  some (y3, h)
set_option maxRecDepth 100000 in
set_option maxHeartbeats 4000000 in
theorem tn_36_43 (j : Nat) (y3 : Option Nat) (h : im_H) : im_Go im_zR 2 fm_36 43 [(3, .inr y3)] [] h (fn_36_43 j y3 h) := by
  unfold fn_36_43
  refine x_aload_n dm_36_43 rfl ?_
  exact x_areturn dm_36_44 rfl
def fn_36_7 (j : Nat) : Nat → Int32 → Int32 → im_H → Option (Option Nat × im_H)
  | 0, _, _, _ => none
  | n + 1, y1, y2, h =>
    if (3 : Int32) ≤ y2 then (some (none, h)) else (if h.2.1 j = (0, 4) then ((fn_31 j y1 h).bind fun b3 => if b3.1 = none then (fn_36_45 (fn_36_7 j n) j y1 y2 b3.2) else ((b3.1).bind fun q5 => if b3.2.2.1 q5 = (0, 5) then (if (im_gI b3.2 q5 6) = (1 : Int32) then (if b3.2.2.1 j = (0, 4) then (if y1 = (im_gI b3.2 j 2) then (fn_36_43 j b3.1 b3.2) else ((fn_38 j y1 b3.2).bind fun b10 => fn_36_43 j b3.1 b10)) else none) else (fn_36_45 (fn_36_7 j n) j y1 y2 b3.2)) else none)) else none)
set_option maxRecDepth 100000 in
set_option maxHeartbeats 4000000 in
theorem tn_36_7 (j : Nat) : ∀ (n : Nat) (y1 : Int32) (y2 : Int32) (h : im_H), im_Go im_zR 2 fm_36 7 [(0, .inr (some j)), (1, .inl y1), (2, .inl y2)] [] h (fn_36_7 j n y1 y2 h)
  | 0, y1, y2, h => im_none
  | n + 1, y1, y2, h => by
    have ih := tn_36_7 j n
    unfold fn_36_7
    refine x_iload_n dm_36_7 rfl ?_
    refine x_iconst (3) dm_36_8 (by decide) ?_
    refine x_icmp_ge 56 dm_36_9 rfl (fun c1 => ?_) (fun c1 => ?_)
    · refine x_null dm_36_56 ?_
      exact x_areturn dm_36_57 rfl
    · refine x_aload_n dm_36_12 rfl ?_
      refine x_iload_n dm_36_13 rfl ?_
      refine im_chk _ (fun hk2 => ?_)
      refine im_callR mf_31 rfl (tn_31 j y1 h) (im_runV (as := [.inl y1]) (rest := []) dm_36_14 mf_31 (Nat.le_of_ble_eq_true rfl) ml_4_26 mi_31 ms_31 mp_31 (Nat.le_of_ble_eq_true rfl) rfl hk2 ⟨_, _, rfl⟩) rfl (fun b3 hb3 => ?_)
      refine x_astore_n dm_36_17 (Nat.le_of_ble_eq_true rfl) ?_
      refine x_aload_n dm_36_18 rfl ?_
      refine x_ifnull 45 dm_36_19 rfl (fun c4 => ?_) (fun c4 => ?_)
      · exact im_lsub [(0, .inr (some j)), (1, .inl y1), (2, .inl y2)] (im_sb_c rfl (im_sb_c rfl (im_sb_c rfl im_sb_n))) (tn_36_45 j (fn_36_7 j n) ih y1 y2 b3.2)
      · refine x_aload_n dm_36_22 rfl ?_
        refine im_bind (fun q5 hq5 => ?_)
        refine im_chk _ (fun hk6 => ?_)
        refine x_getI dm_36_23 fl_4_67 rfl hq5 hk6 ?_
        refine x_iconst (1) dm_36_26 (by decide) ?_
        refine x_icmp_ne 45 dm_36_27 rfl (fun c7 => ?_) (fun c7 => ?_)
        · refine x_iload_n dm_36_30 rfl ?_
          refine x_aload_n dm_36_31 rfl ?_
          refine im_chk _ (fun hk8 => ?_)
          refine x_getI dm_36_32 fl_4_49 rfl rfl hk8 ?_
          refine x_icmp_eq 43 dm_36_35 rfl (fun c9 => ?_) (fun c9 => ?_)
          · exact im_lsub [(3, .inr b3.1)] (im_sb_c rfl im_sb_n) (tn_36_43 j b3.1 b3.2)
          · refine x_aload_n dm_36_38 rfl ?_
            refine x_iload_n dm_36_39 rfl ?_
            refine im_callV mf_38 rfl (tn_38 j y1 b3.2) (im_runV (as := [.inl y1]) (rest := []) dm_36_40 mf_38 (Nat.le_of_ble_eq_true rfl) ml_4_70 mi_38 ms_38 mp_38 (Nat.le_of_ble_eq_true rfl) rfl hk8 ⟨_, _, rfl⟩) rfl (fun b10 hb10 => ?_)
            exact im_lsub [(3, .inr b3.1)] (im_sb_c rfl im_sb_n) (tn_36_43 j b3.1 b10)
        · exact im_lsub [(0, .inr (some j)), (1, .inl y1), (2, .inl y2)] (im_sb_c rfl (im_sb_c rfl (im_sb_c rfl im_sb_n))) (tn_36_45 j (fn_36_7 j n) ih y1 y2 b3.2)
/-- FencedModules$Machine.nextToStep()LFencedModules$Sandbox; -/
def fn_36 (j : Nat) (h : im_H) : Option (Option Nat × im_H) :=
  if h.2.1 j = (0, 4) then (let v2 : Int32 := (im_gI h j 2); fn_36_7 j 1000 v2 (0 : Int32) h) else none
set_option maxRecDepth 100000 in
set_option maxHeartbeats 4000000 in
theorem tn_36 (j : Nat) (h : im_H) : im_Go im_zR 2 fm_36 0 (im_en 0 [.inr (some j)]) [] h (fn_36 j h) := by
  unfold fn_36
  refine x_aload_n dm_36_0 rfl ?_
  refine im_chk _ (fun hk1 => ?_)
  refine x_getI dm_36_1 fl_4_49 rfl rfl hk1 ?_
  refine x_istore_n dm_36_4 (Nat.le_of_ble_eq_true rfl) ?_
  refine x_iconst (0) dm_36_5 (by decide) ?_
  refine x_istore_n dm_36_6 (Nat.le_of_ble_eq_true rfl) ?_
  exact im_lsub [(0, .inr (some j)), (1, .inl _), (2, .inl (0 : Int32))] (im_sb_c rfl (im_sb_c rfl (im_sb_c rfl im_sb_n))) (tn_36_7 j 1000 _ (0 : Int32) h)
/-- FencedModules$Machine.send(II)I -/
def fn_43 (j : Nat) (x1 : Int32) (x2 : Int32) (h : im_H) : Option (Int32 × im_H) :=
  if h.2.1 j = (0, 4) then ((fn_31 j x1 h).bind fun b2 => if b2.1 = none then (some ((-1 : Int32), b2.2)) else ((b2.1).bind fun q4 => if b2.2.2.1 q4 = (0, 5) then (if (im_gI b2.2 q4 6) = 0 then (some ((-1 : Int32), b2.2)) else ((fn_51 q4 x2 b2.2).bind fun b7 => if b7.1 = 0 then (some ((-1 : Int32), b7.2)) else (some ((0 : Int32), b7.2)))) else none)) else none
set_option maxRecDepth 100000 in
set_option maxHeartbeats 4000000 in
theorem tn_43 (j : Nat) (x1 : Int32) (x2 : Int32) (h : im_H) : im_Go im_zI 2 fm_43 0 (im_en 0 [.inr (some j), .inl x1, .inl x2]) [] h (fn_43 j x1 x2 h) := by
  unfold fn_43
  refine x_aload_n dm_43_0 rfl ?_
  refine x_iload_n dm_43_1 rfl ?_
  refine im_chk _ (fun hk1 => ?_)
  refine im_callR mf_31 rfl (tn_31 j x1 h) (im_runV (as := [.inl x1]) (rest := []) dm_43_2 mf_31 (Nat.le_of_ble_eq_true rfl) ml_4_26 mi_31 ms_31 mp_31 (Nat.le_of_ble_eq_true rfl) rfl hk1 ⟨_, _, rfl⟩) rfl (fun b2 hb2 => ?_)
  refine x_astore_n dm_43_5 (Nat.le_of_ble_eq_true rfl) ?_
  refine x_aload_n dm_43_6 rfl ?_
  refine x_ifnull 29 dm_43_7 rfl (fun c3 => ?_) (fun c3 => ?_)
  · refine x_iconst (-1) dm_43_29 (by decide) ?_
    exact x_ireturn dm_43_30 rfl
  · refine x_aload_n dm_43_10 rfl ?_
    refine im_bind (fun q4 hq4 => ?_)
    refine im_chk _ (fun hk5 => ?_)
    refine x_getI dm_43_11 fl_4_67 rfl hq4 hk5 ?_
    refine x_if_eq 29 dm_43_14 rfl (fun c6 => ?_) (fun c6 => ?_)
    · refine x_iconst (-1) dm_43_29 (by decide) ?_
      exact x_ireturn dm_43_30 rfl
    · refine x_aload_n dm_43_17 rfl ?_
      refine x_iload_n dm_43_18 rfl ?_
      refine im_callI mf_51 rfl (im_eqo hq4 (tn_51 q4 x2 b2.2)) (im_runV (as := [.inl x2]) (rest := []) dm_43_19 mf_51 (Nat.le_of_ble_eq_true rfl) ml_4_153 mi_51 ms_51 mp_51 (Nat.le_of_ble_eq_true rfl) hq4 hk5 ⟨_, _, rfl⟩) rfl (fun b7 hb7 => ?_)
      refine x_if_eq 29 dm_43_22 rfl (fun c8 => ?_) (fun c8 => ?_)
      · refine x_iconst (-1) dm_43_29 (by decide) ?_
        exact x_ireturn dm_43_30 rfl
      · refine x_iconst (0) dm_43_25 (by decide) ?_
        refine x_goto 30 dm_43_26 rfl ?_
        exact x_ireturn dm_43_30 rfl
/-- FencedModules$Sandbox.start()V -/
def fn_48 (j : Nat) (h : im_H) : Option (im_H) :=
  if h.2.1 j = (0, 5) then ((fn_150 (im_gR h j 1) (0 : Int32) h).bind fun b2 => if b2.2.1 j = (0, 5) then ((fn_46 (im_gI b2 j 0) b2).bind fun b4 => ((im_gR b2 j 1)).bind fun q5 => if im_in b4.2 1 q5 (6 : Int32) then (let h7 : im_H := im_pI b4.2 q5 ((6 : Int32)).toNatClampNeg b4.1; if b4.2.2.1 j = (0, 5) then ((fn_47 (im_gI h7 j 0) h7).bind fun b9 => ((im_gR b4.2 j 1)).bind fun q10 => if im_in b9.2 1 q10 (7 : Int32) then (let h12 : im_H := im_pI b9.2 q10 ((7 : Int32)).toNatClampNeg b9.1; if b9.2.2.1 j = (0, 5) then ((fn_47 (im_gI h12 j 0) h12).bind fun b14 => if b14.2.2.1 j = (0, 5) then (let h16 : im_H := im_pI b14.2 j 5 b14.1; let h17 : im_H := im_pI h16 j 6 (1 : Int32); let h18 : im_H := im_pI h17 j 4 (0 : Int32); let h19 : im_H := im_pI h18 j 9 (0 : Int32); let h20 : im_H := im_pI h19 j 10 (0 : Int32); ((im_gR b14.2 j 3)).bind fun q21 => if b14.2.2.1 q21 = (0, 2) then ((fn_13 q21 h20).bind fun b23 => some b23) else none) else none) else none) else none) else none) else none) else none) else none
set_option maxRecDepth 100000 in
set_option maxHeartbeats 4000000 in
theorem tn_48 (j : Nat) (h : im_H) : im_Go im_zV 2 fm_48 0 (im_en 0 [.inr (some j)]) [] h (fn_48 j h) := by
  unfold fn_48
  refine x_aload_n dm_48_0 rfl ?_
  refine im_chk _ (fun hk1 => ?_)
  refine x_getR dm_48_1 fl_5_9 rfl rfl hk1 ?_
  refine x_iconst (0) dm_48_4 (by decide) ?_
  refine im_callV mf_150 rfl (tn_150 _ (0 : Int32) h) (im_runS (as := [.inr _, .inl (0 : Int32)]) (rest := []) dm_48_5 mf_150 (Nat.le_of_ble_eq_true rfl) ml_5_33 mi_150 mp_150 (Nat.le_of_ble_eq_true rfl)) rfl (fun b2 hb2 => ?_)
  refine x_aload_n dm_48_8 rfl ?_
  refine im_chk _ (fun hk3 => ?_)
  refine x_getR dm_48_9 fl_5_9 rfl rfl hk3 ?_
  refine x_bipush (6) dm_48_12 (by decide) ?_
  refine x_aload_n dm_48_14 rfl ?_
  refine x_getI dm_48_15 fl_5_29 rfl rfl hk3 ?_
  refine im_callI mf_46 rfl (tn_46 _ b2) (im_runS (as := [.inl _]) (rest := [.inl (6 : Int32), .inr _]) dm_48_18 mf_46 (Nat.le_of_ble_eq_true rfl) ml_5_39 mi_46 mp_46 (Nat.le_of_ble_eq_true rfl)) rfl (fun b4 hb4 => ?_)
  refine im_bind (fun q5 hq5 => ?_)
  refine im_chk _ (fun hi6 => ?_)
  refine x_iastore dm_48_21 hq5 hi6 ?_
  refine x_aload_n dm_48_22 rfl ?_
  refine im_chk _ (fun hk8 => ?_)
  refine x_getR dm_48_23 fl_5_9 rfl rfl hk8 ?_
  refine x_bipush (7) dm_48_26 (by decide) ?_
  refine x_aload_n dm_48_28 rfl ?_
  refine x_getI dm_48_29 fl_5_29 rfl rfl hk8 ?_
  refine im_callI mf_47 rfl (tn_47 _ _) (im_runS (as := [.inl _]) (rest := [.inl (7 : Int32), .inr _]) dm_48_32 mf_47 (Nat.le_of_ble_eq_true rfl) ml_5_43 mi_47 mp_47 (Nat.le_of_ble_eq_true rfl)) rfl (fun b9 hb9 => ?_)
  refine im_bind (fun q10 hq10 => ?_)
  refine im_chk _ (fun hi11 => ?_)
  refine x_iastore dm_48_35 hq10 hi11 ?_
  refine x_aload_n dm_48_36 rfl ?_
  refine x_aload_n dm_48_37 rfl ?_
  refine im_chk _ (fun hk13 => ?_)
  refine x_getI dm_48_38 fl_5_29 rfl rfl hk13 ?_
  refine im_callI mf_47 rfl (tn_47 _ _) (im_runS (as := [.inl _]) (rest := [.inr (some j)]) dm_48_41 mf_47 (Nat.le_of_ble_eq_true rfl) ml_5_43 mi_47 mp_47 (Nat.le_of_ble_eq_true rfl)) rfl (fun b14 hb14 => ?_)
  refine im_chk _ (fun hk15 => ?_)
  refine x_putI dm_48_44 fl_5_46 rfl rfl hk15 ?_
  refine x_aload_n dm_48_47 rfl ?_
  refine x_iconst (1) dm_48_48 (by decide) ?_
  refine x_putI dm_48_49 fl_5_49 rfl rfl hk15 ?_
  refine x_aload_n dm_48_52 rfl ?_
  refine x_iconst (0) dm_48_53 (by decide) ?_
  refine x_putI dm_48_54 fl_5_52 rfl rfl hk15 ?_
  refine x_aload_n dm_48_57 rfl ?_
  refine x_iconst (0) dm_48_58 (by decide) ?_
  refine x_putI dm_48_59 fl_5_55 rfl rfl hk15 ?_
  refine x_aload_n dm_48_62 rfl ?_
  refine x_iconst (0) dm_48_63 (by decide) ?_
  refine x_putI dm_48_64 fl_5_58 rfl rfl hk15 ?_
  refine x_aload_n dm_48_67 rfl ?_
  refine x_getR dm_48_68 fl_5_19 rfl rfl hk15 ?_
  refine im_bind (fun q21 hq21 => ?_)
  refine im_chk _ (fun hk22 => ?_)
  refine im_callV mf_13 rfl (im_eqo hq21 (tn_13 q21 _)) (im_runV (as := []) (rest := []) dm_48_71 mf_13 (Nat.le_of_ble_eq_true rfl) ml_5_61 mi_13 ms_13 mp_13 (Nat.le_of_ble_eq_true rfl) hq21 hk22 ⟨_, _, rfl⟩) rfl (fun b23 hb23 => ?_)
  exact x_return dm_48_74 rfl
def fn_70_78 (j : Nat) (h : im_H) : Option (Int32 × im_H) :=
  some ((1 : Int32), h)
set_option maxRecDepth 100000 in
set_option maxHeartbeats 4000000 in
theorem tn_70_78 (j : Nat) (h : im_H) : im_Go im_zI 2 fm_70 78 [] [] h (fn_70_78 j h) := by
  unfold fn_70_78
  refine x_iconst (1) dm_70_78 (by decide) ?_
  refine x_goto 83 dm_70_79 rfl ?_
  exact x_zreturn dm_70_83 rfl (by decide)
def fn_70_65 (j : Nat) (y1 : Int32) (y3 : Int32) (h : im_H) : Option (Int32 × im_H) :=
  if y3 = 0 then (fn_70_78 j h) else (if h.2.1 j = (0, 6) then ((fn_63 j y1 h).bind fun b3 => if (5 : Int32) ≤ b3.1 then (some ((0 : Int32), b3.2)) else (fn_70_78 j b3.2)) else none)
set_option maxRecDepth 100000 in
set_option maxHeartbeats 4000000 in
theorem tn_70_65 (j : Nat) (y1 : Int32) (y3 : Int32) (h : im_H) : im_Go im_zI 2 fm_70 65 [(0, .inr (some j)), (1, .inl y1), (3, .inl y3)] [] h (fn_70_65 j y1 y3 h) := by
  unfold fn_70_65
  refine x_iload_n dm_70_65 rfl ?_
  refine x_if_eq 78 dm_70_66 rfl (fun c1 => ?_) (fun c1 => ?_)
  · exact im_lsub [] im_sb_n (tn_70_78 j h)
  · refine x_aload_n dm_70_69 rfl ?_
    refine x_iload_n dm_70_70 rfl ?_
    refine im_chk _ (fun hk2 => ?_)
    refine im_callI mf_63 rfl (tn_63 j y1 h) (im_runV (as := [.inl y1]) (rest := []) dm_70_71 mf_63 (Nat.le_of_ble_eq_true rfl) ml_6_67 mi_63 ms_63 mp_63 (Nat.le_of_ble_eq_true rfl) rfl hk2 ⟨_, _, rfl⟩) rfl (fun b3 hb3 => ?_)
    refine x_iconst (5) dm_70_74 (by decide) ?_
    refine x_icmp_ge 82 dm_70_75 rfl (fun c4 => ?_) (fun c4 => ?_)
    · refine x_iconst (0) dm_70_82 (by decide) ?_
      exact x_zreturn dm_70_83 rfl (by decide)
    · exact im_lsub [] im_sb_n (tn_70_78 j b3.2)
def fn_70_49 (j : Nat) (y1 : Int32) (y3 : Int32) (s0 : Int32) (h : im_H) : Option (Int32 × im_H) :=
  if s0 = 0 then (fn_70_65 j y1 y3 h) else (if h.2.1 j = (0, 6) then ((fn_62 j y1 h).bind fun b3 => if (5 : Int32) ≤ b3.1 then (some ((0 : Int32), b3.2)) else (fn_70_65 j y1 y3 b3.2)) else none)
set_option maxRecDepth 100000 in
set_option maxHeartbeats 4000000 in
theorem tn_70_49 (j : Nat) (y1 : Int32) (y3 : Int32) (s0 : Int32) (h : im_H) : im_Go im_zI 2 fm_70 49 [(0, .inr (some j)), (1, .inl y1), (3, .inl y3)] [.inl s0] h (fn_70_49 j y1 y3 s0 h) := by
  unfold fn_70_49
  refine x_istore dm_70_49 (Nat.le_of_ble_eq_true rfl) ?_
  refine x_iload dm_70_51 rfl ?_
  refine x_if_eq 65 dm_70_53 rfl (fun c1 => ?_) (fun c1 => ?_)
  · exact im_lsub [(0, .inr (some j)), (1, .inl y1), (3, .inl y3)] (im_sb_c rfl (im_sb_c rfl (im_sb_c rfl im_sb_n))) (tn_70_65 j y1 y3 h)
  · refine x_aload_n dm_70_56 rfl ?_
    refine x_iload_n dm_70_57 rfl ?_
    refine im_chk _ (fun hk2 => ?_)
    refine im_callI mf_62 rfl (tn_62 j y1 h) (im_runV (as := [.inl y1]) (rest := []) dm_70_58 mf_62 (Nat.le_of_ble_eq_true rfl) ml_6_64 mi_62 ms_62 mp_62 (Nat.le_of_ble_eq_true rfl) rfl hk2 ⟨_, _, rfl⟩) rfl (fun b3 hb3 => ?_)
    refine x_iconst (5) dm_70_61 (by decide) ?_
    refine x_icmp_ge 82 dm_70_62 rfl (fun c4 => ?_) (fun c4 => ?_)
    · refine x_iconst (0) dm_70_82 (by decide) ?_
      exact x_zreturn dm_70_83 rfl (by decide)
    · exact im_lsub [(0, .inr (some j)), (1, .inl y1), (3, .inl y3)] (im_sb_c rfl (im_sb_c rfl (im_sb_c rfl im_sb_n))) (tn_70_65 j y1 y3 b3.2)
def fn_70_44 (j : Nat) (y1 : Int32) (y3 : Int32) (h : im_H) : Option (Int32 × im_H) :=
  fn_70_49 j y1 y3 (1 : Int32) h
set_option maxRecDepth 100000 in
set_option maxHeartbeats 4000000 in
theorem tn_70_44 (j : Nat) (y1 : Int32) (y3 : Int32) (h : im_H) : im_Go im_zI 2 fm_70 44 [(0, .inr (some j)), (1, .inl y1), (3, .inl y3)] [] h (fn_70_44 j y1 y3 h) := by
  unfold fn_70_44
  refine x_iconst (1) dm_70_44 (by decide) ?_
  refine x_goto 49 dm_70_45 rfl ?_
  exact im_lsub [(0, .inr (some j)), (1, .inl y1), (3, .inl y3)] (im_sb_c rfl (im_sb_c rfl (im_sb_c rfl im_sb_n))) (tn_70_49 j y1 y3 (1 : Int32) h)
def fn_70_22 (j : Nat) (y1 : Int32) (y2 : Int32) (s0 : Int32) (h : im_H) : Option (Int32 × im_H) :=
  if s0 = 0 then (if y2 = (1 : Int32) then (fn_70_44 j y1 s0 h) else (if y2 = (13 : Int32) then (fn_70_44 j y1 s0 h) else (if y2 = (15 : Int32) then (fn_70_44 j y1 s0 h) else (fn_70_49 j y1 s0 (0 : Int32) h)))) else (fn_70_44 j y1 s0 h)
set_option maxRecDepth 100000 in
set_option maxHeartbeats 4000000 in
theorem tn_70_22 (j : Nat) (y1 : Int32) (y2 : Int32) (s0 : Int32) (h : im_H) : im_Go im_zI 2 fm_70 22 [(0, .inr (some j)), (1, .inl y1), (2, .inl y2)] [.inl s0] h (fn_70_22 j y1 y2 s0 h) := by
  unfold fn_70_22
  refine x_istore_n dm_70_22 (Nat.le_of_ble_eq_true rfl) ?_
  refine x_iload_n dm_70_23 rfl ?_
  refine x_if_ne 44 dm_70_24 rfl (fun c1 => ?_) (fun c1 => ?_)
  · refine x_iload_n dm_70_27 rfl ?_
    refine x_iconst (1) dm_70_28 (by decide) ?_
    refine x_icmp_eq 44 dm_70_29 rfl (fun c2 => ?_) (fun c2 => ?_)
    · exact im_lsub [(0, .inr (some j)), (1, .inl y1), (3, .inl s0)] (im_sb_c rfl (im_sb_c rfl (im_sb_c rfl im_sb_n))) (tn_70_44 j y1 s0 h)
    · refine x_iload_n dm_70_32 rfl ?_
      refine x_bipush (13) dm_70_33 (by decide) ?_
      refine x_icmp_eq 44 dm_70_35 rfl (fun c3 => ?_) (fun c3 => ?_)
      · exact im_lsub [(0, .inr (some j)), (1, .inl y1), (3, .inl s0)] (im_sb_c rfl (im_sb_c rfl (im_sb_c rfl im_sb_n))) (tn_70_44 j y1 s0 h)
      · refine x_iload_n dm_70_38 rfl ?_
        refine x_bipush (15) dm_70_39 (by decide) ?_
        refine x_icmp_ne 48 dm_70_41 rfl (fun c4 => ?_) (fun c4 => ?_)
        · exact im_lsub [(0, .inr (some j)), (1, .inl y1), (3, .inl s0)] (im_sb_c rfl (im_sb_c rfl (im_sb_c rfl im_sb_n))) (tn_70_44 j y1 s0 h)
        · refine x_iconst (0) dm_70_48 (by decide) ?_
          exact im_lsub [(0, .inr (some j)), (1, .inl y1), (3, .inl s0)] (im_sb_c rfl (im_sb_c rfl (im_sb_c rfl im_sb_n))) (tn_70_49 j y1 s0 (0 : Int32) h)
  · exact im_lsub [(0, .inr (some j)), (1, .inl y1), (3, .inl s0)] (im_sb_c rfl (im_sb_c rfl (im_sb_c rfl im_sb_n))) (tn_70_44 j y1 s0 h)
def fn_70_21 (j : Nat) (y1 : Int32) (y2 : Int32) (h : im_H) : Option (Int32 × im_H) :=
  fn_70_22 j y1 y2 (0 : Int32) h
set_option maxRecDepth 100000 in
set_option maxHeartbeats 4000000 in
theorem tn_70_21 (j : Nat) (y1 : Int32) (y2 : Int32) (h : im_H) : im_Go im_zI 2 fm_70 21 [(0, .inr (some j)), (1, .inl y1), (2, .inl y2)] [] h (fn_70_21 j y1 y2 h) := by
  unfold fn_70_21
  refine x_iconst (0) dm_70_21 (by decide) ?_
  exact im_lsub [(0, .inr (some j)), (1, .inl y1), (2, .inl y2)] (im_sb_c rfl (im_sb_c rfl (im_sb_c rfl im_sb_n))) (tn_70_22 j y1 y2 (0 : Int32) h)
/-- FencedModules$Source.keepsToFreeRegisters(I)Z -/
def fn_70 (j : Nat) (x1 : Int32) (h : im_H) : Option (Int32 × im_H) :=
  if h.2.1 j = (0, 6) then ((fn_61 j x1 h).bind fun b2 => if b2.1 < (2 : Int32) then (fn_70_21 j x1 b2.1 b2.2) else (if (11 : Int32) < b2.1 then (fn_70_21 j x1 b2.1 b2.2) else (fn_70_22 j x1 b2.1 (1 : Int32) b2.2))) else none
set_option maxRecDepth 100000 in
set_option maxHeartbeats 4000000 in
theorem tn_70 (j : Nat) (x1 : Int32) (h : im_H) : im_Go im_zI 2 fm_70 0 (im_en 0 [.inr (some j), .inl x1]) [] h (fn_70 j x1 h) := by
  unfold fn_70
  refine x_aload_n dm_70_0 rfl ?_
  refine x_iload_n dm_70_1 rfl ?_
  refine im_chk _ (fun hk1 => ?_)
  refine im_callI mf_61 rfl (tn_61 j x1 h) (im_runV (as := [.inl x1]) (rest := []) dm_70_2 mf_61 (Nat.le_of_ble_eq_true rfl) ml_6_61 mi_61 ms_61 mp_61 (Nat.le_of_ble_eq_true rfl) rfl hk1 ⟨_, _, rfl⟩) rfl (fun b2 hb2 => ?_)
  refine x_istore_n dm_70_5 (Nat.le_of_ble_eq_true rfl) ?_
  refine x_iload_n dm_70_6 rfl ?_
  refine x_iconst (2) dm_70_7 (by decide) ?_
  refine x_icmp_lt 21 dm_70_8 rfl (fun c3 => ?_) (fun c3 => ?_)
  · exact im_lsub [(0, .inr (some j)), (1, .inl x1), (2, .inl b2.1)] (im_sb_c rfl (im_sb_c rfl (im_sb_c rfl im_sb_n))) (tn_70_21 j x1 b2.1 b2.2)
  · refine x_iload_n dm_70_11 rfl ?_
    refine x_bipush (11) dm_70_12 (by decide) ?_
    refine x_icmp_gt 21 dm_70_14 rfl (fun c4 => ?_) (fun c4 => ?_)
    · exact im_lsub [(0, .inr (some j)), (1, .inl x1), (2, .inl b2.1)] (im_sb_c rfl (im_sb_c rfl (im_sb_c rfl im_sb_n))) (tn_70_21 j x1 b2.1 b2.2)
    · refine x_iconst (1) dm_70_17 (by decide) ?_
      refine x_goto 22 dm_70_18 rfl ?_
      exact im_lsub [(0, .inr (some j)), (1, .inl x1), (2, .inl b2.1)] (im_sb_c rfl (im_sb_c rfl (im_sb_c rfl im_sb_n))) (tn_70_22 j x1 b2.1 (1 : Int32) b2.2)
def fn_71_44 (j : Nat) (y1 : Int32) (h : im_H) : Option (Int32 × im_H) :=
  if h.2.1 j = (0, 6) then ((fn_64 j y1 h).bind fun b2 => if b2.2.2.1 j = (0, 6) then ((fn_65 j b2.1 b2.2).bind fun b4 => if b4.1 &&& 1 = b4.1 then some (b4.1, b4.2) else none) else none) else none
set_option maxRecDepth 100000 in
set_option maxHeartbeats 4000000 in
theorem tn_71_44 (j : Nat) (y1 : Int32) (h : im_H) : im_Go im_zI 2 fm_71 44 [(0, .inr (some j)), (1, .inl y1)] [] h (fn_71_44 j y1 h) := by
  unfold fn_71_44
  refine x_aload_n dm_71_44 rfl ?_
  refine x_aload_n dm_71_45 rfl ?_
  refine x_iload_n dm_71_46 rfl ?_
  refine im_chk _ (fun hk1 => ?_)
  refine im_callI mf_64 rfl (tn_64 j y1 h) (im_runV (as := [.inl y1]) (rest := [.inr (some j)]) dm_71_47 mf_64 (Nat.le_of_ble_eq_true rfl) ml_6_70 mi_64 ms_64 mp_64 (Nat.le_of_ble_eq_true rfl) rfl hk1 ⟨_, _, rfl⟩) rfl (fun b2 hb2 => ?_)
  refine im_chk _ (fun hk3 => ?_)
  refine im_callI mf_65 rfl (tn_65 j b2.1 b2.2) (im_runV (as := [.inl b2.1]) (rest := []) dm_71_50 mf_65 (Nat.le_of_ble_eq_true rfl) ml_6_43 mi_65 ms_65 mp_65 (Nat.le_of_ble_eq_true rfl) rfl hk3 ⟨_, _, rfl⟩) rfl (fun b4 hb4 => ?_)
  refine im_chk _ (fun hz5 => ?_)
  exact x_zreturn dm_71_53 rfl hz5
/-- FencedModules$Source.namesWhatIsThere(I)Z -/
def fn_71 (j : Nat) (x1 : Int32) (h : im_H) : Option (Int32 × im_H) :=
  if h.2.1 j = (0, 6) then ((fn_61 j x1 h).bind fun b2 => if b2.1 = 10 then (fn_71_44 j x1 b2.2) else (if b2.1 = 11 then (fn_71_44 j x1 b2.2) else (if b2.1 = 12 then (fn_71_44 j x1 b2.2) else (if b2.1 = 13 then (some ((1 : Int32), b2.2)) else (if b2.1 = 14 then (if b2.2.2.1 j = (0, 6) then ((fn_64 j x1 b2.2).bind fun b9 => (fn_10 b9.1 b9.2).bind fun b10 => if b10.1 &&& 1 = b10.1 then some (b10.1, b10.2) else none) else none) else (if b2.1 = 15 then (fn_71_44 j x1 b2.2) else (some ((1 : Int32), b2.2)))))))) else none
set_option maxRecDepth 100000 in
set_option maxHeartbeats 4000000 in
theorem tn_71 (j : Nat) (x1 : Int32) (h : im_H) : im_Go im_zI 2 fm_71 0 (im_en 0 [.inr (some j), .inl x1]) [] h (fn_71 j x1 h) := by
  unfold fn_71
  refine x_aload_n dm_71_0 rfl ?_
  refine x_iload_n dm_71_1 rfl ?_
  refine im_chk _ (fun hk1 => ?_)
  refine im_callI mf_61 rfl (tn_61 j x1 h) (im_runV (as := [.inl x1]) (rest := []) dm_71_2 mf_61 (Nat.le_of_ble_eq_true rfl) ml_6_61 mi_61 ms_61 mp_61 (Nat.le_of_ble_eq_true rfl) rfl hk1 ⟨_, _, rfl⟩) rfl (fun b2 hb2 => ?_)
  refine im_test _ (fun c3 => ?_) (fun c3 => ?_)
  · refine x_tabIn 10 44 dm_71_5 c3 (by decide) (by decide) rfl rfl ?_
    exact im_lsub [(0, .inr (some j)), (1, .inl x1)] (im_sb_c rfl (im_sb_c rfl im_sb_n)) (tn_71_44 j x1 b2.2)
  refine im_test _ (fun c4 => ?_) (fun c4 => ?_)
  · refine x_tabIn 11 44 dm_71_5 c4 (by decide) (by decide) rfl rfl ?_
    exact im_lsub [(0, .inr (some j)), (1, .inl x1)] (im_sb_c rfl (im_sb_c rfl im_sb_n)) (tn_71_44 j x1 b2.2)
  refine im_test _ (fun c5 => ?_) (fun c5 => ?_)
  · refine x_tabIn 12 44 dm_71_5 c5 (by decide) (by decide) rfl rfl ?_
    exact im_lsub [(0, .inr (some j)), (1, .inl x1)] (im_sb_c rfl (im_sb_c rfl im_sb_n)) (tn_71_44 j x1 b2.2)
  refine im_test _ (fun c6 => ?_) (fun c6 => ?_)
  · refine x_tabIn 13 63 dm_71_5 c6 (by decide) (by decide) rfl rfl ?_
    refine x_iconst (1) dm_71_63 (by decide) ?_
    exact x_zreturn dm_71_64 rfl (by decide)
  refine im_test _ (fun c7 => ?_) (fun c7 => ?_)
  · refine x_tabIn 14 54 dm_71_5 c7 (by decide) (by decide) rfl rfl ?_
    refine x_aload_n dm_71_54 rfl ?_
    refine x_iload_n dm_71_55 rfl ?_
    refine im_chk _ (fun hk8 => ?_)
    refine im_callI mf_64 rfl (tn_64 j x1 b2.2) (im_runV (as := [.inl x1]) (rest := []) dm_71_56 mf_64 (Nat.le_of_ble_eq_true rfl) ml_6_70 mi_64 ms_64 mp_64 (Nat.le_of_ble_eq_true rfl) rfl hk8 ⟨_, _, rfl⟩) rfl (fun b9 hb9 => ?_)
    refine im_callI mf_10 rfl (tn_10 b9.1 b9.2) (im_runS (as := [.inl b9.1]) (rest := []) dm_71_59 mf_10 (Nat.le_of_ble_eq_true rfl) ml_6_73 mi_10 mp_10 (Nat.le_of_ble_eq_true rfl)) rfl (fun b10 hb10 => ?_)
    refine im_chk _ (fun hz11 => ?_)
    exact x_zreturn dm_71_62 rfl hz11
  refine im_test _ (fun c12 => ?_) (fun c12 => ?_)
  · refine x_tabIn 15 44 dm_71_5 c12 (by decide) (by decide) rfl rfl ?_
    exact im_lsub [(0, .inr (some j)), (1, .inl x1)] (im_sb_c rfl (im_sb_c rfl im_sb_n)) (tn_71_44 j x1 b2.2)
  refine x_tabOut 63 dm_71_5 (im_swout (10) 6 (by decide) (by decide) (fun i hi => match i, hi with | 0, _ => c3 | 1, _ => c4 | 2, _ => c5 | 3, _ => c6 | 4, _ => c7 | 5, _ => c12 | i + 6, hi => absurd hi (by omega))) rfl ?_
  refine x_iconst (1) dm_71_63 (by decide) ?_
  exact x_zreturn dm_71_64 rfl (by decide)
