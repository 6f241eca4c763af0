/-- FencedModules$Verifier.keepsFences(LFencedModules$Code;II)Z -/
def gn_141 (x1 : Int32) (x2 : Int32) (M : im_M) : Option (Int32 × im_M) :=
  (gn_8 x1 M).bind fun b1 => (gn_143 b1.1 b1.2).bind fun b2 => (gn_8 x1 b2.2).bind fun b3 => (gn_144 b3.1 b3.2).bind fun b4 => if b2.1 < (1 : Int32) then (some ((1 : Int32), b4.2)) else (if b2.1 ≤ (8 : Int32) then (if b4.1 = (6 : Int32) then ((gn_46 x2 b4.2).bind fun b8 => (gn_142 x1 (15 : Int32) b8.1 b8.2).bind fun b9 => if b9.1 &&& 1 = b9.1 then some (b9.1, b9.2) else none) else (if b4.1 = (7 : Int32) then ((gn_47 x2 b4.2).bind fun b12 => (gn_142 x1 (31 : Int32) b12.1 b12.2).bind fun b13 => if b13.1 &&& 1 = b13.1 then some (b13.1, b13.2) else none) else (some ((1 : Int32), b4.2)))) else (some ((1 : Int32), b4.2)))
set_option maxRecDepth 100000 in
set_option maxHeartbeats 4000000 in
theorem tg_141 (x1 : Int32) (x2 : Int32) (M : im_M) : im_Go zC_I 2 fm_141 0 (im_en 0 [.inr (some 7), .inl x1, .inl x2]) [] (st_hC M) (gn_141 x1 x2 M) := by
  unfold gn_141
  refine x_aload_n dm_141_0 rfl ?_
  refine x_iload_n dm_141_1 rfl ?_
  refine im_callCI mf_8 rfl (tg_8 x1 M) (im_runV (as := [.inl x1]) (rest := []) dm_141_2 mf_8 (Nat.le_of_ble_eq_true rfl) ml_10_23 mi_8 ms_8 mp_8 (Nat.le_of_ble_eq_true rfl) rfl rfl ⟨_, _, rfl⟩) rfl (fun b1 hb1 => ?_)
  refine im_callCI mf_143 rfl (tg_143 b1.1 b1.2) (im_runS (as := [.inl b1.1]) (rest := []) dm_141_5 mf_143 (Nat.le_of_ble_eq_true rfl) ml_10_32 mi_143 mp_143 (Nat.le_of_ble_eq_true rfl)) rfl (fun b2 hb2 => ?_)
  refine x_istore_n dm_141_8 (Nat.le_of_ble_eq_true rfl) ?_
  refine x_aload_n dm_141_9 rfl ?_
  refine x_iload_n dm_141_10 rfl ?_
  refine im_callCI mf_8 rfl (tg_8 x1 b2.2) (im_runV (as := [.inl x1]) (rest := []) dm_141_11 mf_8 (Nat.le_of_ble_eq_true rfl) ml_10_23 mi_8 ms_8 mp_8 (Nat.le_of_ble_eq_true rfl) rfl rfl ⟨_, _, rfl⟩) rfl (fun b3 hb3 => ?_)
  refine im_callCI mf_144 rfl (tg_144 b3.1 b3.2) (im_runS (as := [.inl b3.1]) (rest := []) dm_141_14 mf_144 (Nat.le_of_ble_eq_true rfl) ml_10_40 mi_144 mp_144 (Nat.le_of_ble_eq_true rfl)) rfl (fun b4 hb4 => ?_)
  refine x_istore dm_141_17 (Nat.le_of_ble_eq_true rfl) ?_
  refine x_iload_n dm_141_19 rfl ?_
  refine x_iconst (1) dm_141_20 (by decide) ?_
  refine x_icmp_lt 30 dm_141_21 rfl (fun c5 => ?_) (fun c5 => ?_)
  · refine x_iconst (1) dm_141_30 (by decide) ?_
    exact x_zretC dm_141_31 rfl (by decide)
  · refine x_iload_n dm_141_24 rfl ?_
    refine x_bipush (8) dm_141_25 (by decide) ?_
    refine x_icmp_le 32 dm_141_27 rfl (fun c6 => ?_) (fun c6 => ?_)
    · refine x_iload dm_141_32 rfl ?_
      refine x_bipush (6) dm_141_34 (by decide) ?_
      refine x_icmp_ne 51 dm_141_36 rfl (fun c7 => ?_) (fun c7 => ?_)
      · refine x_aload_n dm_141_39 rfl ?_
        refine x_iload_n dm_141_40 rfl ?_
        refine x_bipush (15) dm_141_41 (by decide) ?_
        refine x_iload_n dm_141_43 rfl ?_
        refine im_callCI mf_46 rfl (tg_46 x2 b4.2) (im_runS (as := [.inl x2]) (rest := [.inl (15 : Int32), .inl x1, .inr (some 7)]) dm_141_44 mf_46 (Nat.le_of_ble_eq_true rfl) ml_10_49 mi_46 mp_46 (Nat.le_of_ble_eq_true rfl)) rfl (fun b8 hb8 => ?_)
        refine im_callCI mf_142 rfl (tg_142 x1 (15 : Int32) b8.1 b8.2) (im_runS (as := [.inr (some 7), .inl x1, .inl (15 : Int32), .inl b8.1]) (rest := []) dm_141_47 mf_142 (Nat.le_of_ble_eq_true rfl) ml_10_52 mi_142 mp_142 (Nat.le_of_ble_eq_true rfl)) rfl (fun b9 hb9 => ?_)
        refine im_chk _ (fun hz10 => ?_)
        exact x_zretC dm_141_50 rfl hz10
      · refine x_iload dm_141_51 rfl ?_
        refine x_bipush (7) dm_141_53 (by decide) ?_
        refine x_icmp_ne 70 dm_141_55 rfl (fun c11 => ?_) (fun c11 => ?_)
        · refine x_aload_n dm_141_58 rfl ?_
          refine x_iload_n dm_141_59 rfl ?_
          refine x_bipush (31) dm_141_60 (by decide) ?_
          refine x_iload_n dm_141_62 rfl ?_
          refine im_callCI mf_47 rfl (tg_47 x2 b4.2) (im_runS (as := [.inl x2]) (rest := [.inl (31 : Int32), .inl x1, .inr (some 7)]) dm_141_63 mf_47 (Nat.le_of_ble_eq_true rfl) ml_10_56 mi_47 mp_47 (Nat.le_of_ble_eq_true rfl)) rfl (fun b12 hb12 => ?_)
          refine im_callCI mf_142 rfl (tg_142 x1 (31 : Int32) b12.1 b12.2) (im_runS (as := [.inr (some 7), .inl x1, .inl (31 : Int32), .inl b12.1]) (rest := []) dm_141_66 mf_142 (Nat.le_of_ble_eq_true rfl) ml_10_52 mi_142 mp_142 (Nat.le_of_ble_eq_true rfl)) rfl (fun b13 hb13 => ?_)
          refine im_chk _ (fun hz14 => ?_)
          exact x_zretC dm_141_69 rfl hz14
        · refine x_iconst (1) dm_141_70 (by decide) ?_
          exact x_zretC dm_141_71 rfl (by decide)
    · refine x_iconst (1) dm_141_30 (by decide) ?_
      exact x_zretC dm_141_31 rfl (by decide)
def gn_20_103 (M : im_M) : Option (Int32 × im_M) :=
  some ((1 : Int32), M)
set_option maxRecDepth 100000 in
set_option maxHeartbeats 4000000 in
theorem tg_20_103 (M : im_M) : im_Go zC_I 3 fm_20 103 [] [] (st_hC M) (gn_20_103 M) := by
  unfold gn_20_103
  refine x_iconst (1) dm_20_103 (by decide) ?_
  refine x_goto 108 dm_20_104 rfl ?_
  exact x_zretC dm_20_108 rfl (by decide)
def gn_20_87 (y2 : Int32) (y3 : Int32) (M : im_M) : Option (Int32 × im_M) :=
  (gn_23 y2 M).bind fun b1 => if b1.1 = 0 then ((gn_23 y3 b1.2).bind fun b3 => if b3.1 = 0 then (some ((0 : Int32), b3.2)) else (gn_20_103 b3.2)) else (gn_20_103 b1.2)
set_option maxRecDepth 100000 in
set_option maxHeartbeats 4000000 in
theorem tg_20_87 (y2 : Int32) (y3 : Int32) (M : im_M) : im_Go zC_I 3 fm_20 87 [(0, .inr (some 42)), (2, .inl y2), (3, .inl y3)] [] (st_hC M) (gn_20_87 y2 y3 M) := by
  unfold gn_20_87
  refine x_aload_n dm_20_87 rfl ?_
  refine x_iload_n dm_20_88 rfl ?_
  refine im_callCI mf_23 rfl (tg_23 y2 M) (im_runV (as := [.inl y2]) (rest := []) dm_20_89 mf_23 (Nat.le_of_ble_eq_true rfl) ml_3_67 mi_23 ms_23 mp_23 (Nat.le_of_ble_eq_true rfl) rfl rfl ⟨_, _, rfl⟩) rfl (fun b1 hb1 => ?_)
  refine x_if_ne 103 dm_20_92 rfl (fun c2 => ?_) (fun c2 => ?_)
  · refine x_aload_n dm_20_95 rfl ?_
    refine x_iload_n dm_20_96 rfl ?_
    refine im_callCI mf_23 rfl (tg_23 y3 b1.2) (im_runV (as := [.inl y3]) (rest := []) dm_20_97 mf_23 (Nat.le_of_ble_eq_true rfl) ml_3_67 mi_23 ms_23 mp_23 (Nat.le_of_ble_eq_true rfl) rfl rfl ⟨_, _, rfl⟩) rfl (fun b3 hb3 => ?_)
    refine x_if_eq 107 dm_20_100 rfl (fun c4 => ?_) (fun c4 => ?_)
    · refine x_iconst (0) dm_20_107 (by decide) ?_
      exact x_zretC dm_20_108 rfl (by decide)
    · exact im_lsub [] im_sb_n (tg_20_103 b3.2)
  · exact im_lsub [] im_sb_n (tg_20_103 b1.2)
def gn_20_109 (y3 : Int32) (M : im_M) : Option (Int32 × im_M) :=
  (gn_23 y3 M).bind fun b1 => if b1.1 &&& 1 = b1.1 then some (b1.1, b1.2) else none
set_option maxRecDepth 100000 in
set_option maxHeartbeats 4000000 in
theorem tg_20_109 (y3 : Int32) (M : im_M) : im_Go zC_I 3 fm_20 109 [(0, .inr (some 42)), (3, .inl y3)] [] (st_hC M) (gn_20_109 y3 M) := by
  unfold gn_20_109
  refine x_aload_n dm_20_109 rfl ?_
  refine x_iload_n dm_20_110 rfl ?_
  refine im_callCI mf_23 rfl (tg_23 y3 M) (im_runV (as := [.inl y3]) (rest := []) dm_20_111 mf_23 (Nat.le_of_ble_eq_true rfl) ml_3_67 mi_23 ms_23 mp_23 (Nat.le_of_ble_eq_true rfl) rfl rfl ⟨_, _, rfl⟩) rfl (fun b1 hb1 => ?_)
  refine im_chk _ (fun hz2 => ?_)
  exact x_zretC dm_20_114 rfl hz2
/-- FencedModules$Follower.takesLabel(IIII)Z -/
def gn_20 (x1 : Int32) (x2 : Int32) (x3 : Int32) (x4 : Int32) (M : im_M) : Option (Int32 × im_M) :=
  if x1 = 2 then ((gn_23 x3 M).bind fun b2 => if b2.1 = 0 then (some ((0 : Int32), b2.2)) else (if x4 = 0 then (some ((0 : Int32), b2.2)) else (some ((1 : Int32), b2.2)))) else (if x1 = 3 then (gn_20_87 x2 x3 M) else (if x1 = 4 then (gn_20_87 x2 x3 M) else (if x1 = 5 then (gn_20_87 x2 x3 M) else (if x1 = 6 then (gn_20_109 x3 M) else (if x1 = 7 then (gn_20_109 x3 M) else (if x1 = 8 then (gn_20_109 x3 M) else (if x1 = 9 then (gn_20_109 x3 M) else (if x1 = 10 then (gn_20_87 x2 x3 M) else (if x1 = 11 then (gn_20_87 x2 x3 M) else (if x1 = 12 then (some ((0 : Int32), M)) else (if x1 = 13 then (some ((0 : Int32), M)) else (if x1 = 14 then ((gn_21 x4 M).bind fun b17 => if b17.1 &&& 1 = b17.1 then some (b17.1, b17.2) else none) else (some ((0 : Int32), M))))))))))))))
set_option maxRecDepth 100000 in
set_option maxHeartbeats 4000000 in
theorem tg_20 (x1 : Int32) (x2 : Int32) (x3 : Int32) (x4 : Int32) (M : im_M) : im_Go zC_I 3 fm_20 0 (im_en 0 [.inr (some 42), .inl x1, .inl x2, .inl x3, .inl x4]) [] (st_hC M) (gn_20 x1 x2 x3 x4 M) := by
  unfold gn_20
  refine x_iload_n dm_20_0 rfl ?_
  refine im_test _ (fun c1 => ?_) (fun c1 => ?_)
  · refine x_tabIn 2 68 dm_20_1 c1 (by decide) (by decide) rfl rfl ?_
    refine x_aload_n dm_20_68 rfl ?_
    refine x_iload_n dm_20_69 rfl ?_
    refine im_callCI mf_23 rfl (tg_23 x3 M) (im_runV (as := [.inl x3]) (rest := []) dm_20_70 mf_23 (Nat.le_of_ble_eq_true rfl) ml_3_67 mi_23 ms_23 mp_23 (Nat.le_of_ble_eq_true rfl) rfl rfl ⟨_, _, rfl⟩) rfl (fun b2 hb2 => ?_)
    refine x_if_eq 85 dm_20_73 rfl (fun c3 => ?_) (fun c3 => ?_)
    · refine x_iconst (0) dm_20_85 (by decide) ?_
      exact x_zretC dm_20_86 rfl (by decide)
    · refine x_iload dm_20_76 rfl ?_
      refine x_if_eq 85 dm_20_78 rfl (fun c4 => ?_) (fun c4 => ?_)
      · refine x_iconst (0) dm_20_85 (by decide) ?_
        exact x_zretC dm_20_86 rfl (by decide)
      · refine x_iconst (1) dm_20_81 (by decide) ?_
        refine x_goto 86 dm_20_82 rfl ?_
        exact x_zretC dm_20_86 rfl (by decide)
  refine im_test _ (fun c5 => ?_) (fun c5 => ?_)
  · refine x_tabIn 3 87 dm_20_1 c5 (by decide) (by decide) rfl rfl ?_
    exact im_lsub [(0, .inr (some 42)), (2, .inl x2), (3, .inl x3)] (im_sb_c rfl (im_sb_c rfl (im_sb_c rfl im_sb_n))) (tg_20_87 x2 x3 M)
  refine im_test _ (fun c6 => ?_) (fun c6 => ?_)
  · refine x_tabIn 4 87 dm_20_1 c6 (by decide) (by decide) rfl rfl ?_
    exact im_lsub [(0, .inr (some 42)), (2, .inl x2), (3, .inl x3)] (im_sb_c rfl (im_sb_c rfl (im_sb_c rfl im_sb_n))) (tg_20_87 x2 x3 M)
  refine im_test _ (fun c7 => ?_) (fun c7 => ?_)
  · refine x_tabIn 5 87 dm_20_1 c7 (by decide) (by decide) rfl rfl ?_
    exact im_lsub [(0, .inr (some 42)), (2, .inl x2), (3, .inl x3)] (im_sb_c rfl (im_sb_c rfl (im_sb_c rfl im_sb_n))) (tg_20_87 x2 x3 M)
  refine im_test _ (fun c8 => ?_) (fun c8 => ?_)
  · refine x_tabIn 6 109 dm_20_1 c8 (by decide) (by decide) rfl rfl ?_
    exact im_lsub [(0, .inr (some 42)), (3, .inl x3)] (im_sb_c rfl (im_sb_c rfl im_sb_n)) (tg_20_109 x3 M)
  refine im_test _ (fun c9 => ?_) (fun c9 => ?_)
  · refine x_tabIn 7 109 dm_20_1 c9 (by decide) (by decide) rfl rfl ?_
    exact im_lsub [(0, .inr (some 42)), (3, .inl x3)] (im_sb_c rfl (im_sb_c rfl im_sb_n)) (tg_20_109 x3 M)
  refine im_test _ (fun c10 => ?_) (fun c10 => ?_)
  · refine x_tabIn 8 109 dm_20_1 c10 (by decide) (by decide) rfl rfl ?_
    exact im_lsub [(0, .inr (some 42)), (3, .inl x3)] (im_sb_c rfl (im_sb_c rfl im_sb_n)) (tg_20_109 x3 M)
  refine im_test _ (fun c11 => ?_) (fun c11 => ?_)
  · refine x_tabIn 9 109 dm_20_1 c11 (by decide) (by decide) rfl rfl ?_
    exact im_lsub [(0, .inr (some 42)), (3, .inl x3)] (im_sb_c rfl (im_sb_c rfl im_sb_n)) (tg_20_109 x3 M)
  refine im_test _ (fun c12 => ?_) (fun c12 => ?_)
  · refine x_tabIn 10 87 dm_20_1 c12 (by decide) (by decide) rfl rfl ?_
    exact im_lsub [(0, .inr (some 42)), (2, .inl x2), (3, .inl x3)] (im_sb_c rfl (im_sb_c rfl (im_sb_c rfl im_sb_n))) (tg_20_87 x2 x3 M)
  refine im_test _ (fun c13 => ?_) (fun c13 => ?_)
  · refine x_tabIn 11 87 dm_20_1 c13 (by decide) (by decide) rfl rfl ?_
    exact im_lsub [(0, .inr (some 42)), (2, .inl x2), (3, .inl x3)] (im_sb_c rfl (im_sb_c rfl (im_sb_c rfl im_sb_n))) (tg_20_87 x2 x3 M)
  refine im_test _ (fun c14 => ?_) (fun c14 => ?_)
  · refine x_tabIn 12 122 dm_20_1 c14 (by decide) (by decide) rfl rfl ?_
    refine x_iconst (0) dm_20_122 (by decide) ?_
    exact x_zretC dm_20_123 rfl (by decide)
  refine im_test _ (fun c15 => ?_) (fun c15 => ?_)
  · refine x_tabIn 13 122 dm_20_1 c15 (by decide) (by decide) rfl rfl ?_
    refine x_iconst (0) dm_20_122 (by decide) ?_
    exact x_zretC dm_20_123 rfl (by decide)
  refine im_test _ (fun c16 => ?_) (fun c16 => ?_)
  · refine x_tabIn 14 115 dm_20_1 c16 (by decide) (by decide) rfl rfl ?_
    refine x_aload_n dm_20_115 rfl ?_
    refine x_iload dm_20_116 rfl ?_
    refine im_callCI mf_21 rfl (tg_21 x4 M) (im_runV (as := [.inl x4]) (rest := []) dm_20_118 mf_21 (Nat.le_of_ble_eq_true rfl) ml_3_74 mi_21 ms_21 mp_21 (Nat.le_of_ble_eq_true rfl) rfl rfl ⟨_, _, rfl⟩) rfl (fun b17 hb17 => ?_)
    refine im_chk _ (fun hz18 => ?_)
    exact x_zretC dm_20_121 rfl hz18
  refine x_tabOut 122 dm_20_1 (im_swout (2) 13 (by decide) (by decide) (fun i hi => match i, hi with | 0, _ => c1 | 1, _ => c5 | 2, _ => c6 | 3, _ => c7 | 4, _ => c8 | 5, _ => c9 | 6, _ => c10 | 7, _ => c11 | 8, _ => c12 | 9, _ => c13 | 10, _ => c14 | 11, _ => c15 | 12, _ => c16 | i + 13, hi => absurd hi (by omega))) rfl ?_
  refine x_iconst (0) dm_20_122 (by decide) ?_
  exact x_zretC dm_20_123 rfl (by decide)
def gn_25_221 (k : Nat) (y7 : Int32) (y8 : Int32) (M : im_M) : Option (Int32 × im_M) :=
  let M1 : im_M := im_u M 42 3 y7; some (y8, M1)
set_option maxRecDepth 100000 in
set_option maxHeartbeats 4000000 in
theorem tg_25_221 (k : Nat) (hk : k < 3) (y7 : Int32) (y8 : Int32) (M : im_M) : im_Go zC_I 3 fm_25 221 [(0, .inr (some 42)), (7, .inl y7), (8, .inl y8)] [] (st_hC M) (gn_25_221 k y7 y8 M) := by
  unfold gn_25_221
  refine x_aload_n dm_25_221 rfl ?_
  refine x_iload dm_25_222 rfl ?_
  refine x_putIC dm_25_224 fl_3_36 rfl rfl rfl ?_
  refine x_iload dm_25_227 rfl ?_
  exact x_iretC dm_25_229 rfl
def gn_25_138 (k : Nat) (y3 : Int32) (y4 : Int32) (y5 : Int32) (y6 : Int32) (y7 : Int32) (y8 : Int32) (M : im_M) : Option (Int32 × im_M) :=
  if st_ib y4 21 then (if st_ib y5 21 then ((gn_149 y3 (M 48 (y4).toNatClampNeg) (M 48 (y5).toNatClampNeg) M).bind fun b3 => if b3.1 = 0 then (gn_25_221 k y7 y8 b3.2) else ((gn_66 y6 b3.2).bind fun b5 => gn_25_221 k b5.1 y8 b5.2)) else none) else none
set_option maxRecDepth 100000 in
set_option maxHeartbeats 4000000 in
theorem tg_25_138 (k : Nat) (hk : k < 3) (y3 : Int32) (y4 : Int32) (y5 : Int32) (y6 : Int32) (y7 : Int32) (y8 : Int32) (M : im_M) : im_Go zC_I 3 fm_25 138 [(0, .inr (some 42)), (1, .inr (some 1)), (3, .inl y3), (4, .inl y4), (5, .inl y5), (6, .inl y6), (7, .inl y7), (8, .inl y8)] [] (st_hC M) (gn_25_138 k y3 y4 y5 y6 y7 y8 M) := by
  unfold gn_25_138
  refine x_iload_n dm_25_138 rfl ?_
  refine x_aload_n dm_25_139 rfl ?_
  refine x_getRC dm_25_140 fl_3_20 rfl rfl rfl rfl ?_
  refine x_iload dm_25_143 rfl ?_
  refine im_chk _ (fun hi1 => ?_)
  refine x_ialoadX _ rfl dm_25_145 rfl (mk_in rfl hi1) ?_
  refine x_aload_n dm_25_146 rfl ?_
  refine x_getRC dm_25_147 fl_3_20 rfl rfl rfl rfl ?_
  refine x_iload dm_25_150 rfl ?_
  refine im_chk _ (fun hi2 => ?_)
  refine x_ialoadX _ rfl dm_25_152 rfl (mk_in rfl hi2) ?_
  refine im_callCI mf_149 rfl (tg_149 y3 _ _ M) (im_runS (as := [.inl y3, .inl _, .inl _]) (rest := []) dm_25_153 mf_149 (Nat.le_of_ble_eq_true rfl) ml_3_91 mi_149 mp_149 (Nat.le_of_ble_eq_true rfl)) rfl (fun b3 hb3 => ?_)
  refine x_if_eq 221 dm_25_156 rfl (fun c4 => ?_) (fun c4 => ?_)
  · exact im_lsub [(0, .inr (some 42)), (7, .inl y7), (8, .inl y8)] (im_sb_c rfl (im_sb_c rfl (im_sb_c rfl im_sb_n))) (tg_25_221 k hk y7 y8 b3.2)
  · refine x_aload_n dm_25_159 rfl ?_
    refine x_iload dm_25_160 rfl ?_
    refine im_callCI mf_66 rfl (tg_66 y6 b3.2) (im_runV (as := [.inl y6]) (rest := []) dm_25_162 mf_66 (Nat.le_of_ble_eq_true rfl) ml_3_95 mi_66 ms_66 mp_66 (Nat.le_of_ble_eq_true rfl) rfl rfl ⟨_, _, rfl⟩) rfl (fun b5 hb5 => ?_)
    refine x_istore dm_25_165 (Nat.le_of_ble_eq_true rfl) ?_
    refine x_goto 221 dm_25_167 rfl ?_
    exact im_lsub [(0, .inr (some 42)), (7, .inl b5.1), (8, .inl y8)] (im_sb_c rfl (im_sb_c rfl (im_sb_c rfl im_sb_n))) (tg_25_221 k hk b5.1 y8 b5.2)
/-- FencedModules$Follower.doLine(LFencedModules$Source;LFencedModules$Sandbox;)I -/
def gn_25 (k : Nat) (M : im_M) : Option (Int32 × im_M) :=
  (gn_61 (M 42 3) M).bind fun b1 => (gn_62 (b1.2 42 3) b1.2).bind fun b2 => (gn_63 (b2.2 42 3) b2.2).bind fun b3 => (gn_64 (b3.2 42 3) b3.2).bind fun b4 => let v5 : Int32 := ((b4.2 42 3) + (1 : Int32)); if b1.1 = 8 then (if st_ib b3.1 21 then ((gn_26 (((5 : Int32) + (b4.2 48 (b3.1).toNatClampNeg)) + b4.1) b2.1 b4.2).bind fun b8 => gn_25_221 k v5 (0 : Int32) b8) else none) else (if b1.1 = 9 then (if st_ib b3.1 21 then ((gn_26 b2.1 (((5 : Int32) + (b4.2 48 (b3.1).toNatClampNeg)) + b4.1) b4.2).bind fun b11 => gn_25_221 k v5 (0 : Int32) b11) else none) else (if b1.1 = 10 then (gn_25_138 k b1.1 b2.1 b3.1 b4.1 v5 (0 : Int32) b4.2) else (if b1.1 = 11 then (gn_25_138 k b1.1 b2.1 b3.1 b4.1 v5 (0 : Int32) b4.2) else (if b1.1 = 12 then (gn_25_138 k b1.1 b2.1 b3.1 b4.1 v5 (0 : Int32) b4.2) else (if b1.1 = 13 then (if st_ib b2.1 21 then ((gn_66 (b4.2 49 (b2.1).toNatClampNeg) b4.2).bind fun b17 => gn_25_221 k b17.1 (0 : Int32) b17.2) else none) else (if b1.1 = 14 then ((gn_29 k b4.1 b4.2).bind fun b19 => gn_25_221 k v5 b19.1 b19.2) else (if b1.1 = 15 then (if st_ib b2.1 21 then (let M22 : im_M := im_u b4.2 49 (b2.1).toNatClampNeg b4.1; gn_25_221 k v5 (0 : Int32) M22) else none) else ((gn_28 b1.1 b2.1 b3.1 b4.1 b4.2).bind fun b23 => gn_25_221 k v5 (0 : Int32) b23))))))))
set_option maxRecDepth 100000 in
set_option maxHeartbeats 4000000 in
theorem tg_25 (k : Nat) (hk : k < 3) (M : im_M) : im_Go zC_I 3 fm_25 0 (im_en 0 [.inr (some 42), .inr (some 1), .inr (some (12 + 10 * k))]) [] (st_hC M) (gn_25 k M) := by
  unfold gn_25
  refine x_aload_n dm_25_0 rfl ?_
  refine x_aload_n dm_25_1 rfl ?_
  refine x_getI dm_25_2 fl_3_36 rfl rfl rfl ?_
  refine im_callCI mf_61 rfl (tg_61 _ M) (im_runV (as := [.inl _]) (rest := []) dm_25_5 mf_61 (Nat.le_of_ble_eq_true rfl) ml_3_48 mi_61 ms_61 mp_61 (Nat.le_of_ble_eq_true rfl) rfl rfl ⟨_, _, rfl⟩) rfl (fun b1 hb1 => ?_)
  refine x_istore_n dm_25_8 (Nat.le_of_ble_eq_true rfl) ?_
  refine x_aload_n dm_25_9 rfl ?_
  refine x_aload_n dm_25_10 rfl ?_
  refine x_getI dm_25_11 fl_3_36 rfl rfl rfl ?_
  refine im_callCI mf_62 rfl (tg_62 _ b1.2) (im_runV (as := [.inl _]) (rest := []) dm_25_14 mf_62 (Nat.le_of_ble_eq_true rfl) ml_3_52 mi_62 ms_62 mp_62 (Nat.le_of_ble_eq_true rfl) rfl rfl ⟨_, _, rfl⟩) rfl (fun b2 hb2 => ?_)
  refine x_istore dm_25_17 (Nat.le_of_ble_eq_true rfl) ?_
  refine x_aload_n dm_25_19 rfl ?_
  refine x_aload_n dm_25_20 rfl ?_
  refine x_getI dm_25_21 fl_3_36 rfl rfl rfl ?_
  refine im_callCI mf_63 rfl (tg_63 _ b2.2) (im_runV (as := [.inl _]) (rest := []) dm_25_24 mf_63 (Nat.le_of_ble_eq_true rfl) ml_3_55 mi_63 ms_63 mp_63 (Nat.le_of_ble_eq_true rfl) rfl rfl ⟨_, _, rfl⟩) rfl (fun b3 hb3 => ?_)
  refine x_istore dm_25_27 (Nat.le_of_ble_eq_true rfl) ?_
  refine x_aload_n dm_25_29 rfl ?_
  refine x_aload_n dm_25_30 rfl ?_
  refine x_getI dm_25_31 fl_3_36 rfl rfl rfl ?_
  refine im_callCI mf_64 rfl (tg_64 _ b3.2) (im_runV (as := [.inl _]) (rest := []) dm_25_34 mf_64 (Nat.le_of_ble_eq_true rfl) ml_3_58 mi_64 ms_64 mp_64 (Nat.le_of_ble_eq_true rfl) rfl rfl ⟨_, _, rfl⟩) rfl (fun b4 hb4 => ?_)
  refine x_istore dm_25_37 (Nat.le_of_ble_eq_true rfl) ?_
  refine x_aload_n dm_25_39 rfl ?_
  refine x_getI dm_25_40 fl_3_36 rfl rfl rfl ?_
  refine x_iconst (1) dm_25_43 (by decide) ?_
  refine x_iadd dm_25_44 ?_
  refine x_istore dm_25_45 (Nat.le_of_ble_eq_true rfl) ?_
  refine x_iconst (0) dm_25_47 (by decide) ?_
  refine x_istore dm_25_48 (Nat.le_of_ble_eq_true rfl) ?_
  refine x_iload_n dm_25_50 rfl ?_
  refine im_test _ (fun c6 => ?_) (fun c6 => ?_)
  · refine x_tabIn 8 96 dm_25_51 c6 (by decide) (by decide) rfl rfl ?_
    refine x_aload_n dm_25_96 rfl ?_
    refine x_iconst (5) dm_25_97 (by decide) ?_
    refine x_aload_n dm_25_98 rfl ?_
    refine x_getRC dm_25_99 fl_3_20 rfl rfl rfl rfl ?_
    refine x_iload dm_25_102 rfl ?_
    refine im_chk _ (fun hi7 => ?_)
    refine x_ialoadX _ rfl dm_25_104 rfl (mk_in rfl hi7) ?_
    refine x_iadd dm_25_105 ?_
    refine x_iload dm_25_106 rfl ?_
    refine x_iadd dm_25_108 ?_
    refine x_iload dm_25_109 rfl ?_
    refine im_callCV mf_26 rfl (tg_26 _ b2.1 b4.2) (im_runV (as := [.inl _, .inl b2.1]) (rest := []) dm_25_111 mf_26 (Nat.le_of_ble_eq_true rfl) ml_3_87 mi_26 ms_26 mp_26 (Nat.le_of_ble_eq_true rfl) rfl rfl ⟨_, _, rfl⟩) rfl (fun b8 hb8 => ?_)
    refine x_goto 221 dm_25_114 rfl ?_
    exact im_lsub [(0, .inr (some 42)), (7, .inl _), (8, .inl (0 : Int32))] (im_sb_c rfl (im_sb_c rfl (im_sb_c rfl im_sb_n))) (tg_25_221 k hk _ (0 : Int32) b8)
  refine im_test _ (fun c9 => ?_) (fun c9 => ?_)
  · refine x_tabIn 9 117 dm_25_51 c9 (by decide) (by decide) rfl rfl ?_
    refine x_aload_n dm_25_117 rfl ?_
    refine x_iload dm_25_118 rfl ?_
    refine x_iconst (5) dm_25_120 (by decide) ?_
    refine x_aload_n dm_25_121 rfl ?_
    refine x_getRC dm_25_122 fl_3_20 rfl rfl rfl rfl ?_
    refine x_iload dm_25_125 rfl ?_
    refine im_chk _ (fun hi10 => ?_)
    refine x_ialoadX _ rfl dm_25_127 rfl (mk_in rfl hi10) ?_
    refine x_iadd dm_25_128 ?_
    refine x_iload dm_25_129 rfl ?_
    refine x_iadd dm_25_131 ?_
    refine im_callCV mf_26 rfl (tg_26 b2.1 _ b4.2) (im_runV (as := [.inl b2.1, .inl _]) (rest := []) dm_25_132 mf_26 (Nat.le_of_ble_eq_true rfl) ml_3_87 mi_26 ms_26 mp_26 (Nat.le_of_ble_eq_true rfl) rfl rfl ⟨_, _, rfl⟩) rfl (fun b11 hb11 => ?_)
    refine x_goto 221 dm_25_135 rfl ?_
    exact im_lsub [(0, .inr (some 42)), (7, .inl _), (8, .inl (0 : Int32))] (im_sb_c rfl (im_sb_c rfl (im_sb_c rfl im_sb_n))) (tg_25_221 k hk _ (0 : Int32) b11)
  refine im_test _ (fun c12 => ?_) (fun c12 => ?_)
  · refine x_tabIn 10 138 dm_25_51 c12 (by decide) (by decide) rfl rfl ?_
    exact im_lsub [(0, .inr (some 42)), (1, .inr (some 1)), (3, .inl b1.1), (4, .inl b2.1), (5, .inl b3.1), (6, .inl b4.1), (7, .inl _), (8, .inl (0 : Int32))] (im_sb_c rfl (im_sb_c rfl (im_sb_c rfl (im_sb_c rfl (im_sb_c rfl (im_sb_c rfl (im_sb_c rfl (im_sb_c rfl im_sb_n)))))))) (tg_25_138 k hk b1.1 b2.1 b3.1 b4.1 _ (0 : Int32) b4.2)
  refine im_test _ (fun c13 => ?_) (fun c13 => ?_)
  · refine x_tabIn 11 138 dm_25_51 c13 (by decide) (by decide) rfl rfl ?_
    exact im_lsub [(0, .inr (some 42)), (1, .inr (some 1)), (3, .inl b1.1), (4, .inl b2.1), (5, .inl b3.1), (6, .inl b4.1), (7, .inl _), (8, .inl (0 : Int32))] (im_sb_c rfl (im_sb_c rfl (im_sb_c rfl (im_sb_c rfl (im_sb_c rfl (im_sb_c rfl (im_sb_c rfl (im_sb_c rfl im_sb_n)))))))) (tg_25_138 k hk b1.1 b2.1 b3.1 b4.1 _ (0 : Int32) b4.2)
  refine im_test _ (fun c14 => ?_) (fun c14 => ?_)
  · refine x_tabIn 12 138 dm_25_51 c14 (by decide) (by decide) rfl rfl ?_
    exact im_lsub [(0, .inr (some 42)), (1, .inr (some 1)), (3, .inl b1.1), (4, .inl b2.1), (5, .inl b3.1), (6, .inl b4.1), (7, .inl _), (8, .inl (0 : Int32))] (im_sb_c rfl (im_sb_c rfl (im_sb_c rfl (im_sb_c rfl (im_sb_c rfl (im_sb_c rfl (im_sb_c rfl (im_sb_c rfl im_sb_n)))))))) (tg_25_138 k hk b1.1 b2.1 b3.1 b4.1 _ (0 : Int32) b4.2)
  refine im_test _ (fun c15 => ?_) (fun c15 => ?_)
  · refine x_tabIn 13 170 dm_25_51 c15 (by decide) (by decide) rfl rfl ?_
    refine x_aload_n dm_25_170 rfl ?_
    refine x_aload_n dm_25_171 rfl ?_
    refine x_getRC dm_25_172 fl_3_24 rfl rfl rfl rfl ?_
    refine x_iload dm_25_175 rfl ?_
    refine im_chk _ (fun hi16 => ?_)
    refine x_ialoadX _ rfl dm_25_177 rfl (mk_in rfl hi16) ?_
    refine im_callCI mf_66 rfl (tg_66 _ b4.2) (im_runV (as := [.inl _]) (rest := []) dm_25_178 mf_66 (Nat.le_of_ble_eq_true rfl) ml_3_95 mi_66 ms_66 mp_66 (Nat.le_of_ble_eq_true rfl) rfl rfl ⟨_, _, rfl⟩) rfl (fun b17 hb17 => ?_)
    refine x_istore dm_25_181 (Nat.le_of_ble_eq_true rfl) ?_
    refine x_goto 221 dm_25_183 rfl ?_
    exact im_lsub [(0, .inr (some 42)), (7, .inl b17.1), (8, .inl (0 : Int32))] (im_sb_c rfl (im_sb_c rfl (im_sb_c rfl im_sb_n))) (tg_25_221 k hk b17.1 (0 : Int32) b17.2)
  refine im_test _ (fun c18 => ?_) (fun c18 => ?_)
  · refine x_tabIn 14 186 dm_25_51 c18 (by decide) (by decide) rfl rfl ?_
    refine x_aload_n dm_25_186 rfl ?_
    refine x_aload_n dm_25_187 rfl ?_
    refine x_iload dm_25_188 rfl ?_
    refine im_callCI mf_29 rfl (tg_29 k hk b4.1 b4.2) (im_runV (as := [.inr (some (12 + 10 * k)), .inl b4.1]) (rest := []) dm_25_190 mf_29 (Nat.le_of_ble_eq_true rfl) ml_3_98 mi_29 ms_29 mp_29 (Nat.le_of_ble_eq_true rfl) rfl rfl ⟨_, _, rfl⟩) rfl (fun b19 hb19 => ?_)
    refine x_istore dm_25_193 (Nat.le_of_ble_eq_true rfl) ?_
    refine x_goto 221 dm_25_195 rfl ?_
    exact im_lsub [(0, .inr (some 42)), (7, .inl _), (8, .inl b19.1)] (im_sb_c rfl (im_sb_c rfl (im_sb_c rfl im_sb_n))) (tg_25_221 k hk _ b19.1 b19.2)
  refine im_test _ (fun c20 => ?_) (fun c20 => ?_)
  · refine x_tabIn 15 198 dm_25_51 c20 (by decide) (by decide) rfl rfl ?_
    refine x_aload_n dm_25_198 rfl ?_
    refine x_getRC dm_25_199 fl_3_24 rfl rfl rfl rfl ?_
    refine x_iload dm_25_202 rfl ?_
    refine x_iload dm_25_204 rfl ?_
    refine im_chk _ (fun hi21 => ?_)
    refine x_iastoreC _ rfl dm_25_206 rfl (mk_in rfl hi21) ?_
    refine x_goto 221 dm_25_207 rfl ?_
    exact im_lsub [(0, .inr (some 42)), (7, .inl _), (8, .inl (0 : Int32))] (im_sb_c rfl (im_sb_c rfl (im_sb_c rfl im_sb_n))) (tg_25_221 k hk _ (0 : Int32) _)
  refine x_tabOut 210 dm_25_51 (im_swout (8) 8 (by decide) (by decide) (fun i hi => match i, hi with | 0, _ => c6 | 1, _ => c9 | 2, _ => c12 | 3, _ => c13 | 4, _ => c14 | 5, _ => c15 | 6, _ => c18 | 7, _ => c20 | i + 8, hi => absurd hi (by omega))) rfl ?_
  refine x_aload_n dm_25_210 rfl ?_
  refine x_iload_n dm_25_211 rfl ?_
  refine x_iload dm_25_212 rfl ?_
  refine x_iload dm_25_214 rfl ?_
  refine x_iload dm_25_216 rfl ?_
  refine im_callCV mf_28 rfl (tg_28 b1.1 b2.1 b3.1 b4.1 b4.2) (im_runV (as := [.inl b1.1, .inl b2.1, .inl b3.1, .inl b4.1]) (rest := []) dm_25_218 mf_28 (Nat.le_of_ble_eq_true rfl) ml_3_102 mi_28 ms_28 mp_28 (Nat.le_of_ble_eq_true rfl) rfl rfl ⟨_, _, rfl⟩) rfl (fun b23 hb23 => ?_)
  exact im_lsub [(0, .inr (some 42)), (7, .inl _), (8, .inl (0 : Int32))] (im_sb_c rfl (im_sb_c rfl (im_sb_c rfl im_sb_n))) (tg_25_221 k hk _ (0 : Int32) b23)
def gn_34_47  : Nat → Int32 → Int32 → Nat → im_M → Option (im_M)
  | 0, _, _, _, _ => none
  | n + 1, y2, y4, k3, M =>
    if (16 : Int32) ≤ y4 then ((gn_48 k3 M).bind fun b2 => if (b2 9 2) = y2 then (let M4 : im_M := im_u b2 9 3 (0 : Int32); some M4) else (some b2)) else ((gn_46 y2 M).bind fun b5 => (gn_33 (b5.1 + y4) (0 : Int32) b5.2).bind fun b6 => let v7 : Int32 := (y4 + (1 : Int32)); gn_34_47 n y2 v7 k3 b6)
set_option maxRecDepth 100000 in
set_option maxHeartbeats 4000000 in
theorem tg_34_47  : ∀ (n : Nat) (y2 : Int32) (y4 : Int32) (k3 : Nat) (M : im_M), k3 < 3 → im_Go zC_V 3 fm_34 47 [(0, .inr (some 9)), (2, .inl y2), (3, .inr (some (12 + 10 * k3))), (4, .inl y4)] [] (st_hC M) (gn_34_47  n y2 y4 k3 M)
  | 0, y2, y4, k3, M, hk3 => im_none
  | n + 1, y2, y4, k3, M, hk3 => by
    have ih := tg_34_47  n
    unfold gn_34_47
    refine x_iload dm_34_47 rfl ?_
    refine x_bipush (16) dm_34_49 (by decide) ?_
    refine x_icmp_ge 72 dm_34_51 rfl (fun c1 => ?_) (fun c1 => ?_)
    · refine x_aload_n dm_34_72 rfl ?_
      refine im_callCV mf_48 rfl (tg_48 k3 hk3 M) (im_runV (as := []) (rest := []) dm_34_73 mf_48 (Nat.le_of_ble_eq_true rfl) ml_4_46 mi_48 ms_48 mp_48 (Nat.le_of_ble_eq_true rfl) rfl (kc_S0 hk3) ⟨_, _, rfl⟩) rfl (fun b2 hb2 => ?_)
      refine x_aload_n dm_34_76 rfl ?_
      refine x_getI dm_34_77 fl_4_49 rfl rfl rfl ?_
      refine x_iload_n dm_34_80 rfl ?_
      refine x_icmp_ne 89 dm_34_81 rfl (fun c3 => ?_) (fun c3 => ?_)
      · refine x_aload_n dm_34_84 rfl ?_
        refine x_iconst (0) dm_34_85 (by decide) ?_
        refine x_putIC dm_34_86 fl_4_53 rfl rfl rfl ?_
        exact x_vretC dm_34_89 rfl
      · exact x_vretC dm_34_89 rfl
    · refine x_aload_n dm_34_54 rfl ?_
      refine x_iload_n dm_34_55 rfl ?_
      refine im_callCI mf_46 rfl (tg_46 y2 M) (im_runS (as := [.inl y2]) (rest := [.inr (some 9)]) dm_34_56 mf_46 (Nat.le_of_ble_eq_true rfl) ml_4_43 mi_46 mp_46 (Nat.le_of_ble_eq_true rfl)) rfl (fun b5 hb5 => ?_)
      refine x_iload dm_34_59 rfl ?_
      refine x_iadd dm_34_61 ?_
      refine x_iconst (0) dm_34_62 (by decide) ?_
      refine im_callCV mf_33 rfl (tg_33 _ (0 : Int32) b5.2) (im_runV (as := [.inl _, .inl (0 : Int32)]) (rest := []) dm_34_63 mf_33 (Nat.le_of_ble_eq_true rfl) ml_4_39 mi_33 ms_33 mp_33 (Nat.le_of_ble_eq_true rfl) rfl rfl ⟨_, _, rfl⟩) rfl (fun b6 hb6 => ?_)
      refine x_iinc (1) dm_34_66 rfl (by decide) (Nat.le_of_ble_eq_true rfl) ?_
      refine x_goto 47 dm_34_69 rfl ?_
      exact im_lsub [(0, .inr (some 9)), (2, .inl y2), (3, .inr (some (12 + 10 * k3))), (4, .inl _)] (im_sb_c rfl (im_sb_c rfl (im_sb_c rfl (im_sb_c rfl im_sb_n)))) (ih y2 _ k3 b6 hk3)
def gn_34_14  : Nat → Int32 → Int32 → Nat → im_M → Option (im_M)
  | 0, _, _, _, _ => none
  | n + 1, y2, y4, k3, M =>
    if (32 : Int32) ≤ y4 then (gn_34_47 1000 y2 (0 : Int32) k3 M) else ((gn_47 y2 M).bind fun b2 => (gn_8 y4 b2.2).bind fun b3 => (gn_33 (b2.1 + y4) b3.1 b3.2).bind fun b4 => let v5 : Int32 := (y4 + (1 : Int32)); gn_34_14 n y2 v5 k3 b4)
set_option maxRecDepth 100000 in
set_option maxHeartbeats 4000000 in
theorem tg_34_14  : ∀ (n : Nat) (y2 : Int32) (y4 : Int32) (k3 : Nat) (M : im_M), k3 < 3 → im_Go zC_V 3 fm_34 14 [(0, .inr (some 9)), (1, .inr (some 7)), (2, .inl y2), (3, .inr (some (12 + 10 * k3))), (4, .inl y4)] [] (st_hC M) (gn_34_14  n y2 y4 k3 M)
  | 0, y2, y4, k3, M, hk3 => im_none
  | n + 1, y2, y4, k3, M, hk3 => by
    have ih := tg_34_14  n
    unfold gn_34_14
    refine x_iload dm_34_14 rfl ?_
    refine x_bipush (32) dm_34_16 (by decide) ?_
    refine x_icmp_ge 44 dm_34_18 rfl (fun c1 => ?_) (fun c1 => ?_)
    · refine x_iconst (0) dm_34_44 (by decide) ?_
      refine x_istore dm_34_45 (Nat.le_of_ble_eq_true rfl) ?_
      exact im_lsub [(0, .inr (some 9)), (2, .inl y2), (3, .inr (some (12 + 10 * k3))), (4, .inl (0 : Int32))] (im_sb_c rfl (im_sb_c rfl (im_sb_c rfl (im_sb_c rfl im_sb_n)))) (tg_34_47 1000 y2 (0 : Int32) k3 M hk3)
    · refine x_aload_n dm_34_21 rfl ?_
      refine x_iload_n dm_34_22 rfl ?_
      refine im_callCI mf_47 rfl (tg_47 y2 M) (im_runS (as := [.inl y2]) (rest := [.inr (some 9)]) dm_34_23 mf_47 (Nat.le_of_ble_eq_true rfl) ml_4_30 mi_47 mp_47 (Nat.le_of_ble_eq_true rfl)) rfl (fun b2 hb2 => ?_)
      refine x_iload dm_34_26 rfl ?_
      refine x_iadd dm_34_28 ?_
      refine x_aload_n dm_34_29 rfl ?_
      refine x_iload dm_34_30 rfl ?_
      refine im_callCI mf_8 rfl (tg_8 y4 b2.2) (im_runV (as := [.inl y4]) (rest := [.inl _, .inr (some 9)]) dm_34_32 mf_8 (Nat.le_of_ble_eq_true rfl) ml_4_34 mi_8 ms_8 mp_8 (Nat.le_of_ble_eq_true rfl) rfl rfl ⟨_, _, rfl⟩) rfl (fun b3 hb3 => ?_)
      refine im_callCV mf_33 rfl (tg_33 _ b3.1 b3.2) (im_runV (as := [.inl _, .inl b3.1]) (rest := []) dm_34_35 mf_33 (Nat.le_of_ble_eq_true rfl) ml_4_39 mi_33 ms_33 mp_33 (Nat.le_of_ble_eq_true rfl) rfl rfl ⟨_, _, rfl⟩) rfl (fun b4 hb4 => ?_)
      refine x_iinc (1) dm_34_38 rfl (by decide) (Nat.le_of_ble_eq_true rfl) ?_
      refine x_goto 14 dm_34_41 rfl ?_
      exact im_lsub [(0, .inr (some 9)), (1, .inr (some 7)), (2, .inl y2), (3, .inr (some (12 + 10 * k3))), (4, .inl _)] (im_sb_c rfl (im_sb_c rfl (im_sb_c rfl (im_sb_c rfl (im_sb_c rfl im_sb_n))))) (ih y2 _ k3 b4 hk3)
/-- FencedModules$Machine.install(LFencedModules$Code;I)V -/
def gn_34 (x2 : Int32) (M : im_M) : Option (im_M) :=
  if x2 < 0 then (some M) else (if 3 ≤ x2 then (some M) else (gn_34_14 1000 x2 (0 : Int32) (x2).toNatClampNeg M))
set_option maxRecDepth 100000 in
set_option maxHeartbeats 4000000 in
theorem tg_34 (x2 : Int32) (M : im_M) : im_Go zC_V 3 fm_34 0 (im_en 0 [.inr (some 9), .inr (some 7), .inl x2]) [] (st_hC M) (gn_34 x2 M) := by
  unfold gn_34
  refine x_aload_n dm_34_0 rfl ?_
  refine x_iload_n dm_34_1 rfl ?_
  refine im_test _ (fun c1 => ?_) (fun c1 => ?_)
  · refine im_callK mf_31 rfl (tg_31_n _ (Or.inl c1) _) (im_runV (as := [.inl x2]) (rest := []) dm_34_2 mf_31 (Nat.le_of_ble_eq_true rfl) ml_4_26 mi_31 ms_31 mp_31 (Nat.le_of_ble_eq_true rfl) rfl rfl ⟨_, _, rfl⟩) rfl ?_
    refine x_astore_n dm_34_5 (Nat.le_of_ble_eq_true rfl) ?_
    refine x_aload_n dm_34_6 rfl ?_
    refine x_ifnonnull_n 11 dm_34_7 rfl ?_
    exact x_vretC dm_34_10 rfl
  refine im_test _ (fun c2 => ?_) (fun c2 => ?_)
  · refine im_callK mf_31 rfl (tg_31_n _ (Or.inr c2) _) (im_runV (as := [.inl x2]) (rest := []) dm_34_2 mf_31 (Nat.le_of_ble_eq_true rfl) ml_4_26 mi_31 ms_31 mp_31 (Nat.le_of_ble_eq_true rfl) rfl rfl ⟨_, _, rfl⟩) rfl ?_
    refine x_astore_n dm_34_5 (Nat.le_of_ble_eq_true rfl) ?_
    refine x_aload_n dm_34_6 rfl ?_
    refine x_ifnonnull_n 11 dm_34_7 rfl ?_
    exact x_vretC dm_34_10 rfl
  refine im_callK mf_31 rfl (tg_31_s _ c1 c2 _) (im_runV (as := [.inl x2]) (rest := []) dm_34_2 mf_31 (Nat.le_of_ble_eq_true rfl) ml_4_26 mi_31 ms_31 mp_31 (Nat.le_of_ble_eq_true rfl) rfl rfl ⟨_, _, rfl⟩) rfl ?_
  refine x_astore_n dm_34_5 (Nat.le_of_ble_eq_true rfl) ?_
  refine x_aload_n dm_34_6 rfl ?_
  refine x_ifnonnull_s 11 dm_34_7 rfl ?_
  refine x_iconst (0) dm_34_11 (by decide) ?_
  refine x_istore dm_34_12 (Nat.le_of_ble_eq_true rfl) ?_
  exact im_lsub [(0, .inr (some 9)), (1, .inr (some 7)), (2, .inl x2), (3, .inr (some (12 + 10 * _))), (4, .inl (0 : Int32))] (im_sb_c rfl (im_sb_c rfl (im_sb_c rfl (im_sb_c rfl (im_sb_c rfl im_sb_n))))) (tg_34_14 1000 x2 (0 : Int32) _ M (st_ix3 c1 c2))
/-- FencedModules$Machine.answerCall(LFencedModules$Sandbox;II)V -/
def gn_41 (k : Nat) (x2 : Int32) (x3 : Int32) (M : im_M) : Option (im_M) :=
  (gn_14 (15 + 10 * k) x2 (M (13 + 10 * k) 1) (M (13 + 10 * k) 2) M).bind fun b1 => if x2 = 0 then ((gn_49 k (2 : Int32) x3 b1).bind fun b3 => some b3) else (if x2 = 1 then ((gn_53 k (b1 (13 + 10 * k) 1) b1).bind fun b5 => let M6 : im_M := im_u b5 (13 + 10 * k) 1 (0 : Int32); some M6) else (if x2 = 2 then ((gn_16 (15 + 10 * k) k b1).bind fun b8 => let M9 : im_M := im_u b8.2 (13 + 10 * k) 1 b8.1; some M9) else (if x2 = 3 then ((gn_15 (15 + 10 * k) (b1 (13 + 10 * k) 1) b1).bind fun b11 => let M12 : im_M := im_u b11.2 (13 + 10 * k) 1 b11.1; some M12) else (if x2 = 4 then ((gn_42 k (b1 (13 + 10 * k) 1) (b1 (13 + 10 * k) 2) b1).bind fun b14 => let M15 : im_M := im_u b14.2 (13 + 10 * k) 1 b14.1; some M15) else (if x2 = 5 then ((gn_43 (b1 (13 + 10 * k) 1) (b1 (13 + 10 * k) 2) b1).bind fun b17 => let M18 : im_M := im_u b17.2 (13 + 10 * k) 1 b17.1; some M18) else (if x2 = 6 then ((gn_52 k b1).bind fun b20 => let M21 : im_M := im_u b20.2 (13 + 10 * k) 1 b20.1; some M21) else (some b1)))))))
set_option maxRecDepth 100000 in
set_option maxHeartbeats 4000000 in
theorem tg_41 (k : Nat) (hk : k < 3) (x2 : Int32) (x3 : Int32) (M : im_M) : im_Go zC_V 3 fm_41 0 (im_en 0 [.inr (some 9), .inr (some (12 + 10 * k)), .inl x2, .inl x3]) [] (st_hC M) (gn_41 k x2 x3 M) := by
  unfold gn_41
  refine x_aload_n dm_41_0 rfl ?_
  refine x_getRC dm_41_1 fl_4_96 rfl rfl (kc_S0 hk) (rc_S1 hk) ?_
  refine x_astore dm_41_4 (Nat.le_of_ble_eq_true rfl) ?_
  refine x_aload_n dm_41_6 rfl ?_
  refine x_getRC dm_41_7 fl_4_114 rfl rfl (kc_S0 hk) (rc_S3 hk) ?_
  refine x_iload_n dm_41_10 rfl ?_
  refine x_aload dm_41_11 rfl ?_
  refine x_iconst (1) dm_41_13 (by decide) ?_
  refine x_ialoadX 1 (by decide) dm_41_14 rfl (mk_in (kc_S1 hk) (by decide)) ?_
  refine x_aload dm_41_15 rfl ?_
  refine x_iconst (2) dm_41_17 (by decide) ?_
  refine x_ialoadX 2 (by decide) dm_41_18 rfl (mk_in (kc_S1 hk) (by decide)) ?_
  refine im_callCV mf_14 rfl (tg_14 (15 + 10 * k) (dk_S hk) x2 _ _ M) (im_runV (as := [.inl x2, .inl _, .inl _]) (rest := []) dm_41_19 mf_14 (Nat.le_of_ble_eq_true rfl) ml_4_118 mi_14 ms_14 mp_14 (Nat.le_of_ble_eq_true rfl) rfl (kc_D (dk_S hk)) ⟨_, _, rfl⟩) rfl (fun b1 hb1 => ?_)
  refine x_iload_n dm_41_22 rfl ?_
  refine im_test _ (fun c2 => ?_) (fun c2 => ?_)
  · refine x_tabIn 0 64 dm_41_23 c2 (by decide) (by decide) rfl rfl ?_
    refine x_aload_n dm_41_64 rfl ?_
    refine x_iconst (2) dm_41_65 (by decide) ?_
    refine x_iload_n dm_41_66 rfl ?_
    refine im_callCV mf_49 rfl (tg_49 k hk (2 : Int32) x3 b1) (im_runV (as := [.inl (2 : Int32), .inl x3]) (rest := []) dm_41_67 mf_49 (Nat.le_of_ble_eq_true rfl) ml_4_107 mi_49 ms_49 mp_49 (Nat.le_of_ble_eq_true rfl) rfl (kc_S0 hk) ⟨_, _, rfl⟩) rfl (fun b3 hb3 => ?_)
    refine x_goto 172 dm_41_70 rfl ?_
    exact x_vretC dm_41_172 rfl
  refine im_test _ (fun c4 => ?_) (fun c4 => ?_)
  · refine x_tabIn 1 73 dm_41_23 c4 (by decide) (by decide) rfl rfl ?_
    refine x_aload_n dm_41_73 rfl ?_
    refine x_aload dm_41_74 rfl ?_
    refine x_iconst (1) dm_41_76 (by decide) ?_
    refine x_ialoadX 1 (by decide) dm_41_77 rfl (mk_in (kc_S1 hk) (by decide)) ?_
    refine im_callCV mf_53 rfl (tg_53 k hk _ b1) (im_runV (as := [.inl _]) (rest := []) dm_41_78 mf_53 (Nat.le_of_ble_eq_true rfl) ml_4_124 mi_53 ms_53 mp_53 (Nat.le_of_ble_eq_true rfl) rfl (kc_S0 hk) ⟨_, _, rfl⟩) rfl (fun b5 hb5 => ?_)
    refine x_aload dm_41_81 rfl ?_
    refine x_iconst (1) dm_41_83 (by decide) ?_
    refine x_iconst (0) dm_41_84 (by decide) ?_
    refine x_iastoreC 1 (by decide) dm_41_85 rfl (mk_in (kc_S1 hk) (by decide)) ?_
    refine x_goto 172 dm_41_86 rfl ?_
    exact x_vretC dm_41_172 rfl
  refine im_test _ (fun c7 => ?_) (fun c7 => ?_)
  · refine x_tabIn 2 89 dm_41_23 c7 (by decide) (by decide) rfl rfl ?_
    refine x_aload dm_41_89 rfl ?_
    refine x_iconst (1) dm_41_91 (by decide) ?_
    refine x_aload_n dm_41_92 rfl ?_
    refine x_getRC dm_41_93 fl_4_114 rfl rfl (kc_S0 hk) (rc_S3 hk) ?_
    refine x_aload_n dm_41_96 rfl ?_
    refine im_callCI mf_16 rfl (tg_16 (15 + 10 * k) k (dk_S hk) hk b1) (im_runV (as := [.inr (some (12 + 10 * k))]) (rest := [.inl (1 : Int32), .inr (some (13 + 10 * k))]) dm_41_97 mf_16 (Nat.le_of_ble_eq_true rfl) ml_4_127 mi_16 ms_16 mp_16 (Nat.le_of_ble_eq_true rfl) rfl (kc_D (dk_S hk)) ⟨_, _, rfl⟩) rfl (fun b8 hb8 => ?_)
    refine x_iastoreC 1 (by decide) dm_41_100 rfl (mk_in (kc_S1 hk) (by decide)) ?_
    refine x_goto 172 dm_41_101 rfl ?_
    exact x_vretC dm_41_172 rfl
  refine im_test _ (fun c10 => ?_) (fun c10 => ?_)
  · refine x_tabIn 3 104 dm_41_23 c10 (by decide) (by decide) rfl rfl ?_
    refine x_aload dm_41_104 rfl ?_
    refine x_iconst (1) dm_41_106 (by decide) ?_
    refine x_aload_n dm_41_107 rfl ?_
    refine x_getRC dm_41_108 fl_4_114 rfl rfl (kc_S0 hk) (rc_S3 hk) ?_
    refine x_aload dm_41_111 rfl ?_
    refine x_iconst (1) dm_41_113 (by decide) ?_
    refine x_ialoadX 1 (by decide) dm_41_114 rfl (mk_in (kc_S1 hk) (by decide)) ?_
    refine im_callCI mf_15 rfl (tg_15 (15 + 10 * k) (dk_S hk) _ b1) (im_runV (as := [.inl _]) (rest := [.inl (1 : Int32), .inr (some (13 + 10 * k))]) dm_41_115 mf_15 (Nat.le_of_ble_eq_true rfl) ml_4_131 mi_15 ms_15 mp_15 (Nat.le_of_ble_eq_true rfl) rfl (kc_D (dk_S hk)) ⟨_, _, rfl⟩) rfl (fun b11 hb11 => ?_)
    refine x_iastoreC 1 (by decide) dm_41_118 rfl (mk_in (kc_S1 hk) (by decide)) ?_
    refine x_goto 172 dm_41_119 rfl ?_
    exact x_vretC dm_41_172 rfl
  refine im_test _ (fun c13 => ?_) (fun c13 => ?_)
  · refine x_tabIn 4 122 dm_41_23 c13 (by decide) (by decide) rfl rfl ?_
    refine x_aload dm_41_122 rfl ?_
    refine x_iconst (1) dm_41_124 (by decide) ?_
    refine x_aload_n dm_41_125 rfl ?_
    refine x_aload_n dm_41_126 rfl ?_
    refine x_aload dm_41_127 rfl ?_
    refine x_iconst (1) dm_41_129 (by decide) ?_
    refine x_ialoadX 1 (by decide) dm_41_130 rfl (mk_in (kc_S1 hk) (by decide)) ?_
    refine x_aload dm_41_131 rfl ?_
    refine x_iconst (2) dm_41_133 (by decide) ?_
    refine x_ialoadX 2 (by decide) dm_41_134 rfl (mk_in (kc_S1 hk) (by decide)) ?_
    refine im_callCI mf_42 rfl (tg_42 k hk _ _ b1) (im_runV (as := [.inr (some (12 + 10 * k)), .inl _, .inl _]) (rest := [.inl (1 : Int32), .inr (some (13 + 10 * k))]) dm_41_135 mf_42 (Nat.le_of_ble_eq_true rfl) ml_4_134 mi_42 ms_42 mp_42 (Nat.le_of_ble_eq_true rfl) rfl rfl ⟨_, _, rfl⟩) rfl (fun b14 hb14 => ?_)
    refine x_iastoreC 1 (by decide) dm_41_138 rfl (mk_in (kc_S1 hk) (by decide)) ?_
    refine x_goto 172 dm_41_139 rfl ?_
    exact x_vretC dm_41_172 rfl
  refine im_test _ (fun c16 => ?_) (fun c16 => ?_)
  · refine x_tabIn 5 142 dm_41_23 c16 (by decide) (by decide) rfl rfl ?_
    refine x_aload dm_41_142 rfl ?_
    refine x_iconst (1) dm_41_144 (by decide) ?_
    refine x_aload_n dm_41_145 rfl ?_
    refine x_aload dm_41_146 rfl ?_
    refine x_iconst (1) dm_41_148 (by decide) ?_
    refine x_ialoadX 1 (by decide) dm_41_149 rfl (mk_in (kc_S1 hk) (by decide)) ?_
    refine x_aload dm_41_150 rfl ?_
    refine x_iconst (2) dm_41_152 (by decide) ?_
    refine x_ialoadX 2 (by decide) dm_41_153 rfl (mk_in (kc_S1 hk) (by decide)) ?_
    refine im_callCI mf_43 rfl (tg_43 _ _ b1) (im_runV (as := [.inl _, .inl _]) (rest := [.inl (1 : Int32), .inr (some (13 + 10 * k))]) dm_41_154 mf_43 (Nat.le_of_ble_eq_true rfl) ml_4_138 mi_43 ms_43 mp_43 (Nat.le_of_ble_eq_true rfl) rfl rfl ⟨_, _, rfl⟩) rfl (fun b17 hb17 => ?_)
    refine x_iastoreC 1 (by decide) dm_41_157 rfl (mk_in (kc_S1 hk) (by decide)) ?_
    refine x_goto 172 dm_41_158 rfl ?_
    exact x_vretC dm_41_172 rfl
  refine im_test _ (fun c19 => ?_) (fun c19 => ?_)
  · refine x_tabIn 6 161 dm_41_23 c19 (by decide) (by decide) rfl rfl ?_
    refine x_aload dm_41_161 rfl ?_
    refine x_iconst (1) dm_41_163 (by decide) ?_
    refine x_aload_n dm_41_164 rfl ?_
    refine im_callCI mf_52 rfl (tg_52 k hk b1) (im_runV (as := []) (rest := [.inl (1 : Int32), .inr (some (13 + 10 * k))]) dm_41_165 mf_52 (Nat.le_of_ble_eq_true rfl) ml_4_142 mi_52 ms_52 mp_52 (Nat.le_of_ble_eq_true rfl) rfl (kc_S0 hk) ⟨_, _, rfl⟩) rfl (fun b20 hb20 => ?_)
    refine x_iastoreC 1 (by decide) dm_41_168 rfl (mk_in (kc_S1 hk) (by decide)) ?_
    refine x_goto 172 dm_41_169 rfl ?_
    exact x_vretC dm_41_172 rfl
  refine x_tabOut 172 dm_41_23 (im_swout (0) 7 (by decide) (by decide) (fun i hi => match i, hi with | 0, _ => c2 | 1, _ => c4 | 2, _ => c7 | 3, _ => c10 | 4, _ => c13 | 5, _ => c16 | 6, _ => c19 | i + 7, hi => absurd hi (by omega))) rfl ?_
  exact x_vretC dm_41_172 rfl
def gn_67_2  : Nat → Int32 → im_M → Option (Int32 × im_M)
  | 0, _, _ => none
  | n + 1, y1, M =>
    if (M 1 5) ≤ y1 then ((gn_68 (M 1 5) M).bind fun b2 => if (31 : Int32) < (b2.1 + (1 : Int32)) then (some ((0 : Int32), b2.2)) else (some ((1 : Int32), b2.2))) else ((gn_70 y1 M).bind fun b4 => if b4.1 = 0 then (some ((0 : Int32), b4.2)) else ((gn_71 y1 b4.2).bind fun b6 => if b6.1 = 0 then (some ((0 : Int32), b6.2)) else (let v8 : Int32 := (y1 + (1 : Int32)); gn_67_2 n v8 b6.2)))
set_option maxRecDepth 100000 in
set_option maxHeartbeats 4000000 in
theorem tg_67_2  : ∀ (n : Nat) (y1 : Int32) (M : im_M), im_Go zC_I 3 fm_67 2 [(0, .inr (some 1)), (1, .inl y1)] [] (st_hC M) (gn_67_2  n y1 M)
  | 0, y1, M => im_none
  | n + 1, y1, M => by
    have ih := tg_67_2  n
    unfold gn_67_2
    refine x_iload_n dm_67_2 rfl ?_
    refine x_aload_n dm_67_3 rfl ?_
    refine x_getI dm_67_4 fl_6_31 rfl rfl rfl ?_
    refine x_icmp_ge 34 dm_67_7 rfl (fun c1 => ?_) (fun c1 => ?_)
    · refine x_aload_n dm_67_34 rfl ?_
      refine x_aload_n dm_67_35 rfl ?_
      refine x_getI dm_67_36 fl_6_31 rfl rfl rfl ?_
      refine im_callCI mf_68 rfl (tg_68 _ M) (im_runV (as := [.inl _]) (rest := []) dm_67_39 mf_68 (Nat.le_of_ble_eq_true rfl) ml_6_52 mi_68 ms_68 mp_68 (Nat.le_of_ble_eq_true rfl) rfl rfl ⟨_, _, rfl⟩) rfl (fun b2 hb2 => ?_)
      refine x_iconst (1) dm_67_42 (by decide) ?_
      refine x_iadd dm_67_43 ?_
      refine x_bipush (31) dm_67_44 (by decide) ?_
      refine x_icmp_gt 53 dm_67_46 rfl (fun c3 => ?_) (fun c3 => ?_)
      · refine x_iconst (0) dm_67_53 (by decide) ?_
        exact x_zretC dm_67_54 rfl (by decide)
      · refine x_iconst (1) dm_67_49 (by decide) ?_
        refine x_goto 54 dm_67_50 rfl ?_
        exact x_zretC dm_67_54 rfl (by decide)
    · refine x_aload_n dm_67_10 rfl ?_
      refine x_iload_n dm_67_11 rfl ?_
      refine im_callCI mf_70 rfl (tg_70 y1 M) (im_runV (as := [.inl y1]) (rest := []) dm_67_12 mf_70 (Nat.le_of_ble_eq_true rfl) ml_6_46 mi_70 ms_70 mp_70 (Nat.le_of_ble_eq_true rfl) rfl rfl ⟨_, _, rfl⟩) rfl (fun b4 hb4 => ?_)
      refine x_if_eq 26 dm_67_15 rfl (fun c5 => ?_) (fun c5 => ?_)
      · refine x_iconst (0) dm_67_26 (by decide) ?_
        exact x_zretC dm_67_27 rfl (by decide)
      · refine x_aload_n dm_67_18 rfl ?_
        refine x_iload_n dm_67_19 rfl ?_
        refine im_callCI mf_71 rfl (tg_71 y1 b4.2) (im_runV (as := [.inl y1]) (rest := []) dm_67_20 mf_71 (Nat.le_of_ble_eq_true rfl) ml_6_49 mi_71 ms_71 mp_71 (Nat.le_of_ble_eq_true rfl) rfl rfl ⟨_, _, rfl⟩) rfl (fun b6 hb6 => ?_)
        refine x_if_ne 28 dm_67_23 rfl (fun c7 => ?_) (fun c7 => ?_)
        · refine x_iconst (0) dm_67_26 (by decide) ?_
          exact x_zretC dm_67_27 rfl (by decide)
        · refine x_iinc (1) dm_67_28 rfl (by decide) (Nat.le_of_ble_eq_true rfl) ?_
          refine x_goto 2 dm_67_31 rfl ?_
          exact im_lsub [(0, .inr (some 1)), (1, .inl _)] (im_sb_c rfl (im_sb_c rfl im_sb_n)) (ih _ b6.2)
/-- FencedModules$Source.canBeRewritten()Z -/
def gn_67 (M : im_M) : Option (Int32 × im_M) :=
  gn_67_2 1000 (0 : Int32) M
set_option maxRecDepth 100000 in
set_option maxHeartbeats 4000000 in
theorem tg_67 (M : im_M) : im_Go zC_I 3 fm_67 0 (im_en 0 [.inr (some 1)]) [] (st_hC M) (gn_67 M) := by
  unfold gn_67
  refine x_iconst (0) dm_67_0 (by decide) ?_
  refine x_istore_n dm_67_1 (Nat.le_of_ble_eq_true rfl) ?_
  exact im_lsub [(0, .inr (some 1)), (1, .inl (0 : Int32))] (im_sb_c rfl (im_sb_c rfl im_sb_n)) (tg_67_2 1000 (0 : Int32) M)
/-- FencedModules$Rewriter.distance(LFencedModules$Source;ILFencedModules$Code;)I -/
def gn_137 (x1 : Int32) (M : im_M) : Option (Int32 × im_M) :=
  (gn_136 x1 M).bind fun b1 => (gn_7 b1.2).bind fun b2 => some ((b1.1 - (b2.1 + (1 : Int32))), b2.2)
set_option maxRecDepth 100000 in
set_option maxHeartbeats 4000000 in
theorem tg_137 (x1 : Int32) (M : im_M) : im_Go zC_I 3 fm_137 0 (im_en 0 [.inr (some 1), .inl x1, .inr (some 7)]) [] (st_hC M) (gn_137 x1 M) := by
  unfold gn_137
  refine x_aload_n dm_137_0 rfl ?_
  refine x_iload_n dm_137_1 rfl ?_
  refine im_callCI mf_136 rfl (tg_136 x1 M) (im_runS (as := [.inr (some 1), .inl x1]) (rest := []) dm_137_2 mf_136 (Nat.le_of_ble_eq_true rfl) ml_9_59 mi_136 mp_136 (Nat.le_of_ble_eq_true rfl)) rfl (fun b1 hb1 => ?_)
  refine x_aload_n dm_137_5 rfl ?_
  refine im_callCI mf_7 rfl (tg_7 b1.2) (im_runV (as := []) (rest := [.inl b1.1]) dm_137_6 mf_7 (Nat.le_of_ble_eq_true rfl) ml_9_76 mi_7 ms_7 mp_7 (Nat.le_of_ble_eq_true rfl) rfl rfl ⟨_, _, rfl⟩) rfl (fun b2 hb2 => ?_)
  refine x_iconst (1) dm_137_9 (by decide) ?_
  refine x_iadd dm_137_10 ?_
  refine x_isub dm_137_11 ?_
  exact x_iretC dm_137_12 rfl
def gn_139_2  : Nat → Int32 → Int32 → im_M → Option (Int32 × im_M)
  | 0, _, _, _ => none
  | n + 1, y1, y2, M =>
    (gn_7 M).bind fun b1 => if b1.1 ≤ y2 then (some ((-1 : Int32), b1.2)) else ((gn_140 y2 b1.2).bind fun b3 => if b3.1 = 0 then (some (y2, b3.2)) else ((gn_141 y2 y1 b3.2).bind fun b5 => if b5.1 = 0 then (some (y2, b5.2)) else (let v7 : Int32 := (y2 + (1 : Int32)); gn_139_2 n y1 v7 b5.2)))
set_option maxRecDepth 100000 in
set_option maxHeartbeats 4000000 in
theorem tg_139_2  : ∀ (n : Nat) (y1 : Int32) (y2 : Int32) (M : im_M), im_Go zC_I 3 fm_139 2 [(0, .inr (some 7)), (1, .inl y1), (2, .inl y2)] [] (st_hC M) (gn_139_2  n y1 y2 M)
  | 0, y1, y2, M => im_none
  | n + 1, y1, y2, M => by
    have ih := tg_139_2  n
    unfold gn_139_2
    refine x_iload_n dm_139_2 rfl ?_
    refine x_aload_n dm_139_3 rfl ?_
    refine im_callCI mf_7 rfl (tg_7 M) (im_runV (as := []) (rest := [.inl y2]) dm_139_4 mf_7 (Nat.le_of_ble_eq_true rfl) ml_10_7 mi_7 ms_7 mp_7 (Nat.le_of_ble_eq_true rfl) rfl rfl ⟨_, _, rfl⟩) rfl (fun b1 hb1 => ?_)
    refine x_icmp_ge 35 dm_139_7 rfl (fun c2 => ?_) (fun c2 => ?_)
    · refine x_iconst (-1) dm_139_35 (by decide) ?_
      exact x_iretC dm_139_36 rfl
    · refine x_aload_n dm_139_10 rfl ?_
      refine x_iload_n dm_139_11 rfl ?_
      refine im_callCI mf_140 rfl (tg_140 y2 b1.2) (im_runS (as := [.inr (some 7), .inl y2]) (rest := []) dm_139_12 mf_140 (Nat.le_of_ble_eq_true rfl) ml_10_13 mi_140 mp_140 (Nat.le_of_ble_eq_true rfl)) rfl (fun b3 hb3 => ?_)
      refine x_if_eq 27 dm_139_15 rfl (fun c4 => ?_) (fun c4 => ?_)
      · refine x_iload_n dm_139_27 rfl ?_
        exact x_iretC dm_139_28 rfl
      · refine x_aload_n dm_139_18 rfl ?_
        refine x_iload_n dm_139_19 rfl ?_
        refine x_iload_n dm_139_20 rfl ?_
        refine im_callCI mf_141 rfl (tg_141 y2 y1 b3.2) (im_runS (as := [.inr (some 7), .inl y2, .inl y1]) (rest := []) dm_139_21 mf_141 (Nat.le_of_ble_eq_true rfl) ml_10_19 mi_141 mp_141 (Nat.le_of_ble_eq_true rfl)) rfl (fun b5 hb5 => ?_)
        refine x_if_ne 29 dm_139_24 rfl (fun c6 => ?_) (fun c6 => ?_)
        · refine x_iload_n dm_139_27 rfl ?_
          exact x_iretC dm_139_28 rfl
        · refine x_iinc (1) dm_139_29 rfl (by decide) (Nat.le_of_ble_eq_true rfl) ?_
          refine x_goto 2 dm_139_32 rfl ?_
          exact im_lsub [(0, .inr (some 7)), (1, .inl y1), (2, .inl _)] (im_sb_c rfl (im_sb_c rfl (im_sb_c rfl im_sb_n))) (ih y1 _ b5.2)
/-- FencedModules$Verifier.firstUnsafe(LFencedModules$Code;I)I -/
def gn_139 (x1 : Int32) (M : im_M) : Option (Int32 × im_M) :=
  gn_139_2 1000 x1 (0 : Int32) M
set_option maxRecDepth 100000 in
set_option maxHeartbeats 4000000 in
theorem tg_139 (x1 : Int32) (M : im_M) : im_Go zC_I 3 fm_139 0 (im_en 0 [.inr (some 7), .inl x1]) [] (st_hC M) (gn_139 x1 M) := by
  unfold gn_139
  refine x_iconst (0) dm_139_0 (by decide) ?_
  refine x_istore_n dm_139_1 (Nat.le_of_ble_eq_true rfl) ?_
  exact im_lsub [(0, .inr (some 7)), (1, .inl x1), (2, .inl (0 : Int32))] (im_sb_c rfl (im_sb_c rfl (im_sb_c rfl im_sb_n))) (tg_139_2 1000 x1 (0 : Int32) M)
def gn_19_87 (y4 : Int32) (y5 : Int32) (M : im_M) : Option (Int32 × im_M) :=
  if st_ib y4 21 then ((gn_24 ((M 48 (y4).toNatClampNeg) + y5) M).bind fun b2 => if b2.1 = 0 then (some ((5 : Int32), b2.2)) else (some ((0 : Int32), b2.2))) else none
set_option maxRecDepth 100000 in
set_option maxHeartbeats 4000000 in
theorem tg_19_87 (y4 : Int32) (y5 : Int32) (M : im_M) : im_Go zC_I 4 fm_19 87 [(0, .inr (some 42)), (4, .inl y4), (5, .inl y5)] [] (st_hC M) (gn_19_87 y4 y5 M) := by
  unfold gn_19_87
  refine x_aload_n dm_19_87 rfl ?_
  refine x_getRC dm_19_88 fl_3_20 rfl rfl rfl rfl ?_
  refine x_iload dm_19_91 rfl ?_
  refine im_chk _ (fun hi1 => ?_)
  refine x_ialoadX _ rfl dm_19_93 rfl (mk_in rfl hi1) ?_
  refine x_iload dm_19_94 rfl ?_
  refine x_iadd dm_19_96 ?_
  refine im_callCI mf_24 rfl (tg_24 _ M) (im_runS (as := [.inl _]) (rest := []) dm_19_97 mf_24 (Nat.le_of_ble_eq_true rfl) ml_3_71 mi_24 mp_24 (Nat.le_of_ble_eq_true rfl)) rfl (fun b2 hb2 => ?_)
  refine x_if_ne 105 dm_19_100 rfl (fun c3 => ?_) (fun c3 => ?_)
  · refine x_iconst (5) dm_19_103 (by decide) ?_
    exact x_iretC dm_19_104 rfl
  · refine x_iconst (0) dm_19_105 (by decide) ?_
    exact x_iretC dm_19_106 rfl
def gn_19_75 (y2 : Int32) (y4 : Int32) (y5 : Int32) (M : im_M) : Option (Int32 × im_M) :=
  if y2 = (8 : Int32) then (gn_19_87 y4 y5 M) else (if y2 = (9 : Int32) then (gn_19_87 y4 y5 M) else (some ((0 : Int32), M)))
set_option maxRecDepth 100000 in
set_option maxHeartbeats 4000000 in
theorem tg_19_75 (y2 : Int32) (y4 : Int32) (y5 : Int32) (M : im_M) : im_Go zC_I 4 fm_19 75 [(0, .inr (some 42)), (2, .inl y2), (4, .inl y4), (5, .inl y5)] [] (st_hC M) (gn_19_75 y2 y4 y5 M) := by
  unfold gn_19_75
  refine x_iload_n dm_19_75 rfl ?_
  refine x_bipush (8) dm_19_76 (by decide) ?_
  refine x_icmp_eq 87 dm_19_78 rfl (fun c1 => ?_) (fun c1 => ?_)
  · exact im_lsub [(0, .inr (some 42)), (4, .inl y4), (5, .inl y5)] (im_sb_c rfl (im_sb_c rfl (im_sb_c rfl im_sb_n))) (tg_19_87 y4 y5 M)
  · refine x_iload_n dm_19_81 rfl ?_
    refine x_bipush (9) dm_19_82 (by decide) ?_
    refine x_icmp_ne 105 dm_19_84 rfl (fun c2 => ?_) (fun c2 => ?_)
    · exact im_lsub [(0, .inr (some 42)), (4, .inl y4), (5, .inl y5)] (im_sb_c rfl (im_sb_c rfl (im_sb_c rfl im_sb_n))) (tg_19_87 y4 y5 M)
    · refine x_iconst (0) dm_19_105 (by decide) ?_
      exact x_iretC dm_19_106 rfl
/-- FencedModules$Follower.reasonToEnd(LFencedModules$Source;)I -/
def gn_19 (M : im_M) : Option (Int32 × im_M) :=
  (gn_61 (M 42 3) M).bind fun b1 => (gn_62 (b1.2 42 3) b1.2).bind fun b2 => (gn_63 (b2.2 42 3) b2.2).bind fun b3 => (gn_64 (b3.2 42 3) b3.2).bind fun b4 => if b1.1 = 0 then (some ((2 : Int32), b4.2)) else ((gn_20 b1.1 b2.1 b3.1 b4.1 b4.2).bind fun b6 => if b6.1 = 0 then (if b1.1 = (13 : Int32) then ((gn_23 b2.1 b6.2).bind fun b9 => if b9.1 = 0 then (some ((4 : Int32), b9.2)) else (gn_19_75 b1.1 b3.1 b4.1 b9.2)) else (gn_19_75 b1.1 b3.1 b4.1 b6.2)) else (some ((3 : Int32), b6.2)))
set_option maxRecDepth 100000 in
set_option maxHeartbeats 4000000 in
theorem tg_19 (M : im_M) : im_Go zC_I 4 fm_19 0 (im_en 0 [.inr (some 42), .inr (some 1)]) [] (st_hC M) (gn_19 M) := by
  unfold gn_19
  refine x_aload_n dm_19_0 rfl ?_
  refine x_aload_n dm_19_1 rfl ?_
  refine x_getI dm_19_2 fl_3_36 rfl rfl rfl ?_
  refine im_callCI mf_61 rfl (tg_61 _ M) (im_runV (as := [.inl _]) (rest := []) dm_19_5 mf_61 (Nat.le_of_ble_eq_true rfl) ml_3_48 mi_61 ms_61 mp_61 (Nat.le_of_ble_eq_true rfl) rfl rfl ⟨_, _, rfl⟩) rfl (fun b1 hb1 => ?_)
  refine x_istore_n dm_19_8 (Nat.le_of_ble_eq_true rfl) ?_
  refine x_aload_n dm_19_9 rfl ?_
  refine x_aload_n dm_19_10 rfl ?_
  refine x_getI dm_19_11 fl_3_36 rfl rfl rfl ?_
  refine im_callCI mf_62 rfl (tg_62 _ b1.2) (im_runV (as := [.inl _]) (rest := []) dm_19_14 mf_62 (Nat.le_of_ble_eq_true rfl) ml_3_52 mi_62 ms_62 mp_62 (Nat.le_of_ble_eq_true rfl) rfl rfl ⟨_, _, rfl⟩) rfl (fun b2 hb2 => ?_)
  refine x_istore_n dm_19_17 (Nat.le_of_ble_eq_true rfl) ?_
  refine x_aload_n dm_19_18 rfl ?_
  refine x_aload_n dm_19_19 rfl ?_
  refine x_getI dm_19_20 fl_3_36 rfl rfl rfl ?_
  refine im_callCI mf_63 rfl (tg_63 _ b2.2) (im_runV (as := [.inl _]) (rest := []) dm_19_23 mf_63 (Nat.le_of_ble_eq_true rfl) ml_3_55 mi_63 ms_63 mp_63 (Nat.le_of_ble_eq_true rfl) rfl rfl ⟨_, _, rfl⟩) rfl (fun b3 hb3 => ?_)
  refine x_istore dm_19_26 (Nat.le_of_ble_eq_true rfl) ?_
  refine x_aload_n dm_19_28 rfl ?_
  refine x_aload_n dm_19_29 rfl ?_
  refine x_getI dm_19_30 fl_3_36 rfl rfl rfl ?_
  refine im_callCI mf_64 rfl (tg_64 _ b3.2) (im_runV (as := [.inl _]) (rest := []) dm_19_33 mf_64 (Nat.le_of_ble_eq_true rfl) ml_3_58 mi_64 ms_64 mp_64 (Nat.le_of_ble_eq_true rfl) rfl rfl ⟨_, _, rfl⟩) rfl (fun b4 hb4 => ?_)
  refine x_istore dm_19_36 (Nat.le_of_ble_eq_true rfl) ?_
  refine x_iload_n dm_19_38 rfl ?_
  refine x_if_ne 44 dm_19_39 rfl (fun c5 => ?_) (fun c5 => ?_)
  · refine x_iconst (2) dm_19_42 (by decide) ?_
    exact x_iretC dm_19_43 rfl
  · refine x_aload_n dm_19_44 rfl ?_
    refine x_iload_n dm_19_45 rfl ?_
    refine x_iload_n dm_19_46 rfl ?_
    refine x_iload dm_19_47 rfl ?_
    refine x_iload dm_19_49 rfl ?_
    refine im_callCI mf_20 rfl (tg_20 b1.1 b2.1 b3.1 b4.1 b4.2) (im_runV (as := [.inl b1.1, .inl b2.1, .inl b3.1, .inl b4.1]) (rest := []) dm_19_51 mf_20 (Nat.le_of_ble_eq_true rfl) ml_3_61 mi_20 ms_20 mp_20 (Nat.le_of_ble_eq_true rfl) rfl rfl ⟨_, _, rfl⟩) rfl (fun b6 hb6 => ?_)
    refine x_if_eq 59 dm_19_54 rfl (fun c7 => ?_) (fun c7 => ?_)
    · refine x_iload_n dm_19_59 rfl ?_
      refine x_bipush (13) dm_19_60 (by decide) ?_
      refine x_icmp_ne 75 dm_19_62 rfl (fun c8 => ?_) (fun c8 => ?_)
      · refine x_aload_n dm_19_65 rfl ?_
        refine x_iload_n dm_19_66 rfl ?_
        refine im_callCI mf_23 rfl (tg_23 b2.1 b6.2) (im_runV (as := [.inl b2.1]) (rest := []) dm_19_67 mf_23 (Nat.le_of_ble_eq_true rfl) ml_3_67 mi_23 ms_23 mp_23 (Nat.le_of_ble_eq_true rfl) rfl rfl ⟨_, _, rfl⟩) rfl (fun b9 hb9 => ?_)
        refine x_if_ne 75 dm_19_70 rfl (fun c10 => ?_) (fun c10 => ?_)
        · refine x_iconst (4) dm_19_73 (by decide) ?_
          exact x_iretC dm_19_74 rfl
        · exact im_lsub [(0, .inr (some 42)), (2, .inl b1.1), (4, .inl b3.1), (5, .inl b4.1)] (im_sb_c rfl (im_sb_c rfl (im_sb_c rfl (im_sb_c rfl im_sb_n)))) (tg_19_75 b1.1 b3.1 b4.1 b9.2)
      · exact im_lsub [(0, .inr (some 42)), (2, .inl b1.1), (4, .inl b3.1), (5, .inl b4.1)] (im_sb_c rfl (im_sb_c rfl (im_sb_c rfl (im_sb_c rfl im_sb_n)))) (tg_19_75 b1.1 b3.1 b4.1 b6.2)
    · refine x_iconst (3) dm_19_57 (by decide) ?_
      exact x_iretC dm_19_58 rfl
def gn_40_222 (k : Nat) (y2 : Int32) (M : im_M) : Option (im_M) :=
  (gn_49 k (3 : Int32) y2 M).bind fun b1 => some b1
set_option maxRecDepth 100000 in
set_option maxHeartbeats 4000000 in
theorem tg_40_222 (k : Nat) (hk : k < 3) (y2 : Int32) (M : im_M) : im_Go zC_V 4 fm_40 222 [(1, .inr (some (12 + 10 * k))), (2, .inl y2)] [] (st_hC M) (gn_40_222 k y2 M) := by
  unfold gn_40_222
  refine x_aload_n dm_40_222 rfl ?_
  refine x_iconst (3) dm_40_223 (by decide) ?_
  refine x_iload_n dm_40_224 rfl ?_
  refine im_callCV mf_49 rfl (tg_49 k hk (3 : Int32) y2 M) (im_runV (as := [.inl (3 : Int32), .inl y2]) (rest := []) dm_40_225 mf_49 (Nat.le_of_ble_eq_true rfl) ml_4_107 mi_49 ms_49 mp_49 (Nat.le_of_ble_eq_true rfl) rfl (kc_S0 hk) ⟨_, _, rfl⟩) rfl (fun b1 hb1 => ?_)
  refine x_goto 253 dm_40_228 rfl ?_
  exact x_vretC dm_40_253 rfl
def gn_40_231 (k : Nat) (y4 : Int32) (y5 : Int32) (y6 : Int32) (y7 : Int32) (M : im_M) : Option (im_M) :=
  if st_ib y5 8 then (if st_ib y6 8 then ((gn_148 y4 (M (13 + 10 * k) (y5).toNatClampNeg) (M (13 + 10 * k) (y6).toNatClampNeg) y7 M).bind fun b3 => if st_ib y5 8 then (let M5 : im_M := im_u b3.2 (13 + 10 * k) (y5).toNatClampNeg b3.1; some M5) else none) else none) else none
set_option maxRecDepth 100000 in
set_option maxHeartbeats 4000000 in
theorem tg_40_231 (k : Nat) (hk : k < 3) (y4 : Int32) (y5 : Int32) (y6 : Int32) (y7 : Int32) (M : im_M) : im_Go zC_V 4 fm_40 231 [(4, .inl y4), (5, .inl y5), (6, .inl y6), (7, .inl y7), (8, .inr (some (13 + 10 * k)))] [] (st_hC M) (gn_40_231 k y4 y5 y6 y7 M) := by
  unfold gn_40_231
  refine x_aload dm_40_231 rfl ?_
  refine x_iload dm_40_233 rfl ?_
  refine x_iload dm_40_235 rfl ?_
  refine x_aload dm_40_237 rfl ?_
  refine x_iload dm_40_239 rfl ?_
  refine im_chk _ (fun hi1 => ?_)
  refine x_ialoadX _ rfl dm_40_241 rfl (mk_in (kc_S1 hk) hi1) ?_
  refine x_aload dm_40_242 rfl ?_
  refine x_iload dm_40_244 rfl ?_
  refine im_chk _ (fun hi2 => ?_)
  refine x_ialoadX _ rfl dm_40_246 rfl (mk_in (kc_S1 hk) hi2) ?_
  refine x_iload dm_40_247 rfl ?_
  refine im_callCI mf_148 rfl (tg_148 y4 _ _ y7 M) (im_runS (as := [.inl y4, .inl _, .inl _, .inl y7]) (rest := [.inl y5, .inr (some (13 + 10 * k))]) dm_40_249 mf_148 (Nat.le_of_ble_eq_true rfl) ml_4_110 mi_148 mp_148 (Nat.le_of_ble_eq_true rfl)) rfl (fun b3 hb3 => ?_)
  refine im_chk _ (fun hi4 => ?_)
  refine x_iastoreC _ rfl dm_40_252 rfl (mk_in (kc_S1 hk) hi4) ?_
  exact x_vretC dm_40_253 rfl
def gn_40_168 (k : Nat) (y2 : Int32) (y4 : Int32) (y5 : Int32) (y6 : Int32) (y7 : Int32) (M : im_M) : Option (im_M) :=
  if st_ib y5 8 then (if st_ib y6 8 then ((gn_149 y4 (M (13 + 10 * k) (y5).toNatClampNeg) (M (13 + 10 * k) (y6).toNatClampNeg) M).bind fun b3 => if b3.1 = 0 then (some b3.2) else (let M5 : im_M := im_u b3.2 (12 + 10 * k) 5 ((y2 + (1 : Int32)) + y7); some M5)) else none) else none
set_option maxRecDepth 100000 in
set_option maxHeartbeats 4000000 in
theorem tg_40_168 (k : Nat) (hk : k < 3) (y2 : Int32) (y4 : Int32) (y5 : Int32) (y6 : Int32) (y7 : Int32) (M : im_M) : im_Go zC_V 4 fm_40 168 [(1, .inr (some (12 + 10 * k))), (2, .inl y2), (4, .inl y4), (5, .inl y5), (6, .inl y6), (7, .inl y7), (8, .inr (some (13 + 10 * k)))] [] (st_hC M) (gn_40_168 k y2 y4 y5 y6 y7 M) := by
  unfold gn_40_168
  refine x_iload dm_40_168 rfl ?_
  refine x_aload dm_40_170 rfl ?_
  refine x_iload dm_40_172 rfl ?_
  refine im_chk _ (fun hi1 => ?_)
  refine x_ialoadX _ rfl dm_40_174 rfl (mk_in (kc_S1 hk) hi1) ?_
  refine x_aload dm_40_175 rfl ?_
  refine x_iload dm_40_177 rfl ?_
  refine im_chk _ (fun hi2 => ?_)
  refine x_ialoadX _ rfl dm_40_179 rfl (mk_in (kc_S1 hk) hi2) ?_
  refine im_callCI mf_149 rfl (tg_149 y4 _ _ M) (im_runS (as := [.inl y4, .inl _, .inl _]) (rest := []) dm_40_180 mf_149 (Nat.le_of_ble_eq_true rfl) ml_4_99 mi_149 mp_149 (Nat.le_of_ble_eq_true rfl)) rfl (fun b3 hb3 => ?_)
  refine x_if_eq 253 dm_40_183 rfl (fun c4 => ?_) (fun c4 => ?_)
  · exact x_vretC dm_40_253 rfl
  · refine x_aload_n dm_40_186 rfl ?_
    refine x_iload_n dm_40_187 rfl ?_
    refine x_iconst (1) dm_40_188 (by decide) ?_
    refine x_iadd dm_40_189 ?_
    refine x_iload dm_40_190 rfl ?_
    refine x_iadd dm_40_192 ?_
    refine x_putIC dm_40_193 fl_4_76 rfl rfl (kc_S0 hk) ?_
    refine x_goto 253 dm_40_196 rfl ?_
    exact x_vretC dm_40_253 rfl
/-- FencedModules$Machine.execute(LFencedModules$Sandbox;)V -/
def gn_40 (k : Nat) (M : im_M) : Option (im_M) :=
  let v1 : Int32 := (M (12 + 10 * k) 5); (gn_32 v1 M).bind fun b2 => (gn_143 b2.1 b2.2).bind fun b3 => (gn_144 b2.1 b3.2).bind fun b4 => (gn_145 b2.1 b4.2).bind fun b5 => (gn_146 b2.1 b5.2).bind fun b6 => let M7 : im_M := im_u b6.2 (12 + 10 * k) 5 (v1 + (1 : Int32)); if b3.1 = 0 then (gn_40_222 k v1 M7) else (if b3.1 = 1 then (gn_40_231 k b3.1 b4.1 b5.1 b6.1 M7) else (if b3.1 = 2 then (gn_40_231 k b3.1 b4.1 b5.1 b6.1 M7) else (if b3.1 = 3 then (gn_40_231 k b3.1 b4.1 b5.1 b6.1 M7) else (if b3.1 = 4 then (gn_40_231 k b3.1 b4.1 b5.1 b6.1 M7) else (if b3.1 = 5 then (gn_40_231 k b3.1 b4.1 b5.1 b6.1 M7) else (if b3.1 = 6 then (gn_40_231 k b3.1 b4.1 b5.1 b6.1 M7) else (if b3.1 = 7 then (gn_40_231 k b3.1 b4.1 b5.1 b6.1 M7) else (if b3.1 = 8 then (if st_ib b5.1 8 then ((gn_32 ((M7 (13 + 10 * k) (b5.1).toNatClampNeg) + b6.1) M7).bind fun b18 => if st_ib b4.1 8 then (let M20 : im_M := im_u b18.2 (13 + 10 * k) (b4.1).toNatClampNeg b18.1; some M20) else none) else none) else (if b3.1 = 9 then (if st_ib b5.1 8 then (if st_ib b4.1 8 then ((gn_33 ((M7 (13 + 10 * k) (b5.1).toNatClampNeg) + b6.1) (M7 (13 + 10 * k) (b4.1).toNatClampNeg) M7).bind fun b24 => some b24) else none) else none) else (if b3.1 = 10 then (gn_40_168 k v1 b3.1 b4.1 b5.1 b6.1 M7) else (if b3.1 = 11 then (gn_40_168 k v1 b3.1 b4.1 b5.1 b6.1 M7) else (if b3.1 = 12 then (gn_40_168 k v1 b3.1 b4.1 b5.1 b6.1 M7) else (if b3.1 = 13 then (if st_ib b4.1 8 then (let M30 : im_M := im_u M7 (12 + 10 * k) 5 (M7 (13 + 10 * k) (b4.1).toNatClampNeg); some M30) else none) else (if b3.1 = 14 then ((gn_41 k b6.1 v1 M7).bind fun b32 => some b32) else (if b3.1 = 15 then (gn_40_222 k v1 M7) else (gn_40_231 k b3.1 b4.1 b5.1 b6.1 M7))))))))))))))))
set_option maxRecDepth 100000 in
set_option maxHeartbeats 4000000 in
theorem tg_40 (k : Nat) (hk : k < 3) (M : im_M) : im_Go zC_V 4 fm_40 0 (im_en 0 [.inr (some 9), .inr (some (12 + 10 * k))]) [] (st_hC M) (gn_40 k M) := by
  unfold gn_40
  refine x_aload_n dm_40_0 rfl ?_
  refine x_getI dm_40_1 fl_4_76 rfl rfl (kc_S0 hk) ?_
  refine x_istore_n dm_40_4 (Nat.le_of_ble_eq_true rfl) ?_
  refine x_aload_n dm_40_5 rfl ?_
  refine x_iload_n dm_40_6 rfl ?_
  refine im_callCI mf_32 rfl (tg_32 _ M) (im_runV (as := [.inl _]) (rest := []) dm_40_7 mf_32 (Nat.le_of_ble_eq_true rfl) ml_4_79 mi_32 ms_32 mp_32 (Nat.le_of_ble_eq_true rfl) rfl rfl ⟨_, _, rfl⟩) rfl (fun b2 hb2 => ?_)
  refine x_istore_n dm_40_10 (Nat.le_of_ble_eq_true rfl) ?_
  refine x_iload_n dm_40_11 rfl ?_
  refine im_callCI mf_143 rfl (tg_143 b2.1 b2.2) (im_runS (as := [.inl b2.1]) (rest := []) dm_40_12 mf_143 (Nat.le_of_ble_eq_true rfl) ml_4_82 mi_143 mp_143 (Nat.le_of_ble_eq_true rfl)) rfl (fun b3 hb3 => ?_)
  refine x_istore dm_40_15 (Nat.le_of_ble_eq_true rfl) ?_
  refine x_iload_n dm_40_17 rfl ?_
  refine im_callCI mf_144 rfl (tg_144 b2.1 b3.2) (im_runS (as := [.inl b2.1]) (rest := []) dm_40_18 mf_144 (Nat.le_of_ble_eq_true rfl) ml_4_87 mi_144 mp_144 (Nat.le_of_ble_eq_true rfl)) rfl (fun b4 hb4 => ?_)
  refine x_istore dm_40_21 (Nat.le_of_ble_eq_true rfl) ?_
  refine x_iload_n dm_40_23 rfl ?_
  refine im_callCI mf_145 rfl (tg_145 b2.1 b4.2) (im_runS (as := [.inl b2.1]) (rest := []) dm_40_24 mf_145 (Nat.le_of_ble_eq_true rfl) ml_4_90 mi_145 mp_145 (Nat.le_of_ble_eq_true rfl)) rfl (fun b5 hb5 => ?_)
  refine x_istore dm_40_27 (Nat.le_of_ble_eq_true rfl) ?_
  refine x_iload_n dm_40_29 rfl ?_
  refine im_callCI mf_146 rfl (tg_146 b2.1 b5.2) (im_runS (as := [.inl b2.1]) (rest := []) dm_40_30 mf_146 (Nat.le_of_ble_eq_true rfl) ml_4_93 mi_146 mp_146 (Nat.le_of_ble_eq_true rfl)) rfl (fun b6 hb6 => ?_)
  refine x_istore dm_40_33 (Nat.le_of_ble_eq_true rfl) ?_
  refine x_aload_n dm_40_35 rfl ?_
  refine x_getRC dm_40_36 fl_4_96 rfl rfl (kc_S0 hk) (rc_S1 hk) ?_
  refine x_astore dm_40_39 (Nat.le_of_ble_eq_true rfl) ?_
  refine x_aload_n dm_40_41 rfl ?_
  refine x_iload_n dm_40_42 rfl ?_
  refine x_iconst (1) dm_40_43 (by decide) ?_
  refine x_iadd dm_40_44 ?_
  refine x_putIC dm_40_45 fl_4_76 rfl rfl (kc_S0 hk) ?_
  refine x_iload dm_40_48 rfl ?_
  refine im_test _ (fun c8 => ?_) (fun c8 => ?_)
  · refine x_tabIn 0 222 dm_40_50 c8 (by decide) (by decide) rfl rfl ?_
    exact im_lsub [(1, .inr (some (12 + 10 * k))), (2, .inl _)] (im_sb_c rfl (im_sb_c rfl im_sb_n)) (tg_40_222 k hk _ _)
  refine im_test _ (fun c9 => ?_) (fun c9 => ?_)
  · refine x_tabIn 1 231 dm_40_50 c9 (by decide) (by decide) rfl rfl ?_
    exact im_lsub [(4, .inl b3.1), (5, .inl b4.1), (6, .inl b5.1), (7, .inl b6.1), (8, .inr (some (13 + 10 * k)))] (im_sb_c rfl (im_sb_c rfl (im_sb_c rfl (im_sb_c rfl (im_sb_c rfl im_sb_n))))) (tg_40_231 k hk b3.1 b4.1 b5.1 b6.1 _)
  refine im_test _ (fun c10 => ?_) (fun c10 => ?_)
  · refine x_tabIn 2 231 dm_40_50 c10 (by decide) (by decide) rfl rfl ?_
    exact im_lsub [(4, .inl b3.1), (5, .inl b4.1), (6, .inl b5.1), (7, .inl b6.1), (8, .inr (some (13 + 10 * k)))] (im_sb_c rfl (im_sb_c rfl (im_sb_c rfl (im_sb_c rfl (im_sb_c rfl im_sb_n))))) (tg_40_231 k hk b3.1 b4.1 b5.1 b6.1 _)
  refine im_test _ (fun c11 => ?_) (fun c11 => ?_)
  · refine x_tabIn 3 231 dm_40_50 c11 (by decide) (by decide) rfl rfl ?_
    exact im_lsub [(4, .inl b3.1), (5, .inl b4.1), (6, .inl b5.1), (7, .inl b6.1), (8, .inr (some (13 + 10 * k)))] (im_sb_c rfl (im_sb_c rfl (im_sb_c rfl (im_sb_c rfl (im_sb_c rfl im_sb_n))))) (tg_40_231 k hk b3.1 b4.1 b5.1 b6.1 _)
  refine im_test _ (fun c12 => ?_) (fun c12 => ?_)
  · refine x_tabIn 4 231 dm_40_50 c12 (by decide) (by decide) rfl rfl ?_
    exact im_lsub [(4, .inl b3.1), (5, .inl b4.1), (6, .inl b5.1), (7, .inl b6.1), (8, .inr (some (13 + 10 * k)))] (im_sb_c rfl (im_sb_c rfl (im_sb_c rfl (im_sb_c rfl (im_sb_c rfl im_sb_n))))) (tg_40_231 k hk b3.1 b4.1 b5.1 b6.1 _)
  refine im_test _ (fun c13 => ?_) (fun c13 => ?_)
  · refine x_tabIn 5 231 dm_40_50 c13 (by decide) (by decide) rfl rfl ?_
    exact im_lsub [(4, .inl b3.1), (5, .inl b4.1), (6, .inl b5.1), (7, .inl b6.1), (8, .inr (some (13 + 10 * k)))] (im_sb_c rfl (im_sb_c rfl (im_sb_c rfl (im_sb_c rfl (im_sb_c rfl im_sb_n))))) (tg_40_231 k hk b3.1 b4.1 b5.1 b6.1 _)
  refine im_test _ (fun c14 => ?_) (fun c14 => ?_)
  · refine x_tabIn 6 231 dm_40_50 c14 (by decide) (by decide) rfl rfl ?_
    exact im_lsub [(4, .inl b3.1), (5, .inl b4.1), (6, .inl b5.1), (7, .inl b6.1), (8, .inr (some (13 + 10 * k)))] (im_sb_c rfl (im_sb_c rfl (im_sb_c rfl (im_sb_c rfl (im_sb_c rfl im_sb_n))))) (tg_40_231 k hk b3.1 b4.1 b5.1 b6.1 _)
  refine im_test _ (fun c15 => ?_) (fun c15 => ?_)
  · refine x_tabIn 7 231 dm_40_50 c15 (by decide) (by decide) rfl rfl ?_
    exact im_lsub [(4, .inl b3.1), (5, .inl b4.1), (6, .inl b5.1), (7, .inl b6.1), (8, .inr (some (13 + 10 * k)))] (im_sb_c rfl (im_sb_c rfl (im_sb_c rfl (im_sb_c rfl (im_sb_c rfl im_sb_n))))) (tg_40_231 k hk b3.1 b4.1 b5.1 b6.1 _)
  refine im_test _ (fun c16 => ?_) (fun c16 => ?_)
  · refine x_tabIn 8 128 dm_40_50 c16 (by decide) (by decide) rfl rfl ?_
    refine x_aload dm_40_128 rfl ?_
    refine x_iload dm_40_130 rfl ?_
    refine x_aload_n dm_40_132 rfl ?_
    refine x_aload dm_40_133 rfl ?_
    refine x_iload dm_40_135 rfl ?_
    refine im_chk _ (fun hi17 => ?_)
    refine x_ialoadX _ rfl dm_40_137 rfl (mk_in (kc_S1 hk) hi17) ?_
    refine x_iload dm_40_138 rfl ?_
    refine x_iadd dm_40_140 ?_
    refine im_callCI mf_32 rfl (tg_32 _ _) (im_runV (as := [.inl _]) (rest := [.inl b4.1, .inr (some (13 + 10 * k))]) dm_40_141 mf_32 (Nat.le_of_ble_eq_true rfl) ml_4_79 mi_32 ms_32 mp_32 (Nat.le_of_ble_eq_true rfl) rfl rfl ⟨_, _, rfl⟩) rfl (fun b18 hb18 => ?_)
    refine im_chk _ (fun hi19 => ?_)
    refine x_iastoreC _ rfl dm_40_144 rfl (mk_in (kc_S1 hk) hi19) ?_
    refine x_goto 253 dm_40_145 rfl ?_
    exact x_vretC dm_40_253 rfl
  refine im_test _ (fun c21 => ?_) (fun c21 => ?_)
  · refine x_tabIn 9 148 dm_40_50 c21 (by decide) (by decide) rfl rfl ?_
    refine x_aload_n dm_40_148 rfl ?_
    refine x_aload dm_40_149 rfl ?_
    refine x_iload dm_40_151 rfl ?_
    refine im_chk _ (fun hi22 => ?_)
    refine x_ialoadX _ rfl dm_40_153 rfl (mk_in (kc_S1 hk) hi22) ?_
    refine x_iload dm_40_154 rfl ?_
    refine x_iadd dm_40_156 ?_
    refine x_aload dm_40_157 rfl ?_
    refine x_iload dm_40_159 rfl ?_
    refine im_chk _ (fun hi23 => ?_)
    refine x_ialoadX _ rfl dm_40_161 rfl (mk_in (kc_S1 hk) hi23) ?_
    refine im_callCV mf_33 rfl (tg_33 _ _ _) (im_runV (as := [.inl _, .inl _]) (rest := []) dm_40_162 mf_33 (Nat.le_of_ble_eq_true rfl) ml_4_39 mi_33 ms_33 mp_33 (Nat.le_of_ble_eq_true rfl) rfl rfl ⟨_, _, rfl⟩) rfl (fun b24 hb24 => ?_)
    refine x_goto 253 dm_40_165 rfl ?_
    exact x_vretC dm_40_253 rfl
  refine im_test _ (fun c25 => ?_) (fun c25 => ?_)
  · refine x_tabIn 10 168 dm_40_50 c25 (by decide) (by decide) rfl rfl ?_
    exact im_lsub [(1, .inr (some (12 + 10 * k))), (2, .inl _), (4, .inl b3.1), (5, .inl b4.1), (6, .inl b5.1), (7, .inl b6.1), (8, .inr (some (13 + 10 * k)))] (im_sb_c rfl (im_sb_c rfl (im_sb_c rfl (im_sb_c rfl (im_sb_c rfl (im_sb_c rfl (im_sb_c rfl im_sb_n))))))) (tg_40_168 k hk _ b3.1 b4.1 b5.1 b6.1 _)
  refine im_test _ (fun c26 => ?_) (fun c26 => ?_)
  · refine x_tabIn 11 168 dm_40_50 c26 (by decide) (by decide) rfl rfl ?_
    exact im_lsub [(1, .inr (some (12 + 10 * k))), (2, .inl _), (4, .inl b3.1), (5, .inl b4.1), (6, .inl b5.1), (7, .inl b6.1), (8, .inr (some (13 + 10 * k)))] (im_sb_c rfl (im_sb_c rfl (im_sb_c rfl (im_sb_c rfl (im_sb_c rfl (im_sb_c rfl (im_sb_c rfl im_sb_n))))))) (tg_40_168 k hk _ b3.1 b4.1 b5.1 b6.1 _)
  refine im_test _ (fun c27 => ?_) (fun c27 => ?_)
  · refine x_tabIn 12 168 dm_40_50 c27 (by decide) (by decide) rfl rfl ?_
    exact im_lsub [(1, .inr (some (12 + 10 * k))), (2, .inl _), (4, .inl b3.1), (5, .inl b4.1), (6, .inl b5.1), (7, .inl b6.1), (8, .inr (some (13 + 10 * k)))] (im_sb_c rfl (im_sb_c rfl (im_sb_c rfl (im_sb_c rfl (im_sb_c rfl (im_sb_c rfl (im_sb_c rfl im_sb_n))))))) (tg_40_168 k hk _ b3.1 b4.1 b5.1 b6.1 _)
  refine im_test _ (fun c28 => ?_) (fun c28 => ?_)
  · refine x_tabIn 13 199 dm_40_50 c28 (by decide) (by decide) rfl rfl ?_
    refine x_aload_n dm_40_199 rfl ?_
    refine x_aload dm_40_200 rfl ?_
    refine x_iload dm_40_202 rfl ?_
    refine im_chk _ (fun hi29 => ?_)
    refine x_ialoadX _ rfl dm_40_204 rfl (mk_in (kc_S1 hk) hi29) ?_
    refine x_putIC dm_40_205 fl_4_76 rfl rfl (kc_S0 hk) ?_
    refine x_goto 253 dm_40_208 rfl ?_
    exact x_vretC dm_40_253 rfl
  refine im_test _ (fun c31 => ?_) (fun c31 => ?_)
  · refine x_tabIn 14 211 dm_40_50 c31 (by decide) (by decide) rfl rfl ?_
    refine x_aload_n dm_40_211 rfl ?_
    refine x_aload_n dm_40_212 rfl ?_
    refine x_iload dm_40_213 rfl ?_
    refine x_iload_n dm_40_215 rfl ?_
    refine im_callCV mf_41 rfl (tg_41 k hk b6.1 _ _) (im_runV (as := [.inr (some (12 + 10 * k)), .inl b6.1, .inl _]) (rest := []) dm_40_216 mf_41 (Nat.le_of_ble_eq_true rfl) ml_4_103 mi_41 ms_41 mp_41 (Nat.le_of_ble_eq_true rfl) rfl rfl ⟨_, _, rfl⟩) rfl (fun b32 hb32 => ?_)
    refine x_goto 253 dm_40_219 rfl ?_
    exact x_vretC dm_40_253 rfl
  refine im_test _ (fun c33 => ?_) (fun c33 => ?_)
  · refine x_tabIn 15 222 dm_40_50 c33 (by decide) (by decide) rfl rfl ?_
    exact im_lsub [(1, .inr (some (12 + 10 * k))), (2, .inl _)] (im_sb_c rfl (im_sb_c rfl im_sb_n)) (tg_40_222 k hk _ _)
  refine x_tabOut 231 dm_40_50 (im_swout (0) 16 (by decide) (by decide) (fun i hi => match i, hi with | 0, _ => c8 | 1, _ => c9 | 2, _ => c10 | 3, _ => c11 | 4, _ => c12 | 5, _ => c13 | 6, _ => c14 | 7, _ => c15 | 8, _ => c16 | 9, _ => c21 | 10, _ => c25 | 11, _ => c26 | 12, _ => c27 | 13, _ => c28 | 14, _ => c31 | 15, _ => c33 | i + 16, hi => absurd hi (by omega))) rfl ?_
  exact im_lsub [(4, .inl b3.1), (5, .inl b4.1), (6, .inl b5.1), (7, .inl b6.1), (8, .inr (some (13 + 10 * k)))] (im_sb_c rfl (im_sb_c rfl (im_sb_c rfl (im_sb_c rfl (im_sb_c rfl im_sb_n))))) (tg_40_231 k hk b3.1 b4.1 b5.1 b6.1 _)
