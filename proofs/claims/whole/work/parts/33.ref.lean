def fn_109_14 (j : Nat) : Nat → Int32 → Int32 → im_H → Option (Int32 × im_H)
  | 0, _, _, _ => none
  | n + 1, y1, y2, h =>
    if h.2.1 j = (0, 8) then (if (im_gI h j 23) ≤ y2 then (some ((-1 : Int32), h)) else ((fn_108 j y2 y1 h).bind fun b3 => if b3.1 = 0 then (some (y2, b3.2)) else (let v5 : Int32 := (y2 + (1 : Int32)); fn_109_14 j n y1 v5 b3.2))) else none
set_option maxRecDepth 100000 in
set_option maxHeartbeats 4000000 in
theorem tn_109_14 (j : Nat) : ∀ (n : Nat) (y1 : Int32) (y2 : Int32) (h : im_H), im_Go im_zI 4 fm_109 14 [(0, .inr (some j)), (1, .inl y1), (2, .inl y2)] [] h (fn_109_14 j n y1 y2 h)
  | 0, y1, y2, h => im_none
  | n + 1, y1, y2, h => by
    have ih := tn_109_14 j n
    unfold fn_109_14
    refine x_iload_n dm_109_14 rfl ?_
    refine x_aload_n dm_109_15 rfl ?_
    refine im_chk _ (fun hk1 => ?_)
    refine x_getI dm_109_16 fl_8_93 rfl rfl hk1 ?_
    refine x_icmp_ge 39 dm_109_19 rfl (fun c2 => ?_) (fun c2 => ?_)
    · refine x_iconst (-1) dm_109_39 (by decide) ?_
      exact x_ireturn dm_109_40 rfl
    · refine x_aload_n dm_109_22 rfl ?_
      refine x_iload_n dm_109_23 rfl ?_
      refine x_iload_n dm_109_24 rfl ?_
      refine im_callI mf_108 rfl (tn_108 j y2 y1 h) (im_runV (as := [.inl y2, .inl y1]) (rest := []) dm_109_25 mf_108 (Nat.le_of_ble_eq_true rfl) ml_8_131 mi_108 ms_108 mp_108 (Nat.le_of_ble_eq_true rfl) rfl hk1 ⟨_, _, rfl⟩) rfl (fun b3 hb3 => ?_)
      refine x_if_ne 33 dm_109_28 rfl (fun c4 => ?_) (fun c4 => ?_)
      · refine x_iload_n dm_109_31 rfl ?_
        exact x_ireturn dm_109_32 rfl
      · refine x_iinc (1) dm_109_33 rfl (by decide) (Nat.le_of_ble_eq_true rfl) ?_
        refine x_goto 14 dm_109_36 rfl ?_
        exact im_lsub [(0, .inr (some j)), (1, .inl y1), (2, .inl _)] (im_sb_c rfl (im_sb_c rfl (im_sb_c rfl im_sb_n))) (ih y1 _ b3.2)
/-- FencedModulesModel.verify(I)I -/
def fn_109 (j : Nat) (x1 : Int32) (h : im_H) : Option (Int32 × im_H) :=
  (fn_92 x1 (0 : Int32) (2 : Int32) h).bind fun b1 => if b1.1 = 0 then (some ((-2 : Int32), b1.2)) else (fn_109_14 j 1000 x1 (0 : Int32) b1.2)
set_option maxRecDepth 100000 in
set_option maxHeartbeats 4000000 in
theorem tn_109 (j : Nat) (x1 : Int32) (h : im_H) : im_Go im_zI 4 fm_109 0 (im_en 0 [.inr (some j), .inl x1]) [] h (fn_109 j x1 h) := by
  unfold fn_109
  refine x_iload_n dm_109_0 rfl ?_
  refine x_iconst (0) dm_109_1 (by decide) ?_
  refine x_iconst (2) dm_109_2 (by decide) ?_
  refine im_callI mf_92 rfl (tn_92 x1 (0 : Int32) (2 : Int32) h) (im_runS (as := [.inl x1, .inl (0 : Int32), .inl (2 : Int32)]) (rest := []) dm_109_3 mf_92 (Nat.le_of_ble_eq_true rfl) ml_8_83 mi_92 mp_92 (Nat.le_of_ble_eq_true rfl)) rfl (fun b1 hb1 => ?_)
  refine x_if_ne 12 dm_109_6 rfl (fun c2 => ?_) (fun c2 => ?_)
  · refine x_bipush (-2) dm_109_9 (by decide) ?_
    exact x_ireturn dm_109_11 rfl
  · refine x_iconst (0) dm_109_12 (by decide) ?_
    refine x_istore_n dm_109_13 (Nat.le_of_ble_eq_true rfl) ?_
    exact im_lsub [(0, .inr (some j)), (1, .inl x1), (2, .inl (0 : Int32))] (im_sb_c rfl (im_sb_c rfl (im_sb_c rfl im_sb_n))) (tn_109_14 j 1000 x1 (0 : Int32) b1.2)
def fn_120_122 (r15 : Int32 → Int32 → im_H → Option (Int32 × im_H)) (j : Nat) (y1 : Int32) (y2 : Int32) (h : im_H) : Option (Int32 × im_H) :=
  if h.2.1 j = (0, 8) then ((fn_119 j h).bind fun b2 => r15 y1 y2 b2) else none
set_option maxRecDepth 100000 in
set_option maxHeartbeats 4000000 in
theorem tn_120_122 (j : Nat) (r15 : Int32 → Int32 → im_H → Option (Int32 × im_H)) (hr15 : ∀ (y1 : Int32) (y2 : Int32) (h : im_H), im_Go im_zI 4 fm_120 15 [(0, .inr (some j)), (1, .inl y1), (2, .inl y2)] [] h (r15 y1 y2 h)) (y1 : Int32) (y2 : Int32) (h : im_H) : im_Go im_zI 4 fm_120 122 [(0, .inr (some j)), (1, .inl y1), (2, .inl y2)] [] h (fn_120_122 r15 j y1 y2 h) := by
  unfold fn_120_122
  refine x_aload_n dm_120_122 rfl ?_
  refine im_chk _ (fun hk1 => ?_)
  refine im_callV mf_119 rfl (tn_119 j h) (im_runV (as := []) (rest := []) dm_120_123 mf_119 (Nat.le_of_ble_eq_true rfl) ml_8_163 mi_119 ms_119 mp_119 (Nat.le_of_ble_eq_true rfl) rfl hk1 ⟨_, _, rfl⟩) rfl (fun b2 hb2 => ?_)
  refine x_goto 15 dm_120_126 rfl ?_
  exact im_lsub [(0, .inr (some j)), (1, .inl y1), (2, .inl y2)] (im_sb_c rfl (im_sb_c rfl (im_sb_c rfl im_sb_n))) (hr15 y1 y2 b2)
def fn_120_80 (r15 : Int32 → Int32 → im_H → Option (Int32 × im_H)) (j : Nat) (y1 : Int32) (y2 : Int32) (h : im_H) : Option (Int32 × im_H) :=
  if h.2.1 j = (0, 8) then ((fn_116 j (im_gI h j 14) h).bind fun b2 => let v3 : Int32 := (y2 + (1 : Int32)); if b2.2.1 j = (0, 8) then (let h5 : im_H := im_pI b2 j 15 ((im_gI b2 j 15) + (1 : Int32)); if (im_gI h5 j 15) = (3 : Int32) then (fn_120_122 r15 j y1 v3 h5) else (((im_gR b2 j 1)).bind fun q7 => if im_in b2 1 q7 (im_gI h5 j 14) then (if (im_gI h5 q7 ((im_gI h5 j 14)).toNatClampNeg) = (1 : Int32) then (r15 y1 v3 h5) else (fn_120_122 r15 j y1 v3 h5)) else none)) else none) else none
set_option maxRecDepth 100000 in
set_option maxHeartbeats 4000000 in
theorem tn_120_80 (j : Nat) (r15 : Int32 → Int32 → im_H → Option (Int32 × im_H)) (hr15 : ∀ (y1 : Int32) (y2 : Int32) (h : im_H), im_Go im_zI 4 fm_120 15 [(0, .inr (some j)), (1, .inl y1), (2, .inl y2)] [] h (r15 y1 y2 h)) (y1 : Int32) (y2 : Int32) (h : im_H) : im_Go im_zI 4 fm_120 80 [(0, .inr (some j)), (1, .inl y1), (2, .inl y2)] [] h (fn_120_80 r15 j y1 y2 h) := by
  unfold fn_120_80
  refine x_aload_n dm_120_80 rfl ?_
  refine x_aload_n dm_120_81 rfl ?_
  refine im_chk _ (fun hk1 => ?_)
  refine x_getI dm_120_82 fl_8_138 rfl rfl hk1 ?_
  refine im_callV mf_116 rfl (tn_116 j _ h) (im_runV (as := [.inl _]) (rest := []) dm_120_85 mf_116 (Nat.le_of_ble_eq_true rfl) ml_8_166 mi_116 ms_116 mp_116 (Nat.le_of_ble_eq_true rfl) rfl hk1 ⟨_, _, rfl⟩) rfl (fun b2 hb2 => ?_)
  refine x_iinc (1) dm_120_88 rfl (by decide) (Nat.le_of_ble_eq_true rfl) ?_
  refine x_aload_n dm_120_91 rfl ?_
  refine x_dup dm_120_92 ?_
  refine im_chk _ (fun hk4 => ?_)
  refine x_getI dm_120_93 fl_8_141 rfl rfl hk4 ?_
  refine x_iconst (1) dm_120_96 (by decide) ?_
  refine x_iadd dm_120_97 ?_
  refine x_putI dm_120_98 fl_8_141 rfl rfl hk4 ?_
  refine x_aload_n dm_120_101 rfl ?_
  refine x_getI dm_120_102 fl_8_141 rfl rfl hk4 ?_
  refine x_iconst (3) dm_120_105 (by decide) ?_
  refine x_icmp_eq 122 dm_120_106 rfl (fun c6 => ?_) (fun c6 => ?_)
  · exact im_lsub [(0, .inr (some j)), (1, .inl y1), (2, .inl _)] (im_sb_c rfl (im_sb_c rfl (im_sb_c rfl im_sb_n))) (tn_120_122 j r15 hr15 y1 _ _)
  · refine x_aload_n dm_120_109 rfl ?_
    refine x_getR dm_120_110 fl_8_13 rfl rfl hk4 ?_
    refine x_aload_n dm_120_113 rfl ?_
    refine x_getI dm_120_114 fl_8_138 rfl rfl hk4 ?_
    refine im_bind (fun q7 hq7 => ?_)
    refine im_chk _ (fun hi8 => ?_)
    refine x_iaload dm_120_117 hq7 hi8 ?_
    refine x_iconst (1) dm_120_118 (by decide) ?_
    refine x_icmp_eq 15 dm_120_119 rfl (fun c9 => ?_) (fun c9 => ?_)
    · exact im_lsub [(0, .inr (some j)), (1, .inl y1), (2, .inl _)] (im_sb_c rfl (im_sb_c rfl (im_sb_c rfl im_sb_n))) (hr15 y1 _ _)
    · exact im_lsub [(0, .inr (some j)), (1, .inl y1), (2, .inl _)] (im_sb_c rfl (im_sb_c rfl (im_sb_c rfl im_sb_n))) (tn_120_122 j r15 hr15 y1 _ _)
def fn_120_52 (r15 : Int32 → Int32 → im_H → Option (Int32 × im_H)) (j : Nat) : Nat → Int32 → Int32 → Int32 → im_H → Option (Int32 × im_H)
  | 0, _, _, _, _ => none
  | n + 1, y1, y2, y3, h =>
    if (2 : Int32) ≤ y3 then (fn_120_80 r15 j y1 y2 h) else (if h.2.1 j = (0, 8) then (((im_gR h j 1)).bind fun q3 => if im_in h 1 q3 (im_gI h j 14) then (if (im_gI h q3 ((im_gI h j 14)).toNatClampNeg) = (1 : Int32) then (fn_120_80 r15 j y1 y2 h) else ((fn_119 j h).bind fun b6 => let v7 : Int32 := (y3 + (1 : Int32)); fn_120_52 r15 j n y1 y2 v7 b6)) else none) else none)
set_option maxRecDepth 100000 in
set_option maxHeartbeats 4000000 in
theorem tn_120_52 (j : Nat) (r15 : Int32 → Int32 → im_H → Option (Int32 × im_H)) (hr15 : ∀ (y1 : Int32) (y2 : Int32) (h : im_H), im_Go im_zI 4 fm_120 15 [(0, .inr (some j)), (1, .inl y1), (2, .inl y2)] [] h (r15 y1 y2 h)) : ∀ (n : Nat) (y1 : Int32) (y2 : Int32) (y3 : Int32) (h : im_H), im_Go im_zI 4 fm_120 52 [(0, .inr (some j)), (1, .inl y1), (2, .inl y2), (3, .inl y3)] [] h (fn_120_52 r15 j n y1 y2 y3 h)
  | 0, y1, y2, y3, h => im_none
  | n + 1, y1, y2, y3, h => by
    have ih := tn_120_52 j r15 hr15 n
    unfold fn_120_52
    refine x_iload_n dm_120_52 rfl ?_
    refine x_iconst (2) dm_120_53 (by decide) ?_
    refine x_icmp_ge 80 dm_120_54 rfl (fun c1 => ?_) (fun c1 => ?_)
    · exact im_lsub [(0, .inr (some j)), (1, .inl y1), (2, .inl y2)] (im_sb_c rfl (im_sb_c rfl (im_sb_c rfl im_sb_n))) (tn_120_80 j r15 hr15 y1 y2 h)
    · refine x_aload_n dm_120_57 rfl ?_
      refine im_chk _ (fun hk2 => ?_)
      refine x_getR dm_120_58 fl_8_13 rfl rfl hk2 ?_
      refine x_aload_n dm_120_61 rfl ?_
      refine x_getI dm_120_62 fl_8_138 rfl rfl hk2 ?_
      refine im_bind (fun q3 hq3 => ?_)
      refine im_chk _ (fun hi4 => ?_)
      refine x_iaload dm_120_65 hq3 hi4 ?_
      refine x_iconst (1) dm_120_66 (by decide) ?_
      refine x_icmp_eq 80 dm_120_67 rfl (fun c5 => ?_) (fun c5 => ?_)
      · exact im_lsub [(0, .inr (some j)), (1, .inl y1), (2, .inl y2)] (im_sb_c rfl (im_sb_c rfl (im_sb_c rfl im_sb_n))) (tn_120_80 j r15 hr15 y1 y2 h)
      · refine x_aload_n dm_120_70 rfl ?_
        refine im_callV mf_119 rfl (tn_119 j h) (im_runV (as := []) (rest := []) dm_120_71 mf_119 (Nat.le_of_ble_eq_true rfl) ml_8_163 mi_119 ms_119 mp_119 (Nat.le_of_ble_eq_true rfl) rfl hk2 ⟨_, _, rfl⟩) rfl (fun b6 hb6 => ?_)
        refine x_iinc (1) dm_120_74 rfl (by decide) (Nat.le_of_ble_eq_true rfl) ?_
        refine x_goto 52 dm_120_77 rfl ?_
        exact im_lsub [(0, .inr (some j)), (1, .inl y1), (2, .inl y2), (3, .inl _)] (im_sb_c rfl (im_sb_c rfl (im_sb_c rfl (im_sb_c rfl im_sb_n)))) (ih y1 y2 _ b6)
def fn_120_50 (r15 : Int32 → Int32 → im_H → Option (Int32 × im_H)) (j : Nat) (y1 : Int32) (y2 : Int32) (h : im_H) : Option (Int32 × im_H) :=
  fn_120_52 r15 j 1000 y1 y2 (0 : Int32) h
set_option maxRecDepth 100000 in
set_option maxHeartbeats 4000000 in
theorem tn_120_50 (j : Nat) (r15 : Int32 → Int32 → im_H → Option (Int32 × im_H)) (hr15 : ∀ (y1 : Int32) (y2 : Int32) (h : im_H), im_Go im_zI 4 fm_120 15 [(0, .inr (some j)), (1, .inl y1), (2, .inl y2)] [] h (r15 y1 y2 h)) (y1 : Int32) (y2 : Int32) (h : im_H) : im_Go im_zI 4 fm_120 50 [(0, .inr (some j)), (1, .inl y1), (2, .inl y2)] [] h (fn_120_50 r15 j y1 y2 h) := by
  unfold fn_120_50
  refine x_iconst (0) dm_120_50 (by decide) ?_
  refine x_istore_n dm_120_51 (Nat.le_of_ble_eq_true rfl) ?_
  exact im_lsub [(0, .inr (some j)), (1, .inl y1), (2, .inl y2), (3, .inl (0 : Int32))] (im_sb_c rfl (im_sb_c rfl (im_sb_c rfl (im_sb_c rfl im_sb_n)))) (tn_120_52 j r15 hr15 1000 y1 y2 (0 : Int32) h)
def fn_120_15 (j : Nat) : Nat → Int32 → Int32 → im_H → Option (Int32 × im_H)
  | 0, _, _, _ => none
  | n + 1, y1, y2, h =>
    if y1 ≤ y2 then (some (y2, h)) else (if h.2.1 j = (0, 8) then (((im_gR h j 1)).bind fun q3 => if im_in h 1 q3 (0 : Int32) then (if (im_gI h q3 ((0 : Int32)).toNatClampNeg) = (1 : Int32) then (fn_120_50 (fn_120_15 j n) j y1 y2 h) else (if im_in h 1 q3 (1 : Int32) then (if (im_gI h q3 ((1 : Int32)).toNatClampNeg) = (1 : Int32) then (fn_120_50 (fn_120_15 j n) j y1 y2 h) else (if im_in h 1 q3 (2 : Int32) then (if (im_gI h q3 ((2 : Int32)).toNatClampNeg) = (1 : Int32) then (fn_120_50 (fn_120_15 j n) j y1 y2 h) else (some (y2, h))) else none)) else none)) else none) else none)
set_option maxRecDepth 100000 in
set_option maxHeartbeats 4000000 in
theorem tn_120_15 (j : Nat) : ∀ (n : Nat) (y1 : Int32) (y2 : Int32) (h : im_H), im_Go im_zI 4 fm_120 15 [(0, .inr (some j)), (1, .inl y1), (2, .inl y2)] [] h (fn_120_15 j n y1 y2 h)
  | 0, y1, y2, h => im_none
  | n + 1, y1, y2, h => by
    have ih := tn_120_15 j n
    unfold fn_120_15
    refine x_iload_n dm_120_15 rfl ?_
    refine x_iload_n dm_120_16 rfl ?_
    refine x_icmp_ge 129 dm_120_17 rfl (fun c1 => ?_) (fun c1 => ?_)
    · refine x_iload_n dm_120_129 rfl ?_
      exact x_ireturn dm_120_130 rfl
    · refine x_aload_n dm_120_20 rfl ?_
      refine im_chk _ (fun hk2 => ?_)
      refine x_getR dm_120_21 fl_8_13 rfl rfl hk2 ?_
      refine x_iconst (0) dm_120_24 (by decide) ?_
      refine im_bind (fun q3 hq3 => ?_)
      refine im_chk _ (fun hi4 => ?_)
      refine x_iaload dm_120_25 hq3 hi4 ?_
      refine x_iconst (1) dm_120_26 (by decide) ?_
      refine x_icmp_eq 50 dm_120_27 rfl (fun c5 => ?_) (fun c5 => ?_)
      · exact im_lsub [(0, .inr (some j)), (1, .inl y1), (2, .inl y2)] (im_sb_c rfl (im_sb_c rfl (im_sb_c rfl im_sb_n))) (tn_120_50 j (fn_120_15 j n) ih y1 y2 h)
      · refine x_aload_n dm_120_30 rfl ?_
        refine x_getR dm_120_31 fl_8_13 rfl rfl hk2 ?_
        refine x_iconst (1) dm_120_34 (by decide) ?_
        refine im_chk _ (fun hi6 => ?_)
        refine x_iaload dm_120_35 hq3 hi6 ?_
        refine x_iconst (1) dm_120_36 (by decide) ?_
        refine x_icmp_eq 50 dm_120_37 rfl (fun c7 => ?_) (fun c7 => ?_)
        · exact im_lsub [(0, .inr (some j)), (1, .inl y1), (2, .inl y2)] (im_sb_c rfl (im_sb_c rfl (im_sb_c rfl im_sb_n))) (tn_120_50 j (fn_120_15 j n) ih y1 y2 h)
        · refine x_aload_n dm_120_40 rfl ?_
          refine x_getR dm_120_41 fl_8_13 rfl rfl hk2 ?_
          refine x_iconst (2) dm_120_44 (by decide) ?_
          refine im_chk _ (fun hi8 => ?_)
          refine x_iaload dm_120_45 hq3 hi8 ?_
          refine x_iconst (1) dm_120_46 (by decide) ?_
          refine x_icmp_ne 129 dm_120_47 rfl (fun c9 => ?_) (fun c9 => ?_)
          · exact im_lsub [(0, .inr (some j)), (1, .inl y1), (2, .inl y2)] (im_sb_c rfl (im_sb_c rfl (im_sb_c rfl im_sb_n))) (tn_120_50 j (fn_120_15 j n) ih y1 y2 h)
          · refine x_iload_n dm_120_129 rfl ?_
            exact x_ireturn dm_120_130 rfl
/-- FencedModulesModel.run(I)I -/
def fn_120 (j : Nat) (x1 : Int32) (h : im_H) : Option (Int32 × im_H) :=
  (fn_92 x1 (0 : Int32) (500 : Int32) h).bind fun b1 => if b1.1 = 0 then (some ((-1 : Int32), b1.2)) else (fn_120_15 j 1000 x1 (0 : Int32) b1.2)
set_option maxRecDepth 100000 in
set_option maxHeartbeats 4000000 in
theorem tn_120 (j : Nat) (x1 : Int32) (h : im_H) : im_Go im_zI 4 fm_120 0 (im_en 0 [.inr (some j), .inl x1]) [] h (fn_120 j x1 h) := by
  unfold fn_120
  refine x_iload_n dm_120_0 rfl ?_
  refine x_iconst (0) dm_120_1 (by decide) ?_
  refine x_sipush (500) dm_120_2 (by decide) ?_
  refine im_callI mf_92 rfl (tn_92 x1 (0 : Int32) (500 : Int32) h) (im_runS (as := [.inl x1, .inl (0 : Int32), .inl (500 : Int32)]) (rest := []) dm_120_5 mf_92 (Nat.le_of_ble_eq_true rfl) ml_8_83 mi_92 mp_92 (Nat.le_of_ble_eq_true rfl)) rfl (fun b1 hb1 => ?_)
  refine x_if_ne 13 dm_120_8 rfl (fun c2 => ?_) (fun c2 => ?_)
  · refine x_iconst (-1) dm_120_11 (by decide) ?_
    exact x_ireturn dm_120_12 rfl
  · refine x_iconst (0) dm_120_13 (by decide) ?_
    refine x_istore_n dm_120_14 (Nat.le_of_ble_eq_true rfl) ?_
    exact im_lsub [(0, .inr (some j)), (1, .inl x1), (2, .inl (0 : Int32))] (im_sb_c rfl (im_sb_c rfl (im_sb_c rfl im_sb_n))) (tn_120_15 j 1000 x1 (0 : Int32) b1.2)
def fn_123_75 (j : Nat) : Nat → Int32 → Int32 → Int32 → Int32 → im_H → Option (Int32 × im_H)
  | 0, _, _, _, _, _ => none
  | n + 1, y1, y2, y3, y4, h =>
    if y2 ≤ y4 then (some (y3, h)) else (if y3 = 0 then (if h.2.1 j = (0, 8) then ((fn_124 j y1 h).bind fun b4 => let v5 : Int32 := (y4 + (1 : Int32)); fn_123_75 j n y1 y2 b4.1 v5 b4.2) else none) else (some (y3, h)))
set_option maxRecDepth 100000 in
set_option maxHeartbeats 4000000 in
theorem tn_123_75 (j : Nat) : ∀ (n : Nat) (y1 : Int32) (y2 : Int32) (y3 : Int32) (y4 : Int32) (h : im_H), im_Go im_zI 4 fm_123 75 [(0, .inr (some j)), (1, .inl y1), (2, .inl y2), (3, .inl y3), (4, .inl y4)] [] h (fn_123_75 j n y1 y2 y3 y4 h)
  | 0, y1, y2, y3, y4, h => im_none
  | n + 1, y1, y2, y3, y4, h => by
    have ih := tn_123_75 j n
    unfold fn_123_75
    refine x_iload dm_123_75 rfl ?_
    refine x_iload_n dm_123_77 rfl ?_
    refine x_icmp_ge 97 dm_123_78 rfl (fun c1 => ?_) (fun c1 => ?_)
    · refine x_iload_n dm_123_97 rfl ?_
      exact x_ireturn dm_123_98 rfl
    · refine x_iload_n dm_123_81 rfl ?_
      refine x_if_ne 97 dm_123_82 rfl (fun c2 => ?_) (fun c2 => ?_)
      · refine x_aload_n dm_123_85 rfl ?_
        refine x_iload_n dm_123_86 rfl ?_
        refine im_chk _ (fun hk3 => ?_)
        refine im_callI mf_124 rfl (tn_124 j y1 h) (im_runV (as := [.inl y1]) (rest := []) dm_123_87 mf_124 (Nat.le_of_ble_eq_true rfl) ml_8_185 mi_124 ms_124 mp_124 (Nat.le_of_ble_eq_true rfl) rfl hk3 ⟨_, _, rfl⟩) rfl (fun b4 hb4 => ?_)
        refine x_istore_n dm_123_90 (Nat.le_of_ble_eq_true rfl) ?_
        refine x_iinc (1) dm_123_91 rfl (by decide) (Nat.le_of_ble_eq_true rfl) ?_
        refine x_goto 75 dm_123_94 rfl ?_
        exact im_lsub [(0, .inr (some j)), (1, .inl y1), (2, .inl y2), (3, .inl b4.1), (4, .inl _)] (im_sb_c rfl (im_sb_c rfl (im_sb_c rfl (im_sb_c rfl (im_sb_c rfl im_sb_n))))) (ih y1 y2 b4.1 _ b4.2)
      · refine x_iload_n dm_123_97 rfl ?_
        exact x_ireturn dm_123_98 rfl
def fn_123_31 (j : Nat) : Nat → Int32 → Int32 → Int32 → im_H → Option (Int32 × im_H)
  | 0, _, _, _, _ => none
  | n + 1, y1, y2, y3, h =>
    if (24 : Int32) ≤ y3 then (if h.2.1 j = (0, 8) then (let h3 : im_H := im_pI h j 27 (0 : Int32); let h4 : im_H := im_pI h3 j 28 (0 : Int32); let h5 : im_H := im_pI h4 j 29 (0 : Int32); let h6 : im_H := im_pI h5 j 30 (0 : Int32); fn_123_75 j 1000 y1 y2 (0 : Int32) (0 : Int32) h6) else none) else (if h.2.1 j = (0, 8) then ((fn_122 j y3 (0 : Int32) (0 : Int32) h).bind fun b8 => let v9 : Int32 := (y3 + (1 : Int32)); fn_123_31 j n y1 y2 v9 b8) else none)
set_option maxRecDepth 100000 in
set_option maxHeartbeats 4000000 in
theorem tn_123_31 (j : Nat) : ∀ (n : Nat) (y1 : Int32) (y2 : Int32) (y3 : Int32) (h : im_H), im_Go im_zI 4 fm_123 31 [(0, .inr (some j)), (1, .inl y1), (2, .inl y2), (3, .inl y3)] [] h (fn_123_31 j n y1 y2 y3 h)
  | 0, y1, y2, y3, h => im_none
  | n + 1, y1, y2, y3, h => by
    have ih := tn_123_31 j n
    unfold fn_123_31
    refine x_iload_n dm_123_31 rfl ?_
    refine x_bipush (24) dm_123_32 (by decide) ?_
    refine x_icmp_ge 50 dm_123_34 rfl (fun c1 => ?_) (fun c1 => ?_)
    · refine x_aload_n dm_123_50 rfl ?_
      refine x_iconst (0) dm_123_51 (by decide) ?_
      refine im_chk _ (fun hk2 => ?_)
      refine x_putI dm_123_52 fl_8_173 rfl rfl hk2 ?_
      refine x_aload_n dm_123_55 rfl ?_
      refine x_iconst (0) dm_123_56 (by decide) ?_
      refine x_putI dm_123_57 fl_8_176 rfl rfl hk2 ?_
      refine x_aload_n dm_123_60 rfl ?_
      refine x_iconst (0) dm_123_61 (by decide) ?_
      refine x_putI dm_123_62 fl_8_179 rfl rfl hk2 ?_
      refine x_aload_n dm_123_65 rfl ?_
      refine x_iconst (0) dm_123_66 (by decide) ?_
      refine x_putI dm_123_67 fl_8_182 rfl rfl hk2 ?_
      refine x_iconst (0) dm_123_70 (by decide) ?_
      refine x_istore_n dm_123_71 (Nat.le_of_ble_eq_true rfl) ?_
      refine x_iconst (0) dm_123_72 (by decide) ?_
      refine x_istore dm_123_73 (Nat.le_of_ble_eq_true rfl) ?_
      exact im_lsub [(0, .inr (some j)), (1, .inl y1), (2, .inl y2), (3, .inl (0 : Int32)), (4, .inl (0 : Int32))] (im_sb_c rfl (im_sb_c rfl (im_sb_c rfl (im_sb_c rfl (im_sb_c rfl im_sb_n))))) (tn_123_75 j 1000 y1 y2 (0 : Int32) (0 : Int32) _)
    · refine x_aload_n dm_123_37 rfl ?_
      refine x_iload_n dm_123_38 rfl ?_
      refine x_iconst (0) dm_123_39 (by decide) ?_
      refine x_iconst (0) dm_123_40 (by decide) ?_
      refine im_chk _ (fun hk7 => ?_)
      refine im_callV mf_122 rfl (tn_122 j y3 (0 : Int32) (0 : Int32) h) (im_runV (as := [.inl y3, .inl (0 : Int32), .inl (0 : Int32)]) (rest := []) dm_123_41 mf_122 (Nat.le_of_ble_eq_true rfl) ml_8_169 mi_122 ms_122 mp_122 (Nat.le_of_ble_eq_true rfl) rfl hk7 ⟨_, _, rfl⟩) rfl (fun b8 hb8 => ?_)
      refine x_iinc (1) dm_123_44 rfl (by decide) (Nat.le_of_ble_eq_true rfl) ?_
      refine x_goto 31 dm_123_47 rfl ?_
      exact im_lsub [(0, .inr (some j)), (1, .inl y1), (2, .inl y2), (3, .inl _)] (im_sb_c rfl (im_sb_c rfl (im_sb_c rfl (im_sb_c rfl im_sb_n)))) (ih y1 y2 _ b8)
/-- FencedModulesModel.follow(II)I -/
def fn_123 (j : Nat) (x1 : Int32) (x2 : Int32) (h : im_H) : Option (Int32 × im_H) :=
  (fn_92 x2 (0 : Int32) (300 : Int32) h).bind fun b1 => if b1.1 = 0 then (some ((-1 : Int32), b1.2)) else ((fn_92 x1 (0 : Int32) (2 : Int32) b1.2).bind fun b3 => if b3.1 = 0 then (some ((-1 : Int32), b3.2)) else (if b3.2.2.1 j = (0, 8) then ((fn_98 j b3.2).bind fun b6 => if b6.1 = 0 then (some ((-1 : Int32), b6.2)) else (fn_123_31 j 1000 x1 x2 (0 : Int32) b6.2)) else none))
set_option maxRecDepth 100000 in
set_option maxHeartbeats 4000000 in
theorem tn_123 (j : Nat) (x1 : Int32) (x2 : Int32) (h : im_H) : im_Go im_zI 4 fm_123 0 (im_en 0 [.inr (some j), .inl x1, .inl x2]) [] h (fn_123 j x1 x2 h) := by
  unfold fn_123
  refine x_iload_n dm_123_0 rfl ?_
  refine x_iconst (0) dm_123_1 (by decide) ?_
  refine x_sipush (300) dm_123_2 (by decide) ?_
  refine im_callI mf_92 rfl (tn_92 x2 (0 : Int32) (300 : Int32) h) (im_runS (as := [.inl x2, .inl (0 : Int32), .inl (300 : Int32)]) (rest := []) dm_123_5 mf_92 (Nat.le_of_ble_eq_true rfl) ml_8_83 mi_92 mp_92 (Nat.le_of_ble_eq_true rfl)) rfl (fun b1 hb1 => ?_)
  refine x_if_eq 27 dm_123_8 rfl (fun c2 => ?_) (fun c2 => ?_)
  · refine x_iconst (-1) dm_123_27 (by decide) ?_
    exact x_ireturn dm_123_28 rfl
  · refine x_iload_n dm_123_11 rfl ?_
    refine x_iconst (0) dm_123_12 (by decide) ?_
    refine x_iconst (2) dm_123_13 (by decide) ?_
    refine im_callI mf_92 rfl (tn_92 x1 (0 : Int32) (2 : Int32) b1.2) (im_runS (as := [.inl x1, .inl (0 : Int32), .inl (2 : Int32)]) (rest := []) dm_123_14 mf_92 (Nat.le_of_ble_eq_true rfl) ml_8_83 mi_92 mp_92 (Nat.le_of_ble_eq_true rfl)) rfl (fun b3 hb3 => ?_)
    refine x_if_eq 27 dm_123_17 rfl (fun c4 => ?_) (fun c4 => ?_)
    · refine x_iconst (-1) dm_123_27 (by decide) ?_
      exact x_ireturn dm_123_28 rfl
    · refine x_aload_n dm_123_20 rfl ?_
      refine im_chk _ (fun hk5 => ?_)
      refine im_callI mf_98 rfl (tn_98 j b3.2) (im_runV (as := []) (rest := []) dm_123_21 mf_98 (Nat.le_of_ble_eq_true rfl) ml_8_104 mi_98 ms_98 mp_98 (Nat.le_of_ble_eq_true rfl) rfl hk5 ⟨_, _, rfl⟩) rfl (fun b6 hb6 => ?_)
      refine x_if_ne 29 dm_123_24 rfl (fun c7 => ?_) (fun c7 => ?_)
      · refine x_iconst (-1) dm_123_27 (by decide) ?_
        exact x_ireturn dm_123_28 rfl
      · refine x_iconst (0) dm_123_29 (by decide) ?_
        refine x_istore_n dm_123_30 (Nat.le_of_ble_eq_true rfl) ?_
        exact im_lsub [(0, .inr (some j)), (1, .inl x1), (2, .inl x2), (3, .inl (0 : Int32))] (im_sb_c rfl (im_sb_c rfl (im_sb_c rfl (im_sb_c rfl im_sb_n)))) (tn_123_31 j 1000 x1 x2 (0 : Int32) b6.2)
def fn_110_52 (r15 : Int32 → Int32 → im_H → Option (Int32 × im_H)) (j : Nat) (y1 : Int32) (y3 : Int32) (s0 : Int32) (s1 : Int32) (s2 : Option Nat) (h : im_H) : Option (Int32 × im_H) :=
  (s2).bind fun q1 => if im_in h 1 q1 s1 then (let h3 : im_H := im_pI h q1 (s1).toNatClampNeg s0; let v4 : Int32 := (y3 + (1 : Int32)); r15 y1 v4 h3) else none
set_option maxRecDepth 100000 in
set_option maxHeartbeats 4000000 in
theorem tn_110_52 (j : Nat) (r15 : Int32 → Int32 → im_H → Option (Int32 × im_H)) (hr15 : ∀ (y1 : Int32) (y3 : Int32) (h : im_H), im_Go im_zI 5 fm_110 15 [(0, .inr (some j)), (1, .inl y1), (3, .inl y3)] [] h (r15 y1 y3 h)) (y1 : Int32) (y3 : Int32) (s0 : Int32) (s1 : Int32) (s2 : Option Nat) (h : im_H) : im_Go im_zI 5 fm_110 52 [(0, .inr (some j)), (1, .inl y1), (3, .inl y3)] [.inl s0, .inl s1, .inr s2] h (fn_110_52 r15 j y1 y3 s0 s1 s2 h) := by
  unfold fn_110_52
  refine im_bind (fun q1 hq1 => ?_)
  refine im_chk _ (fun hi2 => ?_)
  refine x_iastore dm_110_52 hq1 hi2 ?_
  refine x_iinc (1) dm_110_53 rfl (by decide) (Nat.le_of_ble_eq_true rfl) ?_
  refine x_goto 15 dm_110_56 rfl ?_
  exact im_lsub [(0, .inr (some j)), (1, .inl y1), (3, .inl _)] (im_sb_c rfl (im_sb_c rfl (im_sb_c rfl im_sb_n))) (hr15 y1 _ _)
def fn_110_133 (r87 : Int32 → Int32 → im_H → Option (Int32 × im_H)) (j : Nat) (y1 : Int32) (y3 : Int32) (s0 : Int32) (s1 : Int32) (s2 : Option Nat) (h : im_H) : Option (Int32 × im_H) :=
  (s2).bind fun q1 => if im_in h 1 q1 s1 then (let h3 : im_H := im_pI h q1 (s1).toNatClampNeg s0; let v4 : Int32 := (y3 + (1 : Int32)); r87 y1 v4 h3) else none
set_option maxRecDepth 100000 in
set_option maxHeartbeats 4000000 in
theorem tn_110_133 (j : Nat) (r87 : Int32 → Int32 → im_H → Option (Int32 × im_H)) (hr87 : ∀ (y1 : Int32) (y3 : Int32) (h : im_H), im_Go im_zI 5 fm_110 87 [(0, .inr (some j)), (1, .inl y1), (3, .inl y3)] [] h (r87 y1 y3 h)) (y1 : Int32) (y3 : Int32) (s0 : Int32) (s1 : Int32) (s2 : Option Nat) (h : im_H) : im_Go im_zI 5 fm_110 133 [(0, .inr (some j)), (1, .inl y1), (3, .inl y3)] [.inl s0, .inl s1, .inr s2] h (fn_110_133 r87 j y1 y3 s0 s1 s2 h) := by
  unfold fn_110_133
  refine im_bind (fun q1 hq1 => ?_)
  refine im_chk _ (fun hi2 => ?_)
  refine x_iastore dm_110_133 hq1 hi2 ?_
  refine x_iinc (1) dm_110_134 rfl (by decide) (Nat.le_of_ble_eq_true rfl) ?_
  refine x_goto 87 dm_110_137 rfl ?_
  exact im_lsub [(0, .inr (some j)), (1, .inl y1), (3, .inl _)] (im_sb_c rfl (im_sb_c rfl (im_sb_c rfl im_sb_n))) (hr87 y1 _ _)
def fn_110_219 (j : Nat) (s0 : Int32) (s1 : Option Nat) (h : im_H) : Option (Int32 × im_H) :=
  (s1).bind fun q1 => if h.2.1 q1 = (0, 8) then (let h3 : im_H := im_pI h q1 15 s0; some ((1 : Int32), h3)) else none
set_option maxRecDepth 100000 in
set_option maxHeartbeats 4000000 in
theorem tn_110_219 (j : Nat) (s0 : Int32) (s1 : Option Nat) (h : im_H) : im_Go im_zI 5 fm_110 219 [] [.inl s0, .inr s1] h (fn_110_219 j s0 s1 h) := by
  unfold fn_110_219
  refine im_bind (fun q1 hq1 => ?_)
  refine im_chk _ (fun hk2 => ?_)
  refine x_putI dm_110_219 fl_8_141 rfl hq1 hk2 ?_
  refine x_iconst (1) dm_110_222 (by decide) ?_
  exact x_zreturn dm_110_223 rfl (by decide)
def fn_110_87 (j : Nat) : Nat → Int32 → Int32 → im_H → Option (Int32 × im_H)
  | 0, _, _, _ => none
  | n + 1, y1, y3, h =>
    if (8 : Int32) ≤ y3 then (if h.2.1 j = (0, 8) then (((im_gR h j 3)).bind fun q3 => if im_in h 1 q3 y1 then (let h5 : im_H := im_pI h q3 (y1).toNatClampNeg ((64 : Int32) + ((32 : Int32) * y1)); ((im_gR h j 4)).bind fun q6 => if im_in h 1 q6 y1 then (let h8 : im_H := im_pI h5 q6 (y1).toNatClampNeg (0 : Int32); ((im_gR h j 6)).bind fun q9 => if im_in h 1 q9 y1 then (let h11 : im_H := im_pI h8 q9 (y1).toNatClampNeg (0 : Int32); ((im_gR h j 8)).bind fun q12 => if im_in h 1 q12 y1 then (let h14 : im_H := im_pI h11 q12 (y1).toNatClampNeg (0 : Int32); ((im_gR h j 9)).bind fun q15 => if im_in h 1 q15 y1 then (let h17 : im_H := im_pI h14 q15 (y1).toNatClampNeg (0 : Int32); ((im_gR h j 11)).bind fun q18 => if im_in h 1 q18 y1 then (let h20 : im_H := im_pI h17 q18 (y1).toNatClampNeg (0 : Int32); ((im_gR h j 12)).bind fun q21 => if im_in h 1 q21 y1 then (let h23 : im_H := im_pI h20 q21 (y1).toNatClampNeg (0 : Int32); ((im_gR h j 1)).bind fun q24 => if im_in h 1 q24 y1 then (let h26 : im_H := im_pI h23 q24 (y1).toNatClampNeg (1 : Int32); if (im_gI h26 j 14) = y1 then (fn_110_219 j (0 : Int32) (some j) h26) else (fn_110_219 j (im_gI h26 j 15) (some j) h26)) else none) else none) else none) else none) else none) else none) else none) else none) else none) else (if h.2.1 j = (0, 8) then (if y3 = (6 : Int32) then (fn_110_133 (fn_110_87 j n) j y1 y3 ((16 : Int32) * y1) (((8 : Int32) * y1) + y3) (im_gR h j 2) h) else (if y3 = (7 : Int32) then (fn_110_133 (fn_110_87 j n) j y1 y3 ((64 : Int32) + ((32 : Int32) * y1)) (((8 : Int32) * y1) + y3) (im_gR h j 2) h) else (fn_110_133 (fn_110_87 j n) j y1 y3 (0 : Int32) (((8 : Int32) * y1) + y3) (im_gR h j 2) h))) else none)
set_option maxRecDepth 100000 in
set_option maxHeartbeats 4000000 in
theorem tn_110_87 (j : Nat) : ∀ (n : Nat) (y1 : Int32) (y3 : Int32) (h : im_H), im_Go im_zI 5 fm_110 87 [(0, .inr (some j)), (1, .inl y1), (3, .inl y3)] [] h (fn_110_87 j n y1 y3 h)
  | 0, y1, y3, h => im_none
  | n + 1, y1, y3, h => by
    have ih := tn_110_87 j n
    unfold fn_110_87
    refine x_iload_n dm_110_87 rfl ?_
    refine x_bipush (8) dm_110_88 (by decide) ?_
    refine x_icmp_ge 140 dm_110_90 rfl (fun c1 => ?_) (fun c1 => ?_)
    · refine x_aload_n dm_110_140 rfl ?_
      refine im_chk _ (fun hk2 => ?_)
      refine x_getR dm_110_141 fl_8_19 rfl rfl hk2 ?_
      refine x_iload_n dm_110_144 rfl ?_
      refine x_bipush (64) dm_110_145 (by decide) ?_
      refine x_bipush (32) dm_110_147 (by decide) ?_
      refine x_iload_n dm_110_149 rfl ?_
      refine x_imul dm_110_150 ?_
      refine x_iadd dm_110_151 ?_
      refine im_bind (fun q3 hq3 => ?_)
      refine im_chk _ (fun hi4 => ?_)
      refine x_iastore dm_110_152 hq3 hi4 ?_
      refine x_aload_n dm_110_153 rfl ?_
      refine x_getR dm_110_154 fl_8_22 rfl rfl hk2 ?_
      refine x_iload_n dm_110_157 rfl ?_
      refine x_iconst (0) dm_110_158 (by decide) ?_
      refine im_bind (fun q6 hq6 => ?_)
      refine im_chk _ (fun hi7 => ?_)
      refine x_iastore dm_110_159 hq6 hi7 ?_
      refine x_aload_n dm_110_160 rfl ?_
      refine x_getR dm_110_161 fl_8_28 rfl rfl hk2 ?_
      refine x_iload_n dm_110_164 rfl ?_
      refine x_iconst (0) dm_110_165 (by decide) ?_
      refine im_bind (fun q9 hq9 => ?_)
      refine im_chk _ (fun hi10 => ?_)
      refine x_iastore dm_110_166 hq9 hi10 ?_
      refine x_aload_n dm_110_167 rfl ?_
      refine x_getR dm_110_168 fl_8_34 rfl rfl hk2 ?_
      refine x_iload_n dm_110_171 rfl ?_
      refine x_iconst (0) dm_110_172 (by decide) ?_
      refine im_bind (fun q12 hq12 => ?_)
      refine im_chk _ (fun hi13 => ?_)
      refine x_iastore dm_110_173 hq12 hi13 ?_
      refine x_aload_n dm_110_174 rfl ?_
      refine x_getR dm_110_175 fl_8_37 rfl rfl hk2 ?_
      refine x_iload_n dm_110_178 rfl ?_
      refine x_iconst (0) dm_110_179 (by decide) ?_
      refine im_bind (fun q15 hq15 => ?_)
      refine im_chk _ (fun hi16 => ?_)
      refine x_iastore dm_110_180 hq15 hi16 ?_
      refine x_aload_n dm_110_181 rfl ?_
      refine x_getR dm_110_182 fl_8_43 rfl rfl hk2 ?_
      refine x_iload_n dm_110_185 rfl ?_
      refine x_iconst (0) dm_110_186 (by decide) ?_
      refine im_bind (fun q18 hq18 => ?_)
      refine im_chk _ (fun hi19 => ?_)
      refine x_iastore dm_110_187 hq18 hi19 ?_
      refine x_aload_n dm_110_188 rfl ?_
      refine x_getR dm_110_189 fl_8_46 rfl rfl hk2 ?_
      refine x_iload_n dm_110_192 rfl ?_
      refine x_iconst (0) dm_110_193 (by decide) ?_
      refine im_bind (fun q21 hq21 => ?_)
      refine im_chk _ (fun hi22 => ?_)
      refine x_iastore dm_110_194 hq21 hi22 ?_
      refine x_aload_n dm_110_195 rfl ?_
      refine x_getR dm_110_196 fl_8_13 rfl rfl hk2 ?_
      refine x_iload_n dm_110_199 rfl ?_
      refine x_iconst (1) dm_110_200 (by decide) ?_
      refine im_bind (fun q24 hq24 => ?_)
      refine im_chk _ (fun hi25 => ?_)
      refine x_iastore dm_110_201 hq24 hi25 ?_
      refine x_aload_n dm_110_202 rfl ?_
      refine x_aload_n dm_110_203 rfl ?_
      refine x_getI dm_110_204 fl_8_138 rfl rfl hk2 ?_
      refine x_iload_n dm_110_207 rfl ?_
      refine x_icmp_ne 215 dm_110_208 rfl (fun c27 => ?_) (fun c27 => ?_)
      · refine x_iconst (0) dm_110_211 (by decide) ?_
        refine x_goto 219 dm_110_212 rfl ?_
        exact im_lsub [] im_sb_n (tn_110_219 j (0 : Int32) (some j) _)
      · refine x_aload_n dm_110_215 rfl ?_
        refine x_getI dm_110_216 fl_8_141 rfl rfl hk2 ?_
        exact im_lsub [] im_sb_n (tn_110_219 j _ (some j) _)
    · refine x_aload_n dm_110_93 rfl ?_
      refine im_chk _ (fun hk28 => ?_)
      refine x_getR dm_110_94 fl_8_16 rfl rfl hk28 ?_
      refine x_bipush (8) dm_110_97 (by decide) ?_
      refine x_iload_n dm_110_99 rfl ?_
      refine x_imul dm_110_100 ?_
      refine x_iload_n dm_110_101 rfl ?_
      refine x_iadd dm_110_102 ?_
      refine x_iload_n dm_110_103 rfl ?_
      refine x_bipush (6) dm_110_104 (by decide) ?_
      refine x_icmp_ne 116 dm_110_106 rfl (fun c29 => ?_) (fun c29 => ?_)
      · refine x_bipush (16) dm_110_109 (by decide) ?_
        refine x_iload_n dm_110_111 rfl ?_
        refine x_imul dm_110_112 ?_
        refine x_goto 133 dm_110_113 rfl ?_
        exact im_lsub [(0, .inr (some j)), (1, .inl y1), (3, .inl y3)] (im_sb_c rfl (im_sb_c rfl (im_sb_c rfl im_sb_n))) (tn_110_133 j (fn_110_87 j n) ih y1 y3 _ _ _ h)
      · refine x_iload_n dm_110_116 rfl ?_
        refine x_bipush (7) dm_110_117 (by decide) ?_
        refine x_icmp_ne 132 dm_110_119 rfl (fun c30 => ?_) (fun c30 => ?_)
        · refine x_bipush (64) dm_110_122 (by decide) ?_
          refine x_bipush (32) dm_110_124 (by decide) ?_
          refine x_iload_n dm_110_126 rfl ?_
          refine x_imul dm_110_127 ?_
          refine x_iadd dm_110_128 ?_
          refine x_goto 133 dm_110_129 rfl ?_
          exact im_lsub [(0, .inr (some j)), (1, .inl y1), (3, .inl y3)] (im_sb_c rfl (im_sb_c rfl (im_sb_c rfl im_sb_n))) (tn_110_133 j (fn_110_87 j n) ih y1 y3 _ _ _ h)
        · refine x_iconst (0) dm_110_132 (by decide) ?_
          exact im_lsub [(0, .inr (some j)), (1, .inl y1), (3, .inl y3)] (im_sb_c rfl (im_sb_c rfl (im_sb_c rfl im_sb_n))) (tn_110_133 j (fn_110_87 j n) ih y1 y3 (0 : Int32) _ _ h)
def fn_110_61 (j : Nat) : Nat → Int32 → Int32 → im_H → Option (Int32 × im_H)
  | 0, _, _, _ => none
  | n + 1, y1, y3, h =>
    if (16 : Int32) ≤ y3 then (fn_110_87 j 1000 y1 (0 : Int32) h) else (if h.2.1 j = (0, 8) then (((im_gR h j 0)).bind fun q3 => if im_in h 1 q3 (((16 : Int32) * y1) + y3) then (let h5 : im_H := im_pI h q3 ((((16 : Int32) * y1) + y3)).toNatClampNeg (0 : Int32); let v6 : Int32 := (y3 + (1 : Int32)); fn_110_61 j n y1 v6 h5) else none) else none)
set_option maxRecDepth 100000 in
set_option maxHeartbeats 4000000 in
theorem tn_110_61 (j : Nat) : ∀ (n : Nat) (y1 : Int32) (y3 : Int32) (h : im_H), im_Go im_zI 5 fm_110 61 [(0, .inr (some j)), (1, .inl y1), (3, .inl y3)] [] h (fn_110_61 j n y1 y3 h)
  | 0, y1, y3, h => im_none
  | n + 1, y1, y3, h => by
    have ih := tn_110_61 j n
    unfold fn_110_61
    refine x_iload_n dm_110_61 rfl ?_
    refine x_bipush (16) dm_110_62 (by decide) ?_
    refine x_icmp_ge 85 dm_110_64 rfl (fun c1 => ?_) (fun c1 => ?_)
    · refine x_iconst (0) dm_110_85 (by decide) ?_
      refine x_istore_n dm_110_86 (Nat.le_of_ble_eq_true rfl) ?_
      exact im_lsub [(0, .inr (some j)), (1, .inl y1), (3, .inl (0 : Int32))] (im_sb_c rfl (im_sb_c rfl (im_sb_c rfl im_sb_n))) (tn_110_87 j 1000 y1 (0 : Int32) h)
    · refine x_aload_n dm_110_67 rfl ?_
      refine im_chk _ (fun hk2 => ?_)
      refine x_getR dm_110_68 fl_8_7 rfl rfl hk2 ?_
      refine x_bipush (16) dm_110_71 (by decide) ?_
      refine x_iload_n dm_110_73 rfl ?_
      refine x_imul dm_110_74 ?_
      refine x_iload_n dm_110_75 rfl ?_
      refine x_iadd dm_110_76 ?_
      refine x_iconst (0) dm_110_77 (by decide) ?_
      refine im_bind (fun q3 hq3 => ?_)
      refine im_chk _ (fun hi4 => ?_)
      refine x_iastore dm_110_78 hq3 hi4 ?_
      refine x_iinc (1) dm_110_79 rfl (by decide) (Nat.le_of_ble_eq_true rfl) ?_
      refine x_goto 61 dm_110_82 rfl ?_
      exact im_lsub [(0, .inr (some j)), (1, .inl y1), (3, .inl _)] (im_sb_c rfl (im_sb_c rfl (im_sb_c rfl im_sb_n))) (ih y1 _ _)
def fn_110_15 (j : Nat) : Nat → Int32 → Int32 → im_H → Option (Int32 × im_H)
  | 0, _, _, _ => none
  | n + 1, y1, y3, h =>
    if (32 : Int32) ≤ y3 then (fn_110_61 j 1000 y1 (0 : Int32) h) else (if h.2.1 j = (0, 8) then (if (im_gI h j 23) ≤ y3 then (fn_110_52 (fn_110_15 j n) j y1 y3 (0 : Int32) (((64 : Int32) + ((32 : Int32) * y1)) + y3) (im_gR h j 0) h) else (((im_gR h j 24)).bind fun q4 => if im_in h 1 q4 y3 then (fn_110_52 (fn_110_15 j n) j y1 y3 (im_gI h q4 (y3).toNatClampNeg) (((64 : Int32) + ((32 : Int32) * y1)) + y3) (im_gR h j 0) h) else none)) else none)
set_option maxRecDepth 100000 in
set_option maxHeartbeats 4000000 in
theorem tn_110_15 (j : Nat) : ∀ (n : Nat) (y1 : Int32) (y3 : Int32) (h : im_H), im_Go im_zI 5 fm_110 15 [(0, .inr (some j)), (1, .inl y1), (3, .inl y3)] [] h (fn_110_15 j n y1 y3 h)
  | 0, y1, y3, h => im_none
  | n + 1, y1, y3, h => by
    have ih := tn_110_15 j n
    unfold fn_110_15
    refine x_iload_n dm_110_15 rfl ?_
    refine x_bipush (32) dm_110_16 (by decide) ?_
    refine x_icmp_ge 59 dm_110_18 rfl (fun c1 => ?_) (fun c1 => ?_)
    · refine x_iconst (0) dm_110_59 (by decide) ?_
      refine x_istore_n dm_110_60 (Nat.le_of_ble_eq_true rfl) ?_
      exact im_lsub [(0, .inr (some j)), (1, .inl y1), (3, .inl (0 : Int32))] (im_sb_c rfl (im_sb_c rfl (im_sb_c rfl im_sb_n))) (tn_110_61 j 1000 y1 (0 : Int32) h)
    · refine x_aload_n dm_110_21 rfl ?_
      refine im_chk _ (fun hk2 => ?_)
      refine x_getR dm_110_22 fl_8_7 rfl rfl hk2 ?_
      refine x_bipush (64) dm_110_25 (by decide) ?_
      refine x_bipush (32) dm_110_27 (by decide) ?_
      refine x_iload_n dm_110_29 rfl ?_
      refine x_imul dm_110_30 ?_
      refine x_iadd dm_110_31 ?_
      refine x_iload_n dm_110_32 rfl ?_
      refine x_iadd dm_110_33 ?_
      refine x_iload_n dm_110_34 rfl ?_
      refine x_aload_n dm_110_35 rfl ?_
      refine x_getI dm_110_36 fl_8_93 rfl rfl hk2 ?_
      refine x_icmp_ge 51 dm_110_39 rfl (fun c3 => ?_) (fun c3 => ?_)
      · refine x_iconst (0) dm_110_51 (by decide) ?_
        exact im_lsub [(0, .inr (some j)), (1, .inl y1), (3, .inl y3)] (im_sb_c rfl (im_sb_c rfl (im_sb_c rfl im_sb_n))) (tn_110_52 j (fn_110_15 j n) ih y1 y3 (0 : Int32) _ _ h)
      · refine x_aload_n dm_110_42 rfl ?_
        refine x_getR dm_110_43 fl_8_71 rfl rfl hk2 ?_
        refine x_iload_n dm_110_46 rfl ?_
        refine im_bind (fun q4 hq4 => ?_)
        refine im_chk _ (fun hi5 => ?_)
        refine x_iaload dm_110_47 hq4 hi5 ?_
        refine x_goto 52 dm_110_48 rfl ?_
        exact im_lsub [(0, .inr (some j)), (1, .inl y1), (3, .inl y3)] (im_sb_c rfl (im_sb_c rfl (im_sb_c rfl im_sb_n))) (tn_110_52 j (fn_110_15 j n) ih y1 y3 _ _ _ h)
/-- FencedModulesModel.load(I)Z -/
def fn_110 (j : Nat) (x1 : Int32) (h : im_H) : Option (Int32 × im_H) :=
  if h.2.1 j = (0, 8) then ((fn_109 j x1 h).bind fun b2 => if b2.1 = (-1 : Int32) then (fn_110_15 j 1000 x1 (0 : Int32) b2.2) else (some ((0 : Int32), b2.2))) else none
set_option maxRecDepth 100000 in
set_option maxHeartbeats 4000000 in
theorem tn_110 (j : Nat) (x1 : Int32) (h : im_H) : im_Go im_zI 5 fm_110 0 (im_en 0 [.inr (some j), .inl x1]) [] h (fn_110 j x1 h) := by
  unfold fn_110
  refine x_aload_n dm_110_0 rfl ?_
  refine x_iload_n dm_110_1 rfl ?_
  refine im_chk _ (fun hk1 => ?_)
  refine im_callI mf_109 rfl (tn_109 j x1 h) (im_runV (as := [.inl x1]) (rest := []) dm_110_2 mf_109 (Nat.le_of_ble_eq_true rfl) ml_8_135 mi_109 ms_109 mp_109 (Nat.le_of_ble_eq_true rfl) rfl hk1 ⟨_, _, rfl⟩) rfl (fun b2 hb2 => ?_)
  refine x_istore_n dm_110_5 (Nat.le_of_ble_eq_true rfl) ?_
  refine x_iload_n dm_110_6 rfl ?_
  refine x_iconst (-1) dm_110_7 (by decide) ?_
  refine x_icmp_eq 13 dm_110_8 rfl (fun c3 => ?_) (fun c3 => ?_)
  · refine x_iconst (0) dm_110_13 (by decide) ?_
    refine x_istore_n dm_110_14 (Nat.le_of_ble_eq_true rfl) ?_
    exact im_lsub [(0, .inr (some j)), (1, .inl x1), (3, .inl (0 : Int32))] (im_sb_c rfl (im_sb_c rfl (im_sb_c rfl im_sb_n))) (tn_110_15 j 1000 x1 (0 : Int32) b2.2)
  · refine x_iconst (0) dm_110_11 (by decide) ?_
    exact x_zreturn dm_110_12 rfl (by decide)
