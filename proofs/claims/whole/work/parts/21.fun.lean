def fn_52_28 (j : Nat) : Nat → Int32 → Int32 → im_H → Option (Int32 × im_H)
  | 0, _, _, _ => none
  | n + 1, y1, y2, h =>
    if h.2.1 j = (0, 5) then (if (im_gI h j 9) ≤ y2 then (some (y1, h)) else (((im_gR h j 7)).bind fun q3 => if im_in h 1 q3 (y2 + (1 : Int32)) then (if im_in h 1 q3 y2 then (let h6 : im_H := im_pI h q3 (y2).toNatClampNeg (im_gI h q3 ((y2 + (1 : Int32))).toNatClampNeg); let v7 : Int32 := (y2 + (1 : Int32)); fn_52_28 j n y1 v7 h6) else none) else none)) else none
set_option maxRecDepth 100000 in
set_option maxHeartbeats 4000000 in
theorem tn_52_28 (j : Nat) : ∀ (n : Nat) (y1 : Int32) (y2 : Int32) (h : im_H), im_Go im_zI 0 fm_52 28 [(0, .inr (some j)), (1, .inl y1), (2, .inl y2)] [] h (fn_52_28 j n y1 y2 h)
  | 0, y1, y2, h => im_none
  | n + 1, y1, y2, h => by
    have ih := tn_52_28 j n
    unfold fn_52_28
    refine x_iload_n dm_52_28 rfl ?_
    refine x_aload_n dm_52_29 rfl ?_
    refine im_chk _ (fun hk1 => ?_)
    refine x_getI dm_52_30 fl_5_55 rfl rfl hk1 ?_
    refine x_icmp_ge 56 dm_52_33 rfl (fun c2 => ?_) (fun c2 => ?_)
    · refine x_iload_n dm_52_56 rfl ?_
      exact x_ireturn dm_52_57 rfl
    · refine x_aload_n dm_52_36 rfl ?_
      refine x_getR dm_52_37 fl_5_23 rfl rfl hk1 ?_
      refine x_iload_n dm_52_40 rfl ?_
      refine x_aload_n dm_52_41 rfl ?_
      refine x_getR dm_52_42 fl_5_23 rfl rfl hk1 ?_
      refine x_iload_n dm_52_45 rfl ?_
      refine x_iconst (1) dm_52_46 (by decide) ?_
      refine x_iadd dm_52_47 ?_
      refine im_bind (fun q3 hq3 => ?_)
      refine im_chk _ (fun hi4 => ?_)
      refine x_iaload dm_52_48 hq3 hi4 ?_
      refine im_chk _ (fun hi5 => ?_)
      refine x_iastore dm_52_49 hq3 hi5 ?_
      refine x_iinc (1) dm_52_50 rfl (by decide) (Nat.le_of_ble_eq_true rfl) ?_
      refine x_goto 28 dm_52_53 rfl ?_
      exact im_lsub [(0, .inr (some j)), (1, .inl y1), (2, .inl _)] (im_sb_c rfl (im_sb_c rfl (im_sb_c rfl im_sb_n))) (ih y1 _ _)
/-- FencedModules$Sandbox.takeMail()I -/
def fn_52 (j : Nat) (h : im_H) : Option (Int32 × im_H) :=
  if h.2.1 j = (0, 5) then (if 0 < (im_gI h j 9) then (((im_gR h j 7)).bind fun q3 => if im_in h 1 q3 (0 : Int32) then (let v5 : Int32 := (im_gI h q3 ((0 : Int32)).toNatClampNeg); let h6 : im_H := im_pI h j 9 ((im_gI h j 9) - (1 : Int32)); fn_52_28 j 1000 v5 (0 : Int32) h6) else none) else (some ((-1 : Int32), h))) else none
set_option maxRecDepth 100000 in
set_option maxHeartbeats 4000000 in
theorem tn_52 (j : Nat) (h : im_H) : im_Go im_zI 0 fm_52 0 (im_en 0 [.inr (some j)]) [] h (fn_52 j h) := by
  unfold fn_52
  refine x_aload_n dm_52_0 rfl ?_
  refine im_chk _ (fun hk1 => ?_)
  refine x_getI dm_52_1 fl_5_55 rfl rfl hk1 ?_
  refine x_if_gt 9 dm_52_4 rfl (fun c2 => ?_) (fun c2 => ?_)
  · refine x_aload_n dm_52_9 rfl ?_
    refine x_getR dm_52_10 fl_5_23 rfl rfl hk1 ?_
    refine x_iconst (0) dm_52_13 (by decide) ?_
    refine im_bind (fun q3 hq3 => ?_)
    refine im_chk _ (fun hi4 => ?_)
    refine x_iaload dm_52_14 hq3 hi4 ?_
    refine x_istore_n dm_52_15 (Nat.le_of_ble_eq_true rfl) ?_
    refine x_aload_n dm_52_16 rfl ?_
    refine x_dup dm_52_17 ?_
    refine x_getI dm_52_18 fl_5_55 rfl rfl hk1 ?_
    refine x_iconst (1) dm_52_21 (by decide) ?_
    refine x_isub dm_52_22 ?_
    refine x_putI dm_52_23 fl_5_55 rfl rfl hk1 ?_
    refine x_iconst (0) dm_52_26 (by decide) ?_
    refine x_istore_n dm_52_27 (Nat.le_of_ble_eq_true rfl) ?_
    exact im_lsub [(0, .inr (some j)), (1, .inl _), (2, .inl (0 : Int32))] (im_sb_c rfl (im_sb_c rfl (im_sb_c rfl im_sb_n))) (tn_52_28 j 1000 _ (0 : Int32) _)
  · refine x_iconst (-1) dm_52_7 (by decide) ?_
    exact x_ireturn dm_52_8 rfl
/-- FencedModules$Sandbox.putOut(I)V -/
def fn_53 (j : Nat) (x1 : Int32) (h : im_H) : Option (im_H) :=
  if h.2.1 j = (0, 5) then (((im_gR h j 8)).bind fun q2 => if im_in h 1 q2 ((im_gI h j 10) &&& (7 : Int32)) then (let h4 : im_H := im_pI h q2 (((im_gI h j 10) &&& (7 : Int32))).toNatClampNeg x1; let h5 : im_H := im_pI h4 j 10 ((im_gI h4 j 10) + (1 : Int32)); some h5) else none) else none
set_option maxRecDepth 100000 in
set_option maxHeartbeats 4000000 in
theorem tn_53 (j : Nat) (x1 : Int32) (h : im_H) : im_Go im_zV 0 fm_53 0 (im_en 0 [.inr (some j), .inl x1]) [] h (fn_53 j x1 h) := by
  unfold fn_53
  refine x_aload_n dm_53_0 rfl ?_
  refine im_chk _ (fun hk1 => ?_)
  refine x_getR dm_53_1 fl_5_26 rfl rfl hk1 ?_
  refine x_aload_n dm_53_4 rfl ?_
  refine x_getI dm_53_5 fl_5_58 rfl rfl hk1 ?_
  refine x_bipush (7) dm_53_8 (by decide) ?_
  refine x_iand dm_53_10 ?_
  refine x_iload_n dm_53_11 rfl ?_
  refine im_bind (fun q2 hq2 => ?_)
  refine im_chk _ (fun hi3 => ?_)
  refine x_iastore dm_53_12 hq2 hi3 ?_
  refine x_aload_n dm_53_13 rfl ?_
  refine x_dup dm_53_14 ?_
  refine x_getI dm_53_15 fl_5_58 rfl rfl hk1 ?_
  refine x_iconst (1) dm_53_18 (by decide) ?_
  refine x_iadd dm_53_19 ?_
  refine x_putI dm_53_20 fl_5_58 rfl rfl hk1 ?_
  exact x_return dm_53_23 rfl
/-- FencedModules$Sandbox.tellOutput(I)I -/
def fn_54 (j : Nat) (x1 : Int32) (h : im_H) : Option (Int32 × im_H) :=
  if x1 = (-1 : Int32) then (if h.2.1 j = (0, 5) then (some ((im_gI h j 10), h)) else none) else (if x1 < 0 then (some ((0 : Int32), h)) else (if (8 : Int32) ≤ x1 then (some ((0 : Int32), h)) else (if h.2.1 j = (0, 5) then (if x1 < (im_gI h j 10) then (((im_gR h j 8)).bind fun q7 => if im_in h 1 q7 ((((im_gI h j 10) - (1 : Int32)) - x1) &&& (7 : Int32)) then (some ((im_gI h q7 (((((im_gI h j 10) - (1 : Int32)) - x1) &&& (7 : Int32))).toNatClampNeg), h)) else none) else (some ((0 : Int32), h))) else none)))
set_option maxRecDepth 100000 in
set_option maxHeartbeats 4000000 in
theorem tn_54 (j : Nat) (x1 : Int32) (h : im_H) : im_Go im_zI 0 fm_54 0 (im_en 0 [.inr (some j), .inl x1]) [] h (fn_54 j x1 h) := by
  unfold fn_54
  refine x_iload_n dm_54_0 rfl ?_
  refine x_iconst (-1) dm_54_1 (by decide) ?_
  refine x_icmp_ne 10 dm_54_2 rfl (fun c1 => ?_) (fun c1 => ?_)
  · refine x_aload_n dm_54_5 rfl ?_
    refine im_chk _ (fun hk2 => ?_)
    refine x_getI dm_54_6 fl_5_58 rfl rfl hk2 ?_
    exact x_ireturn dm_54_9 rfl
  · refine x_iload_n dm_54_10 rfl ?_
    refine x_if_lt 28 dm_54_11 rfl (fun c3 => ?_) (fun c3 => ?_)
    · refine x_iconst (0) dm_54_28 (by decide) ?_
      exact x_ireturn dm_54_29 rfl
    · refine x_iload_n dm_54_14 rfl ?_
      refine x_bipush (8) dm_54_15 (by decide) ?_
      refine x_icmp_ge 28 dm_54_17 rfl (fun c4 => ?_) (fun c4 => ?_)
      · refine x_iconst (0) dm_54_28 (by decide) ?_
        exact x_ireturn dm_54_29 rfl
      · refine x_iload_n dm_54_20 rfl ?_
        refine x_aload_n dm_54_21 rfl ?_
        refine im_chk _ (fun hk5 => ?_)
        refine x_getI dm_54_22 fl_5_58 rfl rfl hk5 ?_
        refine x_icmp_lt 30 dm_54_25 rfl (fun c6 => ?_) (fun c6 => ?_)
        · refine x_aload_n dm_54_30 rfl ?_
          refine x_getR dm_54_31 fl_5_26 rfl rfl hk5 ?_
          refine x_aload_n dm_54_34 rfl ?_
          refine x_getI dm_54_35 fl_5_58 rfl rfl hk5 ?_
          refine x_iconst (1) dm_54_38 (by decide) ?_
          refine x_isub dm_54_39 ?_
          refine x_iload_n dm_54_40 rfl ?_
          refine x_isub dm_54_41 ?_
          refine x_bipush (7) dm_54_42 (by decide) ?_
          refine x_iand dm_54_44 ?_
          refine im_bind (fun q7 hq7 => ?_)
          refine im_chk _ (fun hi8 => ?_)
          refine x_iaload dm_54_45 hq7 hi8 ?_
          exact x_ireturn dm_54_46 rfl
        · refine x_iconst (0) dm_54_28 (by decide) ?_
          exact x_ireturn dm_54_29 rfl
/-- FencedModules$Source.addLine(IIII)Z -/
def fn_57 (j : Nat) (x1 : Int32) (x2 : Int32) (x3 : Int32) (x4 : Int32) (h : im_H) : Option (Int32 × im_H) :=
  if x1 < 0 then (some ((0 : Int32), h)) else (if (15 : Int32) < x1 then (some ((0 : Int32), h)) else (if x2 < 0 then (some ((0 : Int32), h)) else (if (7 : Int32) < x2 then (some ((0 : Int32), h)) else (if x3 < 0 then (some ((0 : Int32), h)) else (if x3 ≤ (7 : Int32) then (if x4 < (-2097152 : Int32) then (some ((0 : Int32), h)) else (if (2097151 : Int32) < x4 then (some ((0 : Int32), h)) else (if h.2.1 j = (0, 6) then (if (im_gI h j 5) < (24 : Int32) then (((im_gR h j 0)).bind fun q11 => if im_in h 1 q11 (im_gI h j 5) then (let h13 : im_H := im_pI h q11 ((im_gI h j 5)).toNatClampNeg x1; ((im_gR h j 1)).bind fun q14 => if im_in h 1 q14 (im_gI h13 j 5) then (let h16 : im_H := im_pI h13 q14 ((im_gI h13 j 5)).toNatClampNeg x2; ((im_gR h j 2)).bind fun q17 => if im_in h 1 q17 (im_gI h16 j 5) then (let h19 : im_H := im_pI h16 q17 ((im_gI h16 j 5)).toNatClampNeg x3; ((im_gR h j 3)).bind fun q20 => if im_in h 1 q20 (im_gI h19 j 5) then (let h22 : im_H := im_pI h19 q20 ((im_gI h19 j 5)).toNatClampNeg x4; let h23 : im_H := im_pI h22 j 5 ((im_gI h22 j 5) + (1 : Int32)); some ((1 : Int32), h23)) else none) else none) else none) else none) else (some ((0 : Int32), h))) else none))) else (some ((0 : Int32), h)))))))
set_option maxRecDepth 100000 in
set_option maxHeartbeats 4000000 in
theorem tn_57 (j : Nat) (x1 : Int32) (x2 : Int32) (x3 : Int32) (x4 : Int32) (h : im_H) : im_Go im_zI 0 fm_57 0 (im_en 0 [.inr (some j), .inl x1, .inl x2, .inl x3, .inl x4]) [] h (fn_57 j x1 x2 x3 x4 h) := by
  unfold fn_57
  refine x_iload_n dm_57_0 rfl ?_
  refine x_if_lt 30 dm_57_1 rfl (fun c1 => ?_) (fun c1 => ?_)
  · refine x_iconst (0) dm_57_30 (by decide) ?_
    exact x_zreturn dm_57_31 rfl (by decide)
  · refine x_iload_n dm_57_4 rfl ?_
    refine x_bipush (15) dm_57_5 (by decide) ?_
    refine x_icmp_gt 30 dm_57_7 rfl (fun c2 => ?_) (fun c2 => ?_)
    · refine x_iconst (0) dm_57_30 (by decide) ?_
      exact x_zreturn dm_57_31 rfl (by decide)
    · refine x_iload_n dm_57_10 rfl ?_
      refine x_if_lt 30 dm_57_11 rfl (fun c3 => ?_) (fun c3 => ?_)
      · refine x_iconst (0) dm_57_30 (by decide) ?_
        exact x_zreturn dm_57_31 rfl (by decide)
      · refine x_iload_n dm_57_14 rfl ?_
        refine x_bipush (7) dm_57_15 (by decide) ?_
        refine x_icmp_gt 30 dm_57_17 rfl (fun c4 => ?_) (fun c4 => ?_)
        · refine x_iconst (0) dm_57_30 (by decide) ?_
          exact x_zreturn dm_57_31 rfl (by decide)
        · refine x_iload_n dm_57_20 rfl ?_
          refine x_if_lt 30 dm_57_21 rfl (fun c5 => ?_) (fun c5 => ?_)
          · refine x_iconst (0) dm_57_30 (by decide) ?_
            exact x_zreturn dm_57_31 rfl (by decide)
          · refine x_iload_n dm_57_24 rfl ?_
            refine x_bipush (7) dm_57_25 (by decide) ?_
            refine x_icmp_le 32 dm_57_27 rfl (fun c6 => ?_) (fun c6 => ?_)
            · refine x_iload dm_57_32 rfl ?_
              refine x_ldc (-2097152) dm_57_34 kc_6_37 ?_
              refine x_icmp_lt 55 dm_57_36 rfl (fun c7 => ?_) (fun c7 => ?_)
              · refine x_iconst (0) dm_57_55 (by decide) ?_
                exact x_zreturn dm_57_56 rfl (by decide)
              · refine x_iload dm_57_39 rfl ?_
                refine x_ldc (2097151) dm_57_41 kc_6_38 ?_
                refine x_icmp_gt 55 dm_57_43 rfl (fun c8 => ?_) (fun c8 => ?_)
                · refine x_iconst (0) dm_57_55 (by decide) ?_
                  exact x_zreturn dm_57_56 rfl (by decide)
                · refine x_aload_n dm_57_46 rfl ?_
                  refine im_chk _ (fun hk9 => ?_)
                  refine x_getI dm_57_47 fl_6_31 rfl rfl hk9 ?_
                  refine x_bipush (24) dm_57_50 (by decide) ?_
                  refine x_icmp_lt 57 dm_57_52 rfl (fun c10 => ?_) (fun c10 => ?_)
                  · refine x_aload_n dm_57_57 rfl ?_
                    refine x_getR dm_57_58 fl_6_9 rfl rfl hk9 ?_
                    refine x_aload_n dm_57_61 rfl ?_
                    refine x_getI dm_57_62 fl_6_31 rfl rfl hk9 ?_
                    refine x_iload_n dm_57_65 rfl ?_
                    refine im_bind (fun q11 hq11 => ?_)
                    refine im_chk _ (fun hi12 => ?_)
                    refine x_iastore dm_57_66 hq11 hi12 ?_
                    refine x_aload_n dm_57_67 rfl ?_
                    refine x_getR dm_57_68 fl_6_13 rfl rfl hk9 ?_
                    refine x_aload_n dm_57_71 rfl ?_
                    refine x_getI dm_57_72 fl_6_31 rfl rfl hk9 ?_
                    refine x_iload_n dm_57_75 rfl ?_
                    refine im_bind (fun q14 hq14 => ?_)
                    refine im_chk _ (fun hi15 => ?_)
                    refine x_iastore dm_57_76 hq14 hi15 ?_
                    refine x_aload_n dm_57_77 rfl ?_
                    refine x_getR dm_57_78 fl_6_16 rfl rfl hk9 ?_
                    refine x_aload_n dm_57_81 rfl ?_
                    refine x_getI dm_57_82 fl_6_31 rfl rfl hk9 ?_
                    refine x_iload_n dm_57_85 rfl ?_
                    refine im_bind (fun q17 hq17 => ?_)
                    refine im_chk _ (fun hi18 => ?_)
                    refine x_iastore dm_57_86 hq17 hi18 ?_
                    refine x_aload_n dm_57_87 rfl ?_
                    refine x_getR dm_57_88 fl_6_19 rfl rfl hk9 ?_
                    refine x_aload_n dm_57_91 rfl ?_
                    refine x_getI dm_57_92 fl_6_31 rfl rfl hk9 ?_
                    refine x_iload dm_57_95 rfl ?_
                    refine im_bind (fun q20 hq20 => ?_)
                    refine im_chk _ (fun hi21 => ?_)
                    refine x_iastore dm_57_97 hq20 hi21 ?_
                    refine x_aload_n dm_57_98 rfl ?_
                    refine x_dup dm_57_99 ?_
                    refine x_getI dm_57_100 fl_6_31 rfl rfl hk9 ?_
                    refine x_iconst (1) dm_57_103 (by decide) ?_
                    refine x_iadd dm_57_104 ?_
                    refine x_putI dm_57_105 fl_6_31 rfl rfl hk9 ?_
                    refine x_iconst (1) dm_57_108 (by decide) ?_
                    exact x_zreturn dm_57_109 rfl (by decide)
                  · refine x_iconst (0) dm_57_55 (by decide) ?_
                    exact x_zreturn dm_57_56 rfl (by decide)
            · refine x_iconst (0) dm_57_30 (by decide) ?_
              exact x_zreturn dm_57_31 rfl (by decide)
/-- FencedModules$Source.setLabel(I)Z -/
def fn_58 (j : Nat) (x1 : Int32) (h : im_H) : Option (Int32 × im_H) :=
  if x1 < 0 then (some ((0 : Int32), h)) else (if (8 : Int32) ≤ x1 then (some ((0 : Int32), h)) else (if h.2.1 j = (0, 6) then (((im_gR h j 4)).bind fun q4 => if im_in h 1 q4 x1 then (if (im_gI h q4 (x1).toNatClampNeg) = (-1 : Int32) then (let h7 : im_H := im_pI h q4 (x1).toNatClampNeg (im_gI h j 5); some ((1 : Int32), h7)) else (some ((0 : Int32), h))) else none) else none))
set_option maxRecDepth 100000 in
set_option maxHeartbeats 4000000 in
theorem tn_58 (j : Nat) (x1 : Int32) (h : im_H) : im_Go im_zI 0 fm_58 0 (im_en 0 [.inr (some j), .inl x1]) [] h (fn_58 j x1 h) := by
  unfold fn_58
  refine x_iload_n dm_58_0 rfl ?_
  refine x_if_lt 20 dm_58_1 rfl (fun c1 => ?_) (fun c1 => ?_)
  · refine x_iconst (0) dm_58_20 (by decide) ?_
    exact x_zreturn dm_58_21 rfl (by decide)
  · refine x_iload_n dm_58_4 rfl ?_
    refine x_bipush (8) dm_58_5 (by decide) ?_
    refine x_icmp_ge 20 dm_58_7 rfl (fun c2 => ?_) (fun c2 => ?_)
    · refine x_iconst (0) dm_58_20 (by decide) ?_
      exact x_zreturn dm_58_21 rfl (by decide)
    · refine x_aload_n dm_58_10 rfl ?_
      refine im_chk _ (fun hk3 => ?_)
      refine x_getR dm_58_11 fl_6_22 rfl rfl hk3 ?_
      refine x_iload_n dm_58_14 rfl ?_
      refine im_bind (fun q4 hq4 => ?_)
      refine im_chk _ (fun hi5 => ?_)
      refine x_iaload dm_58_15 hq4 hi5 ?_
      refine x_iconst (-1) dm_58_16 (by decide) ?_
      refine x_icmp_eq 22 dm_58_17 rfl (fun c6 => ?_) (fun c6 => ?_)
      · refine x_aload_n dm_58_22 rfl ?_
        refine x_getR dm_58_23 fl_6_22 rfl rfl hk3 ?_
        refine x_iload_n dm_58_26 rfl ?_
        refine x_aload_n dm_58_27 rfl ?_
        refine x_getI dm_58_28 fl_6_31 rfl rfl hk3 ?_
        refine x_iastore dm_58_31 hq4 hi5 ?_
        refine x_iconst (1) dm_58_32 (by decide) ?_
        exact x_zreturn dm_58_33 rfl (by decide)
      · refine x_iconst (0) dm_58_20 (by decide) ?_
        exact x_zreturn dm_58_21 rfl (by decide)
/-- FencedModules$Source.count()I -/
def fn_59 (j : Nat) (h : im_H) : Option (Int32 × im_H) :=
  if h.2.1 j = (0, 6) then (some ((im_gI h j 5), h)) else none
set_option maxRecDepth 100000 in
set_option maxHeartbeats 4000000 in
theorem tn_59 (j : Nat) (h : im_H) : im_Go im_zI 0 fm_59 0 (im_en 0 [.inr (some j)]) [] h (fn_59 j h) := by
  unfold fn_59
  refine x_aload_n dm_59_0 rfl ?_
  refine im_chk _ (fun hk1 => ?_)
  refine x_getI dm_59_1 fl_6_31 rfl rfl hk1 ?_
  exact x_ireturn dm_59_4 rfl
/-- FencedModules$Source.hasLine(I)Z -/
def fn_60 (j : Nat) (x1 : Int32) (h : im_H) : Option (Int32 × im_H) :=
  if x1 < 0 then (some ((0 : Int32), h)) else (if h.2.1 j = (0, 6) then (if (im_gI h j 5) ≤ x1 then (some ((0 : Int32), h)) else (some ((1 : Int32), h))) else none)
set_option maxRecDepth 100000 in
set_option maxHeartbeats 4000000 in
theorem tn_60 (j : Nat) (x1 : Int32) (h : im_H) : im_Go im_zI 0 fm_60 0 (im_en 0 [.inr (some j), .inl x1]) [] h (fn_60 j x1 h) := by
  unfold fn_60
  refine x_iload_n dm_60_0 rfl ?_
  refine x_if_lt 16 dm_60_1 rfl (fun c1 => ?_) (fun c1 => ?_)
  · refine x_iconst (0) dm_60_16 (by decide) ?_
    exact x_zreturn dm_60_17 rfl (by decide)
  · refine x_iload_n dm_60_4 rfl ?_
    refine x_aload_n dm_60_5 rfl ?_
    refine im_chk _ (fun hk2 => ?_)
    refine x_getI dm_60_6 fl_6_31 rfl rfl hk2 ?_
    refine x_icmp_ge 16 dm_60_9 rfl (fun c3 => ?_) (fun c3 => ?_)
    · refine x_iconst (0) dm_60_16 (by decide) ?_
      exact x_zreturn dm_60_17 rfl (by decide)
    · refine x_iconst (1) dm_60_12 (by decide) ?_
      refine x_goto 17 dm_60_13 rfl ?_
      exact x_zreturn dm_60_17 rfl (by decide)
/-- FencedModules$Source.isLabelSet(I)Z -/
def fn_65 (j : Nat) (x1 : Int32) (h : im_H) : Option (Int32 × im_H) :=
  if x1 < 0 then (some ((0 : Int32), h)) else (if (8 : Int32) ≤ x1 then (some ((0 : Int32), h)) else (if h.2.1 j = (0, 6) then (((im_gR h j 4)).bind fun q4 => if im_in h 1 q4 x1 then (if (im_gI h q4 (x1).toNatClampNeg) = (-1 : Int32) then (some ((0 : Int32), h)) else (some ((1 : Int32), h))) else none) else none))
set_option maxRecDepth 100000 in
set_option maxHeartbeats 4000000 in
theorem tn_65 (j : Nat) (x1 : Int32) (h : im_H) : im_Go im_zI 0 fm_65 0 (im_en 0 [.inr (some j), .inl x1]) [] h (fn_65 j x1 h) := by
  unfold fn_65
  refine x_iload_n dm_65_0 rfl ?_
  refine x_if_lt 24 dm_65_1 rfl (fun c1 => ?_) (fun c1 => ?_)
  · refine x_iconst (0) dm_65_24 (by decide) ?_
    exact x_zreturn dm_65_25 rfl (by decide)
  · refine x_iload_n dm_65_4 rfl ?_
    refine x_bipush (8) dm_65_5 (by decide) ?_
    refine x_icmp_ge 24 dm_65_7 rfl (fun c2 => ?_) (fun c2 => ?_)
    · refine x_iconst (0) dm_65_24 (by decide) ?_
      exact x_zreturn dm_65_25 rfl (by decide)
    · refine x_aload_n dm_65_10 rfl ?_
      refine im_chk _ (fun hk3 => ?_)
      refine x_getR dm_65_11 fl_6_22 rfl rfl hk3 ?_
      refine x_iload_n dm_65_14 rfl ?_
      refine im_bind (fun q4 hq4 => ?_)
      refine im_chk _ (fun hi5 => ?_)
      refine x_iaload dm_65_15 hq4 hi5 ?_
      refine x_iconst (-1) dm_65_16 (by decide) ?_
      refine x_icmp_eq 24 dm_65_17 rfl (fun c6 => ?_) (fun c6 => ?_)
      · refine x_iconst (0) dm_65_24 (by decide) ?_
        exact x_zreturn dm_65_25 rfl (by decide)
      · refine x_iconst (1) dm_65_20 (by decide) ?_
        refine x_goto 25 dm_65_21 rfl ?_
        exact x_zreturn dm_65_25 rfl (by decide)
/-- FencedModules$Source.wordsOf(I)I -/
def fn_69 (x0 : Int32) (h : im_H) : Option (Int32 × im_H) :=
  if x0 = 8 then (some ((4 : Int32), h)) else (if x0 = 9 then (some ((4 : Int32), h)) else (if x0 = 13 then (some ((3 : Int32), h)) else (some ((1 : Int32), h))))
set_option maxRecDepth 100000 in
set_option maxHeartbeats 4000000 in
theorem tn_69 (x0 : Int32) (h : im_H) : im_Go im_zI 0 fm_69 0 (im_en 0 [.inl x0]) [] h (fn_69 x0 h) := by
  unfold fn_69
  refine x_iload_n dm_69_0 rfl ?_
  refine im_test _ (fun c1 => ?_) (fun c1 => ?_)
  · refine x_lookup 36 dm_69_1 rfl (by rw [c1]) rfl ?_
    refine x_iconst (4) dm_69_36 (by decide) ?_
    exact x_ireturn dm_69_37 rfl
  refine im_test _ (fun c2 => ?_) (fun c2 => ?_)
  · refine x_lookup 36 dm_69_1 rfl (by rw [c2]) rfl ?_
    refine x_iconst (4) dm_69_36 (by decide) ?_
    exact x_ireturn dm_69_37 rfl
  refine im_test _ (fun c3 => ?_) (fun c3 => ?_)
  · refine x_lookup 38 dm_69_1 rfl (by rw [c3]) rfl ?_
    refine x_iconst (3) dm_69_38 (by decide) ?_
    exact x_ireturn dm_69_39 rfl
  refine x_lookup 40 dm_69_1 rfl (im_lk3 c1 c2 c3) rfl ?_
  refine x_iconst (1) dm_69_40 (by decide) ?_
  exact x_ireturn dm_69_41 rfl
/-- FencedModules$Words.opOf(I)I -/
def fn_143 (x0 : Int32) (h : im_H) : Option (Int32 × im_H) :=
  some ((x0 &&& (15 : Int32)), h)
set_option maxRecDepth 100000 in
set_option maxHeartbeats 4000000 in
theorem tn_143 (x0 : Int32) (h : im_H) : im_Go im_zI 0 fm_143 0 (im_en 0 [.inl x0]) [] h (fn_143 x0 h) := by
  unfold fn_143
  refine x_iload_n dm_143_0 rfl ?_
  refine x_bipush (15) dm_143_1 (by decide) ?_
  refine x_iand dm_143_3 ?_
  exact x_ireturn dm_143_4 rfl
/-- FencedModules$Words.aOf(I)I -/
def fn_144 (x0 : Int32) (h : im_H) : Option (Int32 × im_H) :=
  some (((x0 >>> ((4 : Int32) &&& 31)) &&& (7 : Int32)), h)
set_option maxRecDepth 100000 in
set_option maxHeartbeats 4000000 in
theorem tn_144 (x0 : Int32) (h : im_H) : im_Go im_zI 0 fm_144 0 (im_en 0 [.inl x0]) [] h (fn_144 x0 h) := by
  unfold fn_144
  refine x_iload_n dm_144_0 rfl ?_
  refine x_iconst (4) dm_144_1 (by decide) ?_
  refine x_ishr dm_144_2 ?_
  refine x_bipush (7) dm_144_3 (by decide) ?_
  refine x_iand dm_144_5 ?_
  exact x_ireturn dm_144_6 rfl
/-- FencedModules$Words.bOf(I)I -/
def fn_145 (x0 : Int32) (h : im_H) : Option (Int32 × im_H) :=
  some (((x0 >>> ((7 : Int32) &&& 31)) &&& (7 : Int32)), h)
set_option maxRecDepth 100000 in
set_option maxHeartbeats 4000000 in
theorem tn_145 (x0 : Int32) (h : im_H) : im_Go im_zI 0 fm_145 0 (im_en 0 [.inl x0]) [] h (fn_145 x0 h) := by
  unfold fn_145
  refine x_iload_n dm_145_0 rfl ?_
  refine x_bipush (7) dm_145_1 (by decide) ?_
  refine x_ishr dm_145_3 ?_
  refine x_bipush (7) dm_145_4 (by decide) ?_
  refine x_iand dm_145_6 ?_
  exact x_ireturn dm_145_7 rfl
/-- FencedModules$Words.iOf(I)I -/
def fn_146 (x0 : Int32) (h : im_H) : Option (Int32 × im_H) :=
  some ((x0 >>> ((10 : Int32) &&& 31)), h)
set_option maxRecDepth 100000 in
set_option maxHeartbeats 4000000 in
theorem tn_146 (x0 : Int32) (h : im_H) : im_Go im_zI 0 fm_146 0 (im_en 0 [.inl x0]) [] h (fn_146 x0 h) := by
  unfold fn_146
  refine x_iload_n dm_146_0 rfl ?_
  refine x_bipush (10) dm_146_1 (by decide) ?_
  refine x_ishr dm_146_3 ?_
  exact x_ireturn dm_146_4 rfl
/-- FencedModules$Words.join(IIII)I -/
def fn_147 (x0 : Int32) (x1 : Int32) (x2 : Int32) (x3 : Int32) (h : im_H) : Option (Int32 × im_H) :=
  some (((((x3 <<< ((10 : Int32) &&& 31)) ||| (x2 <<< ((7 : Int32) &&& 31))) ||| (x1 <<< ((4 : Int32) &&& 31))) ||| x0), h)
set_option maxRecDepth 100000 in
set_option maxHeartbeats 4000000 in
theorem tn_147 (x0 : Int32) (x1 : Int32) (x2 : Int32) (x3 : Int32) (h : im_H) : im_Go im_zI 0 fm_147 0 (im_en 0 [.inl x0, .inl x1, .inl x2, .inl x3]) [] h (fn_147 x0 x1 x2 x3 h) := by
  unfold fn_147
  refine x_iload_n dm_147_0 rfl ?_
  refine x_bipush (10) dm_147_1 (by decide) ?_
  refine x_ishl dm_147_3 ?_
  refine x_iload_n dm_147_4 rfl ?_
  refine x_bipush (7) dm_147_5 (by decide) ?_
  refine x_ishl dm_147_7 ?_
  refine x_ior dm_147_8 ?_
  refine x_iload_n dm_147_9 rfl ?_
  refine x_iconst (4) dm_147_10 (by decide) ?_
  refine x_ishl dm_147_11 ?_
  refine x_ior dm_147_12 ?_
  refine x_iload_n dm_147_13 rfl ?_
  refine x_ior dm_147_14 ?_
  exact x_ireturn dm_147_15 rfl
/-- FencedModules$Words.result(IIII)I -/
def fn_148 (x0 : Int32) (x1 : Int32) (x2 : Int32) (x3 : Int32) (h : im_H) : Option (Int32 × im_H) :=
  if x0 = 1 then (some (x3, h)) else (if x0 = 2 then (some ((x2 + x3), h)) else (if x0 = 3 then (some ((x1 + x2), h)) else (if x0 = 4 then (some ((x1 - x2), h)) else (if x0 = 5 then (some ((x1 ^^^ x2), h)) else (if x0 = 6 then (some ((x2 &&& x3), h)) else (if x0 = 7 then (some ((x2 ||| x3), h)) else (some (x1, h))))))))
set_option maxRecDepth 100000 in
set_option maxHeartbeats 4000000 in
theorem tn_148 (x0 : Int32) (x1 : Int32) (x2 : Int32) (x3 : Int32) (h : im_H) : im_Go im_zI 0 fm_148 0 (im_en 0 [.inl x0, .inl x1, .inl x2, .inl x3]) [] h (fn_148 x0 x1 x2 x3 h) := by
  unfold fn_148
  refine x_iload_n dm_148_0 rfl ?_
  refine im_test _ (fun c1 => ?_) (fun c1 => ?_)
  · refine x_tabIn 1 44 dm_148_1 c1 (by decide) (by decide) rfl rfl ?_
    refine x_iload_n dm_148_44 rfl ?_
    exact x_ireturn dm_148_45 rfl
  refine im_test _ (fun c2 => ?_) (fun c2 => ?_)
  · refine x_tabIn 2 46 dm_148_1 c2 (by decide) (by decide) rfl rfl ?_
    refine x_iload_n dm_148_46 rfl ?_
    refine x_iload_n dm_148_47 rfl ?_
    refine x_iadd dm_148_48 ?_
    exact x_ireturn dm_148_49 rfl
  refine im_test _ (fun c3 => ?_) (fun c3 => ?_)
  · refine x_tabIn 3 50 dm_148_1 c3 (by decide) (by decide) rfl rfl ?_
    refine x_iload_n dm_148_50 rfl ?_
    refine x_iload_n dm_148_51 rfl ?_
    refine x_iadd dm_148_52 ?_
    exact x_ireturn dm_148_53 rfl
  refine im_test _ (fun c4 => ?_) (fun c4 => ?_)
  · refine x_tabIn 4 54 dm_148_1 c4 (by decide) (by decide) rfl rfl ?_
    refine x_iload_n dm_148_54 rfl ?_
    refine x_iload_n dm_148_55 rfl ?_
    refine x_isub dm_148_56 ?_
    exact x_ireturn dm_148_57 rfl
  refine im_test _ (fun c5 => ?_) (fun c5 => ?_)
  · refine x_tabIn 5 58 dm_148_1 c5 (by decide) (by decide) rfl rfl ?_
    refine x_iload_n dm_148_58 rfl ?_
    refine x_iload_n dm_148_59 rfl ?_
    refine x_ixor dm_148_60 ?_
    exact x_ireturn dm_148_61 rfl
  refine im_test _ (fun c6 => ?_) (fun c6 => ?_)
  · refine x_tabIn 6 62 dm_148_1 c6 (by decide) (by decide) rfl rfl ?_
    refine x_iload_n dm_148_62 rfl ?_
    refine x_iload_n dm_148_63 rfl ?_
    refine x_iand dm_148_64 ?_
    exact x_ireturn dm_148_65 rfl
  refine im_test _ (fun c7 => ?_) (fun c7 => ?_)
  · refine x_tabIn 7 66 dm_148_1 c7 (by decide) (by decide) rfl rfl ?_
    refine x_iload_n dm_148_66 rfl ?_
    refine x_iload_n dm_148_67 rfl ?_
    refine x_ior dm_148_68 ?_
    exact x_ireturn dm_148_69 rfl
  refine x_tabOut 70 dm_148_1 (im_swout (1) 7 (by decide) (by decide) (fun i hi => match i, hi with | 0, _ => c1 | 1, _ => c2 | 2, _ => c3 | 3, _ => c4 | 4, _ => c5 | 5, _ => c6 | 6, _ => c7 | i + 7, hi => absurd hi (by omega))) rfl ?_
  refine x_iload_n dm_148_70 rfl ?_
  exact x_ireturn dm_148_71 rfl
def fn_149_28 (h : im_H) : Option (Int32 × im_H) :=
  some ((1 : Int32), h)
set_option maxRecDepth 100000 in
set_option maxHeartbeats 4000000 in
theorem tn_149_28 (h : im_H) : im_Go im_zI 0 fm_149 28 [] [] h (fn_149_28 h) := by
  unfold fn_149_28
  refine x_iconst (1) dm_149_28 (by decide) ?_
  refine x_goto 33 dm_149_29 rfl ?_
  exact x_zreturn dm_149_33 rfl (by decide)
def fn_149_17 (y0 : Int32) (y1 : Int32) (y2 : Int32) (h : im_H) : Option (Int32 × im_H) :=
  if y0 = (11 : Int32) then (if y2 ≤ y1 then (some ((0 : Int32), h)) else (fn_149_28 h)) else (some ((0 : Int32), h))
set_option maxRecDepth 100000 in
set_option maxHeartbeats 4000000 in
theorem tn_149_17 (y0 : Int32) (y1 : Int32) (y2 : Int32) (h : im_H) : im_Go im_zI 0 fm_149 17 [(0, .inl y0), (1, .inl y1), (2, .inl y2)] [] h (fn_149_17 y0 y1 y2 h) := by
  unfold fn_149_17
  refine x_iload_n dm_149_17 rfl ?_
  refine x_bipush (11) dm_149_18 (by decide) ?_
  refine x_icmp_ne 32 dm_149_20 rfl (fun c1 => ?_) (fun c1 => ?_)
  · refine x_iload_n dm_149_23 rfl ?_
    refine x_iload_n dm_149_24 rfl ?_
    refine x_icmp_ge 32 dm_149_25 rfl (fun c2 => ?_) (fun c2 => ?_)
    · refine x_iconst (0) dm_149_32 (by decide) ?_
      exact x_zreturn dm_149_33 rfl (by decide)
    · exact im_lsub [] im_sb_n (tn_149_28 h)
  · refine x_iconst (0) dm_149_32 (by decide) ?_
    exact x_zreturn dm_149_33 rfl (by decide)
/-- FencedModules$Words.branches(III)Z -/
def fn_149 (x0 : Int32) (x1 : Int32) (x2 : Int32) (h : im_H) : Option (Int32 × im_H) :=
  if x0 = (12 : Int32) then (fn_149_28 h) else (if x0 = (10 : Int32) then (if x1 = x2 then (fn_149_28 h) else (fn_149_17 x0 x1 x2 h)) else (fn_149_17 x0 x1 x2 h))
set_option maxRecDepth 100000 in
set_option maxHeartbeats 4000000 in
theorem tn_149 (x0 : Int32) (x1 : Int32) (x2 : Int32) (h : im_H) : im_Go im_zI 0 fm_149 0 (im_en 0 [.inl x0, .inl x1, .inl x2]) [] h (fn_149 x0 x1 x2 h) := by
  unfold fn_149
  refine x_iload_n dm_149_0 rfl ?_
  refine x_bipush (12) dm_149_1 (by decide) ?_
  refine x_icmp_eq 28 dm_149_3 rfl (fun c1 => ?_) (fun c1 => ?_)
  · exact im_lsub [] im_sb_n (tn_149_28 h)
  · refine x_iload_n dm_149_6 rfl ?_
    refine x_bipush (10) dm_149_7 (by decide) ?_
    refine x_icmp_ne 17 dm_149_9 rfl (fun c2 => ?_) (fun c2 => ?_)
    · refine x_iload_n dm_149_12 rfl ?_
      refine x_iload_n dm_149_13 rfl ?_
      refine x_icmp_eq 28 dm_149_14 rfl (fun c3 => ?_) (fun c3 => ?_)
      · exact im_lsub [] im_sb_n (tn_149_28 h)
      · exact im_lsub [(0, .inl x0), (1, .inl x1), (2, .inl x2)] (im_sb_c rfl (im_sb_c rfl (im_sb_c rfl im_sb_n))) (tn_149_17 x0 x1 x2 h)
    · exact im_lsub [(0, .inl x0), (1, .inl x1), (2, .inl x2)] (im_sb_c rfl (im_sb_c rfl (im_sb_c rfl im_sb_n))) (tn_149_17 x0 x1 x2 h)
def fn_150_5  : Nat → Option Nat → Int32 → Int32 → Int32 → im_H → Option (im_H)
  | 0, _, _, _, _, _ => none
  | n + 1, y0, y1, y2, y3, h =>
    if y3 ≤ y2 then (some h) else ((y0).bind fun q2 => if im_in h 1 q2 y2 then (let h4 : im_H := im_pI h q2 (y2).toNatClampNeg y1; let v5 : Int32 := (y2 + (1 : Int32)); fn_150_5  n y0 y1 v5 y3 h4) else none)
set_option maxRecDepth 100000 in
set_option maxHeartbeats 4000000 in
theorem tn_150_5  : ∀ (n : Nat) (y0 : Option Nat) (y1 : Int32) (y2 : Int32) (y3 : Int32) (h : im_H), im_Go im_zV 0 fm_150 5 [(0, .inr y0), (1, .inl y1), (2, .inl y2), (3, .inl y3)] [] h (fn_150_5  n y0 y1 y2 y3 h)
  | 0, y0, y1, y2, y3, h => im_none
  | n + 1, y0, y1, y2, y3, h => by
    have ih := tn_150_5  n
    unfold fn_150_5
    refine x_iload_n dm_150_5 rfl ?_
    refine x_iload_n dm_150_6 rfl ?_
    refine x_icmp_ge 20 dm_150_7 rfl (fun c1 => ?_) (fun c1 => ?_)
    · exact x_return dm_150_20 rfl
    · refine x_aload_n dm_150_10 rfl ?_
      refine x_iload_n dm_150_11 rfl ?_
      refine x_iload_n dm_150_12 rfl ?_
      refine im_bind (fun q2 hq2 => ?_)
      refine im_chk _ (fun hi3 => ?_)
      refine x_iastore dm_150_13 hq2 hi3 ?_
      refine x_iinc (1) dm_150_14 rfl (by decide) (Nat.le_of_ble_eq_true rfl) ?_
      refine x_goto 5 dm_150_17 rfl ?_
      exact im_lsub [(0, .inr y0), (1, .inl y1), (2, .inl _), (3, .inl y3)] (im_sb_c rfl (im_sb_c rfl (im_sb_c rfl (im_sb_c rfl im_sb_n)))) (ih y0 y1 _ y3 _)
/-- java/util/Arrays.fill([II)V -/
def fn_150 (x0 : Option Nat) (x1 : Int32) (h : im_H) : Option (im_H) :=
  (x0).bind fun q1 => if (h.2.1 q1).1 = 1 then (let v3 : Int32 := (Int32.ofNat (h.2.1 q1).2); fn_150_5 1000 x0 x1 (0 : Int32) v3 h) else none
set_option maxRecDepth 100000 in
set_option maxHeartbeats 4000000 in
theorem tn_150 (x0 : Option Nat) (x1 : Int32) (h : im_H) : im_Go im_zV 0 fm_150 0 (im_en 0 [.inr x0, .inl x1]) [] h (fn_150 x0 x1 h) := by
  unfold fn_150
  refine x_iconst (0) dm_150_0 (by decide) ?_
  refine x_istore_n dm_150_1 (Nat.le_of_ble_eq_true rfl) ?_
  refine x_aload_n dm_150_2 rfl ?_
  refine im_bind (fun q1 hq1 => ?_)
  refine im_chk _ (fun hi2 => ?_)
  refine x_alen _ dm_150_3 hq1 hi2 rfl ?_
  refine x_istore_n dm_150_4 (Nat.le_of_ble_eq_true rfl) ?_
  exact im_lsub [(0, .inr x0), (1, .inl x1), (2, .inl (0 : Int32)), (3, .inl _)] (im_sb_c rfl (im_sb_c rfl (im_sb_c rfl (im_sb_c rfl im_sb_n)))) (tn_150_5 1000 x0 x1 (0 : Int32) _ h)
/-- FencedModules$CallList.<init>()V -/
def fn_0 (j : Nat) (h : im_H) : Option (im_H) :=
  if im_oa h [(0, .inr (some j))] [.inr (some j)] = true then (let h2 : im_H := im_nw h (1, 16) 16; if h2.2.1 j = (0, 0) then (let h4 : im_H := im_pR h2 j 0 (some h.1.1); if im_oa h4 [(0, .inr (some j))] [.inr (some j)] = true then (let h6 : im_H := im_nw h4 (1, 16) 16; if h6.2.1 j = (0, 0) then (let h8 : im_H := im_pR h6 j 1 (some h4.1.1); if im_oa h8 [(0, .inr (some j))] [.inr (some j)] = true then (let h10 : im_H := im_nw h8 (1, 16) 16; if h10.2.1 j = (0, 0) then (let h12 : im_H := im_pR h10 j 2 (some h8.1.1); some h12) else none) else none) else none) else none) else none) else none
set_option maxRecDepth 100000 in
set_option maxHeartbeats 4000000 in
theorem tn_0 (j : Nat) (h : im_H) : im_Go im_zV 1 fm_0 0 (im_en 0 [.inr (some j)]) [] h (fn_0 j h) := by
  unfold fn_0
  refine x_aload_n dm_0_0 rfl ?_
  refine x_objinit dm_0_1 ml_0_1 mo_i mo_c (Nat.le_of_ble_eq_true rfl) (Nat.le_of_ble_eq_true rfl) rfl ?_
  refine x_aload_n dm_0_4 rfl ?_
  refine x_bipush (16) dm_0_5 (by decide) ?_
  refine im_chk _ (fun ho1 => ?_)
  refine x_newI 16 dm_0_7 ma_I rfl (by decide) rfl (Nat.le_of_ble_eq_true rfl) ho1 ?_
  refine im_chk _ (fun hk3 => ?_)
  refine x_putFR dm_0_9 fl_0_9 rfl rfl rfl rfl hk3 ?_
  refine x_aload_n dm_0_12 rfl ?_
  refine x_bipush (16) dm_0_13 (by decide) ?_
  refine im_chk _ (fun ho5 => ?_)
  refine x_newI 16 dm_0_15 ma_I rfl (by decide) rfl (Nat.le_of_ble_eq_true rfl) ho5 ?_
  refine im_chk _ (fun hk7 => ?_)
  refine x_putFR dm_0_17 fl_0_13 rfl rfl rfl rfl hk7 ?_
  refine x_aload_n dm_0_20 rfl ?_
  refine x_bipush (16) dm_0_21 (by decide) ?_
  refine im_chk _ (fun ho9 => ?_)
  refine x_newI 16 dm_0_23 ma_I rfl (by decide) rfl (Nat.le_of_ble_eq_true rfl) ho9 ?_
  refine im_chk _ (fun hk11 => ?_)
  refine x_putFR dm_0_25 fl_0_16 rfl rfl rfl rfl hk11 ?_
  exact x_return dm_0_28 rfl
/-- FencedModules$Code.<init>()V -/
def fn_4 (j : Nat) (h : im_H) : Option (im_H) :=
  if im_oa h [(0, .inr (some j))] [.inr (some j)] = true then (let h2 : im_H := im_nw h (1, 31) 31; if h2.2.1 j = (0, 1) then (let h4 : im_H := im_pR h2 j 0 (some h.1.1); some h4) else none) else none
set_option maxRecDepth 100000 in
set_option maxHeartbeats 4000000 in
theorem tn_4 (j : Nat) (h : im_H) : im_Go im_zV 1 fm_4 0 (im_en 0 [.inr (some j)]) [] h (fn_4 j h) := by
  unfold fn_4
  refine x_aload_n dm_4_0 rfl ?_
  refine x_objinit dm_4_1 ml_1_1 mo_i mo_c (Nat.le_of_ble_eq_true rfl) (Nat.le_of_ble_eq_true rfl) rfl ?_
  refine x_aload_n dm_4_4 rfl ?_
  refine x_bipush (31) dm_4_5 (by decide) ?_
  refine im_chk _ (fun ho1 => ?_)
  refine x_newI 31 dm_4_7 ma_I rfl (by decide) rfl (Nat.le_of_ble_eq_true rfl) ho1 ?_
  refine im_chk _ (fun hk3 => ?_)
  refine x_putFR dm_4_9 fl_1_9 rfl rfl rfl rfl hk3 ?_
  exact x_return dm_4_12 rfl
/-- FencedModules$Desk.open()V -/
def fn_13 (j : Nat) (h : im_H) : Option (im_H) :=
  if h.2.1 j = (0, 2) then (((im_gR h j 0)).bind fun q2 => if h.2.1 q2 = (0, 0) then ((fn_1 q2 h).bind fun b4 => if b4.2.1 j = (0, 2) then (let h6 : im_H := im_pI b4 j 1 (0 : Int32); let h7 : im_H := im_pI h6 j 2 (0 : Int32); some h7) else none) else none) else none
set_option maxRecDepth 100000 in
set_option maxHeartbeats 4000000 in
theorem tn_13 (j : Nat) (h : im_H) : im_Go im_zV 1 fm_13 0 (im_en 0 [.inr (some j)]) [] h (fn_13 j h) := by
  unfold fn_13
  refine x_aload_n dm_13_0 rfl ?_
  refine im_chk _ (fun hk1 => ?_)
  refine x_getR dm_13_1 fl_2_10 rfl rfl hk1 ?_
  refine im_bind (fun q2 hq2 => ?_)
  refine im_chk _ (fun hk3 => ?_)
  refine im_callV mf_1 rfl (im_eqo hq2 (tn_1 q2 h)) (im_runV (as := []) (rest := []) dm_13_4 mf_1 (Nat.le_of_ble_eq_true rfl) ml_2_18 mi_1 ms_1 mp_1 (Nat.le_of_ble_eq_true rfl) hq2 hk3 ⟨_, _, rfl⟩) rfl (fun b4 hb4 => ?_)
  refine x_aload_n dm_13_7 rfl ?_
  refine x_iconst (0) dm_13_8 (by decide) ?_
  refine im_chk _ (fun hk5 => ?_)
  refine x_putI dm_13_9 fl_2_21 rfl rfl hk5 ?_
  refine x_aload_n dm_13_12 rfl ?_
  refine x_iconst (0) dm_13_13 (by decide) ?_
  refine x_putI dm_13_14 fl_2_25 rfl rfl hk5 ?_
  exact x_return dm_13_17 rfl
def fn_14_33 (j : Nat) (s0 : Int32) (s1 : Int32) (s2 : Int32) (s3 : Option Nat) (h : im_H) : Option (im_H) :=
  (s3).bind fun q1 => if h.2.1 q1 = (0, 0) then ((fn_2 q1 s2 s1 s0 h).bind fun b3 => some b3) else none
set_option maxRecDepth 100000 in
set_option maxHeartbeats 4000000 in
theorem tn_14_33 (j : Nat) (s0 : Int32) (s1 : Int32) (s2 : Int32) (s3 : Option Nat) (h : im_H) : im_Go im_zV 1 fm_14 33 [] [.inl s0, .inl s1, .inl s2, .inr s3] h (fn_14_33 j s0 s1 s2 s3 h) := by
  unfold fn_14_33
  refine im_bind (fun q1 hq1 => ?_)
  refine im_chk _ (fun hk2 => ?_)
  refine im_callV mf_2 rfl (im_eqo hq1 (tn_2 q1 s2 s1 s0 h)) (im_runV (as := [.inl s2, .inl s1, .inl s0]) (rest := []) dm_14_33 mf_2 (Nat.le_of_ble_eq_true rfl) ml_2_32 mi_2 ms_2 mp_2 (Nat.le_of_ble_eq_true rfl) hq1 hk2 ⟨_, _, rfl⟩) rfl (fun b3 hb3 => ?_)
  exact x_return dm_14_36 rfl
def fn_14_22 (j : Nat) (y3 : Int32) (y4 : Int32) (s0 : Int32) (s1 : Int32) (s2 : Option Nat) (h : im_H) : Option (im_H) :=
  if y4 < (2 : Int32) then (fn_14_33 j (0 : Int32) s0 s1 s2 h) else (fn_14_33 j y3 s0 s1 s2 h)
set_option maxRecDepth 100000 in
set_option maxHeartbeats 4000000 in
theorem tn_14_22 (j : Nat) (y3 : Int32) (y4 : Int32) (s0 : Int32) (s1 : Int32) (s2 : Option Nat) (h : im_H) : im_Go im_zV 1 fm_14 22 [(3, .inl y3), (4, .inl y4)] [.inl s0, .inl s1, .inr s2] h (fn_14_22 j y3 y4 s0 s1 s2 h) := by
  unfold fn_14_22
  refine x_iload dm_14_22 rfl ?_
  refine x_iconst (2) dm_14_24 (by decide) ?_
  refine x_icmp_lt 32 dm_14_25 rfl (fun c1 => ?_) (fun c1 => ?_)
  · refine x_iconst (0) dm_14_32 (by decide) ?_
    exact im_lsub [] im_sb_n (tn_14_33 j (0 : Int32) s0 s1 s2 h)
  · refine x_iload_n dm_14_28 rfl ?_
    refine x_goto 33 dm_14_29 rfl ?_
    exact im_lsub [] im_sb_n (tn_14_33 j y3 s0 s1 s2 h)
/-- FencedModules$Desk.note(III)V -/
def fn_14 (j : Nat) (x1 : Int32) (x2 : Int32) (x3 : Int32) (h : im_H) : Option (im_H) :=
  (fn_11 x1 h).bind fun b1 => if b1.2.2.1 j = (0, 2) then (if b1.1 < (1 : Int32) then (fn_14_22 j x3 b1.1 (0 : Int32) x1 (im_gR b1.2 j 0) b1.2) else (fn_14_22 j x3 b1.1 x2 x1 (im_gR b1.2 j 0) b1.2)) else none
set_option maxRecDepth 100000 in
set_option maxHeartbeats 4000000 in
theorem tn_14 (j : Nat) (x1 : Int32) (x2 : Int32) (x3 : Int32) (h : im_H) : im_Go im_zV 1 fm_14 0 (im_en 0 [.inr (some j), .inl x1, .inl x2, .inl x3]) [] h (fn_14 j x1 x2 x3 h) := by
  unfold fn_14
  refine x_iload_n dm_14_0 rfl ?_
  refine im_callI mf_11 rfl (tn_11 x1 h) (im_runS (as := [.inl x1]) (rest := []) dm_14_1 mf_11 (Nat.le_of_ble_eq_true rfl) ml_2_28 mi_11 mp_11 (Nat.le_of_ble_eq_true rfl)) rfl (fun b1 hb1 => ?_)
  refine x_istore dm_14_4 (Nat.le_of_ble_eq_true rfl) ?_
  refine x_aload_n dm_14_6 rfl ?_
  refine im_chk _ (fun hk2 => ?_)
  refine x_getR dm_14_7 fl_2_10 rfl rfl hk2 ?_
  refine x_iload_n dm_14_10 rfl ?_
  refine x_iload dm_14_11 rfl ?_
  refine x_iconst (1) dm_14_13 (by decide) ?_
  refine x_icmp_lt 21 dm_14_14 rfl (fun c3 => ?_) (fun c3 => ?_)
  · refine x_iconst (0) dm_14_21 (by decide) ?_
    exact im_lsub [(3, .inl x3), (4, .inl b1.1)] (im_sb_c rfl (im_sb_c rfl im_sb_n)) (tn_14_22 j x3 b1.1 (0 : Int32) x1 _ b1.2)
  · refine x_iload_n dm_14_17 rfl ?_
    refine x_goto 22 dm_14_18 rfl ?_
    exact im_lsub [(3, .inl x3), (4, .inl b1.1)] (im_sb_c rfl (im_sb_c rfl im_sb_n)) (tn_14_22 j x3 b1.1 x2 x1 _ b1.2)
