/-- FencedModulesModel.call(III)I -/
def fn_131 (j : Nat) (x1 : Int32) (x2 : Int32) (x3 : Int32) (h : im_H) : Option (Int32 × im_H) :=
  (fn_92 x1 (0 : Int32) (2 : Int32) h).bind fun b1 => if b1.1 = 0 then (some ((0 : Int32), b1.2)) else (if x2 = (-1 : Int32) then (if b1.2.2.1 j = (0, 8) then (((im_gR b1.2 j 12)).bind fun q5 => if im_in b1.2 1 q5 x1 then (some ((im_gI b1.2 q5 (x1).toNatClampNeg), b1.2)) else none) else none) else ((fn_92 x2 (0 : Int32) (15 : Int32) b1.2).bind fun b7 => if b7.1 = 0 then (some ((0 : Int32), b7.2)) else (if b7.2.2.1 j = (0, 8) then (((im_gR b7.2 j 12)).bind fun q10 => if im_in b7.2 1 q10 x1 then (if (im_gI b7.2 q10 (x1).toNatClampNeg) ≤ x2 then (some ((0 : Int32), b7.2)) else ((fn_92 x3 (0 : Int32) (2 : Int32) b7.2).bind fun b13 => if b13.1 = 0 then (some ((0 : Int32), b13.2)) else (if b13.2.2.1 j = (0, 8) then (((im_gR b13.2 j 13)).bind fun q16 => if im_in b13.2 1 q16 ((((48 : Int32) * x1) + ((3 : Int32) * x2)) + x3) then (some ((im_gI b13.2 q16 (((((48 : Int32) * x1) + ((3 : Int32) * x2)) + x3)).toNatClampNeg), b13.2)) else none) else none))) else none) else none)))
set_option maxRecDepth 100000 in
set_option maxHeartbeats 4000000 in
theorem tn_131 (j : Nat) (x1 : Int32) (x2 : Int32) (x3 : Int32) (h : im_H) : im_Go im_zI 1 fm_131 0 (im_en 0 [.inr (some j), .inl x1, .inl x2, .inl x3]) [] h (fn_131 j x1 x2 x3 h) := by
  unfold fn_131
  refine x_iload_n dm_131_0 rfl ?_
  refine x_iconst (0) dm_131_1 (by decide) ?_
  refine x_iconst (2) dm_131_2 (by decide) ?_
  refine im_callI mf_92 rfl (tn_92 x1 (0 : Int32) (2 : Int32) h) (im_runS (as := [.inl x1, .inl (0 : Int32), .inl (2 : Int32)]) (rest := []) dm_131_3 mf_92 (Nat.le_of_ble_eq_true rfl) ml_8_83 mi_92 mp_92 (Nat.le_of_ble_eq_true rfl)) rfl (fun b1 hb1 => ?_)
  refine x_if_ne 11 dm_131_6 rfl (fun c2 => ?_) (fun c2 => ?_)
  · refine x_iconst (0) dm_131_9 (by decide) ?_
    exact x_ireturn dm_131_10 rfl
  · refine x_iload_n dm_131_11 rfl ?_
    refine x_iconst (-1) dm_131_12 (by decide) ?_
    refine x_icmp_ne 23 dm_131_13 rfl (fun c3 => ?_) (fun c3 => ?_)
    · refine x_aload_n dm_131_16 rfl ?_
      refine im_chk _ (fun hk4 => ?_)
      refine x_getR dm_131_17 fl_8_46 rfl rfl hk4 ?_
      refine x_iload_n dm_131_20 rfl ?_
      refine im_bind (fun q5 hq5 => ?_)
      refine im_chk _ (fun hi6 => ?_)
      refine x_iaload dm_131_21 hq5 hi6 ?_
      exact x_ireturn dm_131_22 rfl
    · refine x_iload_n dm_131_23 rfl ?_
      refine x_iconst (0) dm_131_24 (by decide) ?_
      refine x_bipush (15) dm_131_25 (by decide) ?_
      refine im_callI mf_92 rfl (tn_92 x2 (0 : Int32) (15 : Int32) b1.2) (im_runS (as := [.inl x2, .inl (0 : Int32), .inl (15 : Int32)]) (rest := []) dm_131_27 mf_92 (Nat.le_of_ble_eq_true rfl) ml_8_83 mi_92 mp_92 (Nat.le_of_ble_eq_true rfl)) rfl (fun b7 hb7 => ?_)
      refine x_if_eq 70 dm_131_30 rfl (fun c8 => ?_) (fun c8 => ?_)
      · refine x_iconst (0) dm_131_70 (by decide) ?_
        exact x_ireturn dm_131_71 rfl
      · refine x_iload_n dm_131_33 rfl ?_
        refine x_aload_n dm_131_34 rfl ?_
        refine im_chk _ (fun hk9 => ?_)
        refine x_getR dm_131_35 fl_8_46 rfl rfl hk9 ?_
        refine x_iload_n dm_131_38 rfl ?_
        refine im_bind (fun q10 hq10 => ?_)
        refine im_chk _ (fun hi11 => ?_)
        refine x_iaload dm_131_39 hq10 hi11 ?_
        refine x_icmp_ge 70 dm_131_40 rfl (fun c12 => ?_) (fun c12 => ?_)
        · refine x_iconst (0) dm_131_70 (by decide) ?_
          exact x_ireturn dm_131_71 rfl
        · refine x_iload_n dm_131_43 rfl ?_
          refine x_iconst (0) dm_131_44 (by decide) ?_
          refine x_iconst (2) dm_131_45 (by decide) ?_
          refine im_callI mf_92 rfl (tn_92 x3 (0 : Int32) (2 : Int32) b7.2) (im_runS (as := [.inl x3, .inl (0 : Int32), .inl (2 : Int32)]) (rest := []) dm_131_46 mf_92 (Nat.le_of_ble_eq_true rfl) ml_8_83 mi_92 mp_92 (Nat.le_of_ble_eq_true rfl)) rfl (fun b13 hb13 => ?_)
          refine x_if_eq 70 dm_131_49 rfl (fun c14 => ?_) (fun c14 => ?_)
          · refine x_iconst (0) dm_131_70 (by decide) ?_
            exact x_ireturn dm_131_71 rfl
          · refine x_aload_n dm_131_52 rfl ?_
            refine im_chk _ (fun hk15 => ?_)
            refine x_getR dm_131_53 fl_8_49 rfl rfl hk15 ?_
            refine x_bipush (48) dm_131_56 (by decide) ?_
            refine x_iload_n dm_131_58 rfl ?_
            refine x_imul dm_131_59 ?_
            refine x_iconst (3) dm_131_60 (by decide) ?_
            refine x_iload_n dm_131_61 rfl ?_
            refine x_imul dm_131_62 ?_
            refine x_iadd dm_131_63 ?_
            refine x_iload_n dm_131_64 rfl ?_
            refine x_iadd dm_131_65 ?_
            refine im_bind (fun q16 hq16 => ?_)
            refine im_chk _ (fun hi17 => ?_)
            refine x_iaload dm_131_66 hq16 hi17 ?_
            refine x_goto 71 dm_131_67 rfl ?_
            exact x_ireturn dm_131_71 rfl
/-- FencedModulesModel.trace(II)I -/
def fn_132 (j : Nat) (x1 : Int32) (x2 : Int32) (h : im_H) : Option (Int32 × im_H) :=
  if x1 = (-1 : Int32) then (if h.2.1 j = (0, 8) then (some ((im_gI h j 30), h)) else none) else ((fn_92 x1 (0 : Int32) (15 : Int32) h).bind fun b3 => if b3.1 = 0 then (some ((0 : Int32), b3.2)) else (if b3.2.2.1 j = (0, 8) then (if (im_gI b3.2 j 30) ≤ x1 then (some ((0 : Int32), b3.2)) else ((fn_92 x2 (0 : Int32) (2 : Int32) b3.2).bind fun b7 => if b7.1 = 0 then (some ((0 : Int32), b7.2)) else (if b7.2.2.1 j = (0, 8) then (((im_gR b7.2 j 31)).bind fun q10 => if im_in b7.2 1 q10 (((3 : Int32) * x1) + x2) then (some ((im_gI b7.2 q10 ((((3 : Int32) * x1) + x2)).toNatClampNeg), b7.2)) else none) else none))) else none))
set_option maxRecDepth 100000 in
set_option maxHeartbeats 4000000 in
theorem tn_132 (j : Nat) (x1 : Int32) (x2 : Int32) (h : im_H) : im_Go im_zI 1 fm_132 0 (im_en 0 [.inr (some j), .inl x1, .inl x2]) [] h (fn_132 j x1 x2 h) := by
  unfold fn_132
  refine x_iload_n dm_132_0 rfl ?_
  refine x_iconst (-1) dm_132_1 (by decide) ?_
  refine x_icmp_ne 10 dm_132_2 rfl (fun c1 => ?_) (fun c1 => ?_)
  · refine x_aload_n dm_132_5 rfl ?_
    refine im_chk _ (fun hk2 => ?_)
    refine x_getI dm_132_6 fl_8_182 rfl rfl hk2 ?_
    exact x_ireturn dm_132_9 rfl
  · refine x_iload_n dm_132_10 rfl ?_
    refine x_iconst (0) dm_132_11 (by decide) ?_
    refine x_bipush (15) dm_132_12 (by decide) ?_
    refine im_callI mf_92 rfl (tn_92 x1 (0 : Int32) (15 : Int32) h) (im_runS (as := [.inl x1, .inl (0 : Int32), .inl (15 : Int32)]) (rest := []) dm_132_14 mf_92 (Nat.le_of_ble_eq_true rfl) ml_8_83 mi_92 mp_92 (Nat.le_of_ble_eq_true rfl)) rfl (fun b3 hb3 => ?_)
    refine x_if_eq 50 dm_132_17 rfl (fun c4 => ?_) (fun c4 => ?_)
    · refine x_iconst (0) dm_132_50 (by decide) ?_
      exact x_ireturn dm_132_51 rfl
    · refine x_iload_n dm_132_20 rfl ?_
      refine x_aload_n dm_132_21 rfl ?_
      refine im_chk _ (fun hk5 => ?_)
      refine x_getI dm_132_22 fl_8_182 rfl rfl hk5 ?_
      refine x_icmp_ge 50 dm_132_25 rfl (fun c6 => ?_) (fun c6 => ?_)
      · refine x_iconst (0) dm_132_50 (by decide) ?_
        exact x_ireturn dm_132_51 rfl
      · refine x_iload_n dm_132_28 rfl ?_
        refine x_iconst (0) dm_132_29 (by decide) ?_
        refine x_iconst (2) dm_132_30 (by decide) ?_
        refine im_callI mf_92 rfl (tn_92 x2 (0 : Int32) (2 : Int32) b3.2) (im_runS (as := [.inl x2, .inl (0 : Int32), .inl (2 : Int32)]) (rest := []) dm_132_31 mf_92 (Nat.le_of_ble_eq_true rfl) ml_8_83 mi_92 mp_92 (Nat.le_of_ble_eq_true rfl)) rfl (fun b7 hb7 => ?_)
        refine x_if_eq 50 dm_132_34 rfl (fun c8 => ?_) (fun c8 => ?_)
        · refine x_iconst (0) dm_132_50 (by decide) ?_
          exact x_ireturn dm_132_51 rfl
        · refine x_aload_n dm_132_37 rfl ?_
          refine im_chk _ (fun hk9 => ?_)
          refine x_getR dm_132_38 fl_8_80 rfl rfl hk9 ?_
          refine x_iconst (3) dm_132_41 (by decide) ?_
          refine x_iload_n dm_132_42 rfl ?_
          refine x_imul dm_132_43 ?_
          refine x_iload_n dm_132_44 rfl ?_
          refine x_iadd dm_132_45 ?_
          refine im_bind (fun q10 hq10 => ?_)
          refine im_chk _ (fun hi11 => ?_)
          refine x_iaload dm_132_46 hq10 hi11 ?_
          refine x_goto 51 dm_132_47 rfl ?_
          exact x_ireturn dm_132_51 rfl
def fn_98_2 (j : Nat) : Nat → Int32 → im_H → Option (Int32 × im_H)
  | 0, _, _ => none
  | n + 1, y1, h =>
    if h.2.1 j = (0, 8) then (if (im_gI h j 16) ≤ y1 then ((fn_96 j (im_gI h j 16) h).bind fun b3 => if (31 : Int32) < (b3.1 + (1 : Int32)) then (some ((0 : Int32), b3.2)) else (some ((1 : Int32), b3.2))) else ((fn_97 j y1 h).bind fun b5 => if b5.1 = 0 then (some ((0 : Int32), b5.2)) else (let v7 : Int32 := (y1 + (1 : Int32)); fn_98_2 j n v7 b5.2))) else none
set_option maxRecDepth 100000 in
set_option maxHeartbeats 4000000 in
theorem tn_98_2 (j : Nat) : ∀ (n : Nat) (y1 : Int32) (h : im_H), im_Go im_zI 2 fm_98 2 [(0, .inr (some j)), (1, .inl y1)] [] h (fn_98_2 j n y1 h)
  | 0, y1, h => im_none
  | n + 1, y1, h => by
    have ih := tn_98_2 j n
    unfold fn_98_2
    refine x_iload_n dm_98_2 rfl ?_
    refine x_aload_n dm_98_3 rfl ?_
    refine im_chk _ (fun hk1 => ?_)
    refine x_getI dm_98_4 fl_8_89 rfl rfl hk1 ?_
    refine x_icmp_ge 26 dm_98_7 rfl (fun c2 => ?_) (fun c2 => ?_)
    · refine x_aload_n dm_98_26 rfl ?_
      refine x_aload_n dm_98_27 rfl ?_
      refine x_getI dm_98_28 fl_8_89 rfl rfl hk1 ?_
      refine im_callI mf_96 rfl (tn_96 j _ h) (im_runV (as := [.inl _]) (rest := []) dm_98_31 mf_96 (Nat.le_of_ble_eq_true rfl) ml_8_100 mi_96 ms_96 mp_96 (Nat.le_of_ble_eq_true rfl) rfl hk1 ⟨_, _, rfl⟩) rfl (fun b3 hb3 => ?_)
      refine x_iconst (1) dm_98_34 (by decide) ?_
      refine x_iadd dm_98_35 ?_
      refine x_bipush (31) dm_98_36 (by decide) ?_
      refine x_icmp_gt 45 dm_98_38 rfl (fun c4 => ?_) (fun c4 => ?_)
      · refine x_iconst (0) dm_98_45 (by decide) ?_
        exact x_zreturn dm_98_46 rfl (by decide)
      · refine x_iconst (1) dm_98_41 (by decide) ?_
        refine x_goto 46 dm_98_42 rfl ?_
        exact x_zreturn dm_98_46 rfl (by decide)
    · refine x_aload_n dm_98_10 rfl ?_
      refine x_iload_n dm_98_11 rfl ?_
      refine im_callI mf_97 rfl (tn_97 j y1 h) (im_runV (as := [.inl y1]) (rest := []) dm_98_12 mf_97 (Nat.le_of_ble_eq_true rfl) ml_8_96 mi_97 ms_97 mp_97 (Nat.le_of_ble_eq_true rfl) rfl hk1 ⟨_, _, rfl⟩) rfl (fun b5 hb5 => ?_)
      refine x_if_ne 20 dm_98_15 rfl (fun c6 => ?_) (fun c6 => ?_)
      · refine x_iconst (0) dm_98_18 (by decide) ?_
        exact x_zreturn dm_98_19 rfl (by decide)
      · refine x_iinc (1) dm_98_20 rfl (by decide) (Nat.le_of_ble_eq_true rfl) ?_
        refine x_goto 2 dm_98_23 rfl ?_
        exact im_lsub [(0, .inr (some j)), (1, .inl _)] (im_sb_c rfl (im_sb_c rfl im_sb_n)) (ih _ b5.2)
/-- FencedModulesModel.can()Z -/
def fn_98 (j : Nat) (h : im_H) : Option (Int32 × im_H) :=
  fn_98_2 j 1000 (0 : Int32) h
set_option maxRecDepth 100000 in
set_option maxHeartbeats 4000000 in
theorem tn_98 (j : Nat) (h : im_H) : im_Go im_zI 2 fm_98 0 (im_en 0 [.inr (some j)]) [] h (fn_98 j h) := by
  unfold fn_98
  refine x_iconst (0) dm_98_0 (by decide) ?_
  refine x_istore_n dm_98_1 (Nat.le_of_ble_eq_true rfl) ?_
  exact im_lsub [(0, .inr (some j)), (1, .inl (0 : Int32))] (im_sb_c rfl (im_sb_c rfl im_sb_n)) (tn_98_2 j 1000 (0 : Int32) h)
def fn_103_43 (j : Nat) (y2 : Int32) (y3 : Int32) (y4 : Int32) (y5 : Int32) (y6 : Int32) (h : im_H) : Option (im_H) :=
  (fn_99 (2 : Int32) (5 : Int32) y5 y6 h).bind fun b1 => if b1.2.2.1 j = (0, 8) then ((fn_100 j b1.1 b1.2).bind fun b3 => (fn_99 (6 : Int32) (6 : Int32) (5 : Int32) (15 : Int32) b3).bind fun b4 => if b4.2.2.1 j = (0, 8) then ((fn_100 j b4.1 b4.2).bind fun b6 => (fn_99 (7 : Int32) (6 : Int32) (6 : Int32) ((16 : Int32) * y2) b6).bind fun b7 => if b7.2.2.1 j = (0, 8) then ((fn_100 j b7.1 b7.2).bind fun b9 => (fn_99 y3 y4 (6 : Int32) (0 : Int32) b9).bind fun b10 => if b10.2.2.1 j = (0, 8) then ((fn_100 j b10.1 b10.2).bind fun b12 => some b12) else none) else none) else none) else none
set_option maxRecDepth 100000 in
set_option maxHeartbeats 4000000 in
theorem tn_103_43 (j : Nat) (y2 : Int32) (y3 : Int32) (y4 : Int32) (y5 : Int32) (y6 : Int32) (h : im_H) : im_Go im_zV 2 fm_103 43 [(0, .inr (some j)), (2, .inl y2), (3, .inl y3), (4, .inl y4), (5, .inl y5), (6, .inl y6)] [] h (fn_103_43 j y2 y3 y4 y5 y6 h) := by
  unfold fn_103_43
  refine x_aload_n dm_103_43 rfl ?_
  refine x_iconst (2) dm_103_44 (by decide) ?_
  refine x_iconst (5) dm_103_45 (by decide) ?_
  refine x_iload dm_103_46 rfl ?_
  refine x_iload dm_103_48 rfl ?_
  refine im_callI mf_99 rfl (tn_99 (2 : Int32) (5 : Int32) y5 y6 h) (im_runS (as := [.inl (2 : Int32), .inl (5 : Int32), .inl y5, .inl y6]) (rest := [.inr (some j)]) dm_103_50 mf_99 (Nat.le_of_ble_eq_true rfl) ml_8_116 mi_99 mp_99 (Nat.le_of_ble_eq_true rfl)) rfl (fun b1 hb1 => ?_)
  refine im_chk _ (fun hk2 => ?_)
  refine im_callV mf_100 rfl (tn_100 j b1.1 b1.2) (im_runV (as := [.inl b1.1]) (rest := []) dm_103_53 mf_100 (Nat.le_of_ble_eq_true rfl) ml_8_112 mi_100 ms_100 mp_100 (Nat.le_of_ble_eq_true rfl) rfl hk2 ⟨_, _, rfl⟩) rfl (fun b3 hb3 => ?_)
  refine x_aload_n dm_103_56 rfl ?_
  refine x_bipush (6) dm_103_57 (by decide) ?_
  refine x_bipush (6) dm_103_59 (by decide) ?_
  refine x_iconst (5) dm_103_61 (by decide) ?_
  refine x_bipush (15) dm_103_62 (by decide) ?_
  refine im_callI mf_99 rfl (tn_99 (6 : Int32) (6 : Int32) (5 : Int32) (15 : Int32) b3) (im_runS (as := [.inl (6 : Int32), .inl (6 : Int32), .inl (5 : Int32), .inl (15 : Int32)]) (rest := [.inr (some j)]) dm_103_64 mf_99 (Nat.le_of_ble_eq_true rfl) ml_8_116 mi_99 mp_99 (Nat.le_of_ble_eq_true rfl)) rfl (fun b4 hb4 => ?_)
  refine im_chk _ (fun hk5 => ?_)
  refine im_callV mf_100 rfl (tn_100 j b4.1 b4.2) (im_runV (as := [.inl b4.1]) (rest := []) dm_103_67 mf_100 (Nat.le_of_ble_eq_true rfl) ml_8_112 mi_100 ms_100 mp_100 (Nat.le_of_ble_eq_true rfl) rfl hk5 ⟨_, _, rfl⟩) rfl (fun b6 hb6 => ?_)
  refine x_aload_n dm_103_70 rfl ?_
  refine x_bipush (7) dm_103_71 (by decide) ?_
  refine x_bipush (6) dm_103_73 (by decide) ?_
  refine x_bipush (6) dm_103_75 (by decide) ?_
  refine x_bipush (16) dm_103_77 (by decide) ?_
  refine x_iload_n dm_103_79 rfl ?_
  refine x_imul dm_103_80 ?_
  refine im_callI mf_99 rfl (tn_99 (7 : Int32) (6 : Int32) (6 : Int32) _ b6) (im_runS (as := [.inl (7 : Int32), .inl (6 : Int32), .inl (6 : Int32), .inl _]) (rest := [.inr (some j)]) dm_103_81 mf_99 (Nat.le_of_ble_eq_true rfl) ml_8_116 mi_99 mp_99 (Nat.le_of_ble_eq_true rfl)) rfl (fun b7 hb7 => ?_)
  refine im_chk _ (fun hk8 => ?_)
  refine im_callV mf_100 rfl (tn_100 j b7.1 b7.2) (im_runV (as := [.inl b7.1]) (rest := []) dm_103_84 mf_100 (Nat.le_of_ble_eq_true rfl) ml_8_112 mi_100 ms_100 mp_100 (Nat.le_of_ble_eq_true rfl) rfl hk8 ⟨_, _, rfl⟩) rfl (fun b9 hb9 => ?_)
  refine x_aload_n dm_103_87 rfl ?_
  refine x_iload_n dm_103_88 rfl ?_
  refine x_iload dm_103_89 rfl ?_
  refine x_bipush (6) dm_103_91 (by decide) ?_
  refine x_iconst (0) dm_103_93 (by decide) ?_
  refine im_callI mf_99 rfl (tn_99 y3 y4 (6 : Int32) (0 : Int32) b9) (im_runS (as := [.inl y3, .inl y4, .inl (6 : Int32), .inl (0 : Int32)]) (rest := [.inr (some j)]) dm_103_94 mf_99 (Nat.le_of_ble_eq_true rfl) ml_8_116 mi_99 mp_99 (Nat.le_of_ble_eq_true rfl)) rfl (fun b10 hb10 => ?_)
  refine im_chk _ (fun hk11 => ?_)
  refine im_callV mf_100 rfl (tn_100 j b10.1 b10.2) (im_runV (as := [.inl b10.1]) (rest := []) dm_103_97 mf_100 (Nat.le_of_ble_eq_true rfl) ml_8_112 mi_100 ms_100 mp_100 (Nat.le_of_ble_eq_true rfl) rfl hk11 ⟨_, _, rfl⟩) rfl (fun b12 hb12 => ?_)
  refine x_goto 341 dm_103_100 rfl ?_
  exact x_return dm_103_341 rfl
def fn_103_253 (j : Nat) (s0 : Int32) (s1 : Option Nat) (h : im_H) : Option (im_H) :=
  (s1).bind fun q1 => if h.2.1 q1 = (0, 8) then ((fn_100 q1 s0 h).bind fun b3 => some b3) else none
set_option maxRecDepth 100000 in
set_option maxHeartbeats 4000000 in
theorem tn_103_253 (j : Nat) (s0 : Int32) (s1 : Option Nat) (h : im_H) : im_Go im_zV 2 fm_103 253 [] [.inl s0, .inr s1] h (fn_103_253 j s0 s1 h) := by
  unfold fn_103_253
  refine im_bind (fun q1 hq1 => ?_)
  refine im_chk _ (fun hk2 => ?_)
  refine im_callV mf_100 rfl (im_eqo hq1 (tn_100 q1 s0 h)) (im_runV (as := [.inl s0]) (rest := []) dm_103_253 mf_100 (Nat.le_of_ble_eq_true rfl) ml_8_112 mi_100 ms_100 mp_100 (Nat.le_of_ble_eq_true rfl) hq1 hk2 ⟨_, _, rfl⟩) rfl (fun b3 hb3 => ?_)
  refine x_goto 341 dm_103_256 rfl ?_
  exact x_return dm_103_341 rfl
def fn_103_335 (j : Nat) (s0 : Int32) (s1 : Int32) (s2 : Int32) (s3 : Int32) (s4 : Option Nat) (h : im_H) : Option (im_H) :=
  (fn_99 s3 s2 s1 s0 h).bind fun b1 => (s4).bind fun q2 => if b1.2.2.1 q2 = (0, 8) then ((fn_100 q2 b1.1 b1.2).bind fun b4 => some b4) else none
set_option maxRecDepth 100000 in
set_option maxHeartbeats 4000000 in
theorem tn_103_335 (j : Nat) (s0 : Int32) (s1 : Int32) (s2 : Int32) (s3 : Int32) (s4 : Option Nat) (h : im_H) : im_Go im_zV 2 fm_103 335 [] [.inl s0, .inl s1, .inl s2, .inl s3, .inr s4] h (fn_103_335 j s0 s1 s2 s3 s4 h) := by
  unfold fn_103_335
  refine im_callI mf_99 rfl (tn_99 s3 s2 s1 s0 h) (im_runS (as := [.inl s3, .inl s2, .inl s1, .inl s0]) (rest := [.inr s4]) dm_103_335 mf_99 (Nat.le_of_ble_eq_true rfl) ml_8_116 mi_99 mp_99 (Nat.le_of_ble_eq_true rfl)) rfl (fun b1 hb1 => ?_)
  refine im_bind (fun q2 hq2 => ?_)
  refine im_chk _ (fun hk3 => ?_)
  refine im_callV mf_100 rfl (im_eqo hq2 (tn_100 q2 b1.1 b1.2)) (im_runV (as := [.inl b1.1]) (rest := []) dm_103_338 mf_100 (Nat.le_of_ble_eq_true rfl) ml_8_112 mi_100 ms_100 mp_100 (Nat.le_of_ble_eq_true rfl) hq2 hk3 ⟨_, _, rfl⟩) rfl (fun b4 hb4 => ?_)
  exact x_return dm_103_341 rfl
/-- FencedModulesModel.translate(II)V -/
def fn_103 (j : Nat) (x1 : Int32) (x2 : Int32) (h : im_H) : Option (im_H) :=
  if h.2.1 j = (0, 8) then (((im_gR h j 17)).bind fun q2 => if im_in h 1 q2 x1 then (let v4 : Int32 := (im_gI h q2 (x1).toNatClampNeg); ((im_gR h j 18)).bind fun q5 => if im_in h 1 q5 x1 then (let v7 : Int32 := (im_gI h q5 (x1).toNatClampNeg); ((im_gR h j 19)).bind fun q8 => if im_in h 1 q8 x1 then (let v10 : Int32 := (im_gI h q8 (x1).toNatClampNeg); ((im_gR h j 20)).bind fun q11 => if im_in h 1 q11 x1 then (let v13 : Int32 := (im_gI h q11 (x1).toNatClampNeg); if v4 = (8 : Int32) then (fn_103_43 j x2 v4 v7 v10 v13 h) else (if v4 = (9 : Int32) then (fn_103_43 j x2 v4 v7 v10 v13 h) else (if v4 = (13 : Int32) then ((fn_99 (6 : Int32) (7 : Int32) v7 (31 : Int32) h).bind fun b17 => if b17.2.2.1 j = (0, 8) then ((fn_100 j b17.1 b17.2).bind fun b19 => (fn_99 (7 : Int32) (7 : Int32) (7 : Int32) ((64 : Int32) + ((32 : Int32) * x2)) b19).bind fun b20 => if b20.2.2.1 j = (0, 8) then ((fn_100 j b20.1 b20.2).bind fun b22 => (fn_99 (13 : Int32) (7 : Int32) (0 : Int32) (0 : Int32) b22).bind fun b23 => if b23.2.2.1 j = (0, 8) then ((fn_100 j b23.1 b23.2).bind fun b25 => some b25) else none) else none) else none) else (if v4 = (15 : Int32) then ((fn_101 j v13 h).bind fun b27 => (fn_99 (1 : Int32) v7 (0 : Int32) (((64 : Int32) + ((32 : Int32) * x2)) + b27.1) b27.2).bind fun b28 => if b28.2.2.1 j = (0, 8) then ((fn_100 j b28.1 b28.2).bind fun b30 => some b30) else none) else ((fn_92 v4 (10 : Int32) (12 : Int32) h).bind fun b31 => if b31.1 = 0 then (if v4 = 0 then (if b31.2.2.1 j = (0, 8) then ((fn_100 j (0 : Int32) b31.2).bind fun b35 => some b35) else none) else (if v4 = (14 : Int32) then ((fn_99 (14 : Int32) (0 : Int32) (0 : Int32) v13 b31.2).bind fun b37 => if b37.2.2.1 j = (0, 8) then ((fn_100 j b37.1 b37.2).bind fun b39 => some b39) else none) else (if v4 = (1 : Int32) then ((fn_99 (1 : Int32) v7 (0 : Int32) v13 b31.2).bind fun b41 => if b41.2.2.1 j = (0, 8) then ((fn_100 j b41.1 b41.2).bind fun b43 => some b43) else none) else ((fn_92 v4 (3 : Int32) (5 : Int32) b31.2).bind fun b44 => if b44.1 = 0 then (fn_103_335 j v13 v10 v7 v4 (some j) b44.2) else (fn_103_335 j (0 : Int32) v10 v7 v4 (some j) b44.2))))) else (if b31.2.2.1 j = (0, 8) then ((fn_101 j v13 b31.2).bind fun b47 => if b47.2.2.1 j = (0, 8) then (let v49 : Int32 := ((b47.1 - (im_gI b47.2 j 23)) - (1 : Int32)); if v4 = (12 : Int32) then ((fn_99 (12 : Int32) (0 : Int32) (0 : Int32) v49 b47.2).bind fun b51 => fn_103_253 j b51.1 (some j) b51.2) else ((fn_99 v4 v7 v10 v49 b47.2).bind fun b52 => fn_103_253 j b52.1 (some j) b52.2)) else none) else none)))))) else none) else none) else none) else none) else none
set_option maxRecDepth 100000 in
set_option maxHeartbeats 4000000 in
theorem tn_103 (j : Nat) (x1 : Int32) (x2 : Int32) (h : im_H) : im_Go im_zV 2 fm_103 0 (im_en 0 [.inr (some j), .inl x1, .inl x2]) [] h (fn_103 j x1 x2 h) := by
  unfold fn_103
  refine x_aload_n dm_103_0 rfl ?_
  refine im_chk _ (fun hk1 => ?_)
  refine x_getR dm_103_1 fl_8_52 rfl rfl hk1 ?_
  refine x_iload_n dm_103_4 rfl ?_
  refine im_bind (fun q2 hq2 => ?_)
  refine im_chk _ (fun hi3 => ?_)
  refine x_iaload dm_103_5 hq2 hi3 ?_
  refine x_istore_n dm_103_6 (Nat.le_of_ble_eq_true rfl) ?_
  refine x_aload_n dm_103_7 rfl ?_
  refine x_getR dm_103_8 fl_8_55 rfl rfl hk1 ?_
  refine x_iload_n dm_103_11 rfl ?_
  refine im_bind (fun q5 hq5 => ?_)
  refine im_chk _ (fun hi6 => ?_)
  refine x_iaload dm_103_12 hq5 hi6 ?_
  refine x_istore dm_103_13 (Nat.le_of_ble_eq_true rfl) ?_
  refine x_aload_n dm_103_15 rfl ?_
  refine x_getR dm_103_16 fl_8_58 rfl rfl hk1 ?_
  refine x_iload_n dm_103_19 rfl ?_
  refine im_bind (fun q8 hq8 => ?_)
  refine im_chk _ (fun hi9 => ?_)
  refine x_iaload dm_103_20 hq8 hi9 ?_
  refine x_istore dm_103_21 (Nat.le_of_ble_eq_true rfl) ?_
  refine x_aload_n dm_103_23 rfl ?_
  refine x_getR dm_103_24 fl_8_61 rfl rfl hk1 ?_
  refine x_iload_n dm_103_27 rfl ?_
  refine im_bind (fun q11 hq11 => ?_)
  refine im_chk _ (fun hi12 => ?_)
  refine x_iaload dm_103_28 hq11 hi12 ?_
  refine x_istore dm_103_29 (Nat.le_of_ble_eq_true rfl) ?_
  refine x_iload_n dm_103_31 rfl ?_
  refine x_bipush (8) dm_103_32 (by decide) ?_
  refine x_icmp_eq 43 dm_103_34 rfl (fun c14 => ?_) (fun c14 => ?_)
  · exact im_lsub [(0, .inr (some j)), (2, .inl x2), (3, .inl _), (4, .inl _), (5, .inl _), (6, .inl _)] (im_sb_c rfl (im_sb_c rfl (im_sb_c rfl (im_sb_c rfl (im_sb_c rfl (im_sb_c rfl im_sb_n)))))) (tn_103_43 j x2 _ _ _ _ h)
  · refine x_iload_n dm_103_37 rfl ?_
    refine x_bipush (9) dm_103_38 (by decide) ?_
    refine x_icmp_ne 103 dm_103_40 rfl (fun c15 => ?_) (fun c15 => ?_)
    · exact im_lsub [(0, .inr (some j)), (2, .inl x2), (3, .inl _), (4, .inl _), (5, .inl _), (6, .inl _)] (im_sb_c rfl (im_sb_c rfl (im_sb_c rfl (im_sb_c rfl (im_sb_c rfl (im_sb_c rfl im_sb_n)))))) (tn_103_43 j x2 _ _ _ _ h)
    · refine x_iload_n dm_103_103 rfl ?_
      refine x_bipush (13) dm_103_104 (by decide) ?_
      refine x_icmp_ne 160 dm_103_106 rfl (fun c16 => ?_) (fun c16 => ?_)
      · refine x_aload_n dm_103_109 rfl ?_
        refine x_bipush (6) dm_103_110 (by decide) ?_
        refine x_bipush (7) dm_103_112 (by decide) ?_
        refine x_iload dm_103_114 rfl ?_
        refine x_bipush (31) dm_103_116 (by decide) ?_
        refine im_callI mf_99 rfl (tn_99 (6 : Int32) (7 : Int32) _ (31 : Int32) h) (im_runS (as := [.inl (6 : Int32), .inl (7 : Int32), .inl _, .inl (31 : Int32)]) (rest := [.inr (some j)]) dm_103_118 mf_99 (Nat.le_of_ble_eq_true rfl) ml_8_116 mi_99 mp_99 (Nat.le_of_ble_eq_true rfl)) rfl (fun b17 hb17 => ?_)
        refine im_chk _ (fun hk18 => ?_)
        refine im_callV mf_100 rfl (tn_100 j b17.1 b17.2) (im_runV (as := [.inl b17.1]) (rest := []) dm_103_121 mf_100 (Nat.le_of_ble_eq_true rfl) ml_8_112 mi_100 ms_100 mp_100 (Nat.le_of_ble_eq_true rfl) rfl hk18 ⟨_, _, rfl⟩) rfl (fun b19 hb19 => ?_)
        refine x_aload_n dm_103_124 rfl ?_
        refine x_bipush (7) dm_103_125 (by decide) ?_
        refine x_bipush (7) dm_103_127 (by decide) ?_
        refine x_bipush (7) dm_103_129 (by decide) ?_
        refine x_bipush (64) dm_103_131 (by decide) ?_
        refine x_bipush (32) dm_103_133 (by decide) ?_
        refine x_iload_n dm_103_135 rfl ?_
        refine x_imul dm_103_136 ?_
        refine x_iadd dm_103_137 ?_
        refine im_callI mf_99 rfl (tn_99 (7 : Int32) (7 : Int32) (7 : Int32) _ b19) (im_runS (as := [.inl (7 : Int32), .inl (7 : Int32), .inl (7 : Int32), .inl _]) (rest := [.inr (some j)]) dm_103_138 mf_99 (Nat.le_of_ble_eq_true rfl) ml_8_116 mi_99 mp_99 (Nat.le_of_ble_eq_true rfl)) rfl (fun b20 hb20 => ?_)
        refine im_chk _ (fun hk21 => ?_)
        refine im_callV mf_100 rfl (tn_100 j b20.1 b20.2) (im_runV (as := [.inl b20.1]) (rest := []) dm_103_141 mf_100 (Nat.le_of_ble_eq_true rfl) ml_8_112 mi_100 ms_100 mp_100 (Nat.le_of_ble_eq_true rfl) rfl hk21 ⟨_, _, rfl⟩) rfl (fun b22 hb22 => ?_)
        refine x_aload_n dm_103_144 rfl ?_
        refine x_bipush (13) dm_103_145 (by decide) ?_
        refine x_bipush (7) dm_103_147 (by decide) ?_
        refine x_iconst (0) dm_103_149 (by decide) ?_
        refine x_iconst (0) dm_103_150 (by decide) ?_
        refine im_callI mf_99 rfl (tn_99 (13 : Int32) (7 : Int32) (0 : Int32) (0 : Int32) b22) (im_runS (as := [.inl (13 : Int32), .inl (7 : Int32), .inl (0 : Int32), .inl (0 : Int32)]) (rest := [.inr (some j)]) dm_103_151 mf_99 (Nat.le_of_ble_eq_true rfl) ml_8_116 mi_99 mp_99 (Nat.le_of_ble_eq_true rfl)) rfl (fun b23 hb23 => ?_)
        refine im_chk _ (fun hk24 => ?_)
        refine im_callV mf_100 rfl (tn_100 j b23.1 b23.2) (im_runV (as := [.inl b23.1]) (rest := []) dm_103_154 mf_100 (Nat.le_of_ble_eq_true rfl) ml_8_112 mi_100 ms_100 mp_100 (Nat.le_of_ble_eq_true rfl) rfl hk24 ⟨_, _, rfl⟩) rfl (fun b25 hb25 => ?_)
        refine x_goto 341 dm_103_157 rfl ?_
        exact x_return dm_103_341 rfl
      · refine x_iload_n dm_103_160 rfl ?_
        refine x_bipush (15) dm_103_161 (by decide) ?_
        refine x_icmp_ne 198 dm_103_163 rfl (fun c26 => ?_) (fun c26 => ?_)
        · refine x_aload_n dm_103_166 rfl ?_
          refine x_iload dm_103_167 rfl ?_
          refine im_callI mf_101 rfl (tn_101 j _ h) (im_runV (as := [.inl _]) (rest := []) dm_103_169 mf_101 (Nat.le_of_ble_eq_true rfl) ml_8_120 mi_101 ms_101 mp_101 (Nat.le_of_ble_eq_true rfl) rfl hk1 ⟨_, _, rfl⟩) rfl (fun b27 hb27 => ?_)
          refine x_istore dm_103_172 (Nat.le_of_ble_eq_true rfl) ?_
          refine x_aload_n dm_103_174 rfl ?_
          refine x_iconst (1) dm_103_175 (by decide) ?_
          refine x_iload dm_103_176 rfl ?_
          refine x_iconst (0) dm_103_178 (by decide) ?_
          refine x_bipush (64) dm_103_179 (by decide) ?_
          refine x_bipush (32) dm_103_181 (by decide) ?_
          refine x_iload_n dm_103_183 rfl ?_
          refine x_imul dm_103_184 ?_
          refine x_iadd dm_103_185 ?_
          refine x_iload dm_103_186 rfl ?_
          refine x_iadd dm_103_188 ?_
          refine im_callI mf_99 rfl (tn_99 (1 : Int32) _ (0 : Int32) _ b27.2) (im_runS (as := [.inl (1 : Int32), .inl _, .inl (0 : Int32), .inl _]) (rest := [.inr (some j)]) dm_103_189 mf_99 (Nat.le_of_ble_eq_true rfl) ml_8_116 mi_99 mp_99 (Nat.le_of_ble_eq_true rfl)) rfl (fun b28 hb28 => ?_)
          refine im_chk _ (fun hk29 => ?_)
          refine im_callV mf_100 rfl (tn_100 j b28.1 b28.2) (im_runV (as := [.inl b28.1]) (rest := []) dm_103_192 mf_100 (Nat.le_of_ble_eq_true rfl) ml_8_112 mi_100 ms_100 mp_100 (Nat.le_of_ble_eq_true rfl) rfl hk29 ⟨_, _, rfl⟩) rfl (fun b30 hb30 => ?_)
          refine x_goto 341 dm_103_195 rfl ?_
          exact x_return dm_103_341 rfl
        · refine x_iload_n dm_103_198 rfl ?_
          refine x_bipush (10) dm_103_199 (by decide) ?_
          refine x_bipush (12) dm_103_201 (by decide) ?_
          refine im_callI mf_92 rfl (tn_92 _ (10 : Int32) (12 : Int32) h) (im_runS (as := [.inl _, .inl (10 : Int32), .inl (12 : Int32)]) (rest := []) dm_103_203 mf_92 (Nat.le_of_ble_eq_true rfl) ml_8_83 mi_92 mp_92 (Nat.le_of_ble_eq_true rfl)) rfl (fun b31 hb31 => ?_)
          refine x_if_eq 259 dm_103_206 rfl (fun c32 => ?_) (fun c32 => ?_)
          · refine x_iload_n dm_103_259 rfl ?_
            refine x_if_ne 271 dm_103_260 rfl (fun c33 => ?_) (fun c33 => ?_)
            · refine x_aload_n dm_103_263 rfl ?_
              refine x_iconst (0) dm_103_264 (by decide) ?_
              refine im_chk _ (fun hk34 => ?_)
              refine im_callV mf_100 rfl (tn_100 j (0 : Int32) b31.2) (im_runV (as := [.inl (0 : Int32)]) (rest := []) dm_103_265 mf_100 (Nat.le_of_ble_eq_true rfl) ml_8_112 mi_100 ms_100 mp_100 (Nat.le_of_ble_eq_true rfl) rfl hk34 ⟨_, _, rfl⟩) rfl (fun b35 hb35 => ?_)
              refine x_goto 341 dm_103_268 rfl ?_
              exact x_return dm_103_341 rfl
            · refine x_iload_n dm_103_271 rfl ?_
              refine x_bipush (14) dm_103_272 (by decide) ?_
              refine x_icmp_ne 293 dm_103_274 rfl (fun c36 => ?_) (fun c36 => ?_)
              · refine x_aload_n dm_103_277 rfl ?_
                refine x_bipush (14) dm_103_278 (by decide) ?_
                refine x_iconst (0) dm_103_280 (by decide) ?_
                refine x_iconst (0) dm_103_281 (by decide) ?_
                refine x_iload dm_103_282 rfl ?_
                refine im_callI mf_99 rfl (tn_99 (14 : Int32) (0 : Int32) (0 : Int32) _ b31.2) (im_runS (as := [.inl (14 : Int32), .inl (0 : Int32), .inl (0 : Int32), .inl _]) (rest := [.inr (some j)]) dm_103_284 mf_99 (Nat.le_of_ble_eq_true rfl) ml_8_116 mi_99 mp_99 (Nat.le_of_ble_eq_true rfl)) rfl (fun b37 hb37 => ?_)
                refine im_chk _ (fun hk38 => ?_)
                refine im_callV mf_100 rfl (tn_100 j b37.1 b37.2) (im_runV (as := [.inl b37.1]) (rest := []) dm_103_287 mf_100 (Nat.le_of_ble_eq_true rfl) ml_8_112 mi_100 ms_100 mp_100 (Nat.le_of_ble_eq_true rfl) rfl hk38 ⟨_, _, rfl⟩) rfl (fun b39 hb39 => ?_)
                refine x_goto 341 dm_103_290 rfl ?_
                exact x_return dm_103_341 rfl
              · refine x_iload_n dm_103_293 rfl ?_
                refine x_iconst (1) dm_103_294 (by decide) ?_
                refine x_icmp_ne 314 dm_103_295 rfl (fun c40 => ?_) (fun c40 => ?_)
                · refine x_aload_n dm_103_298 rfl ?_
                  refine x_iconst (1) dm_103_299 (by decide) ?_
                  refine x_iload dm_103_300 rfl ?_
                  refine x_iconst (0) dm_103_302 (by decide) ?_
                  refine x_iload dm_103_303 rfl ?_
                  refine im_callI mf_99 rfl (tn_99 (1 : Int32) _ (0 : Int32) _ b31.2) (im_runS (as := [.inl (1 : Int32), .inl _, .inl (0 : Int32), .inl _]) (rest := [.inr (some j)]) dm_103_305 mf_99 (Nat.le_of_ble_eq_true rfl) ml_8_116 mi_99 mp_99 (Nat.le_of_ble_eq_true rfl)) rfl (fun b41 hb41 => ?_)
                  refine im_chk _ (fun hk42 => ?_)
                  refine im_callV mf_100 rfl (tn_100 j b41.1 b41.2) (im_runV (as := [.inl b41.1]) (rest := []) dm_103_308 mf_100 (Nat.le_of_ble_eq_true rfl) ml_8_112 mi_100 ms_100 mp_100 (Nat.le_of_ble_eq_true rfl) rfl hk42 ⟨_, _, rfl⟩) rfl (fun b43 hb43 => ?_)
                  refine x_goto 341 dm_103_311 rfl ?_
                  exact x_return dm_103_341 rfl
                · refine x_aload_n dm_103_314 rfl ?_
                  refine x_iload_n dm_103_315 rfl ?_
                  refine x_iload dm_103_316 rfl ?_
                  refine x_iload dm_103_318 rfl ?_
                  refine x_iload_n dm_103_320 rfl ?_
                  refine x_iconst (3) dm_103_321 (by decide) ?_
                  refine x_iconst (5) dm_103_322 (by decide) ?_
                  refine im_callI mf_92 rfl (tn_92 _ (3 : Int32) (5 : Int32) b31.2) (im_runS (as := [.inl _, .inl (3 : Int32), .inl (5 : Int32)]) (rest := [.inl _, .inl _, .inl _, .inr (some j)]) dm_103_323 mf_92 (Nat.le_of_ble_eq_true rfl) ml_8_83 mi_92 mp_92 (Nat.le_of_ble_eq_true rfl)) rfl (fun b44 hb44 => ?_)
                  refine x_if_eq 333 dm_103_326 rfl (fun c45 => ?_) (fun c45 => ?_)
                  · refine x_iload dm_103_333 rfl ?_
                    exact im_lsub [] im_sb_n (tn_103_335 j _ _ _ _ (some j) b44.2)
                  · refine x_iconst (0) dm_103_329 (by decide) ?_
                    refine x_goto 335 dm_103_330 rfl ?_
                    exact im_lsub [] im_sb_n (tn_103_335 j (0 : Int32) _ _ _ (some j) b44.2)
          · refine x_aload_n dm_103_209 rfl ?_
            refine x_iload dm_103_210 rfl ?_
            refine im_chk _ (fun hk46 => ?_)
            refine im_callI mf_101 rfl (tn_101 j _ b31.2) (im_runV (as := [.inl _]) (rest := []) dm_103_212 mf_101 (Nat.le_of_ble_eq_true rfl) ml_8_120 mi_101 ms_101 mp_101 (Nat.le_of_ble_eq_true rfl) rfl hk46 ⟨_, _, rfl⟩) rfl (fun b47 hb47 => ?_)
            refine x_aload_n dm_103_215 rfl ?_
            refine im_chk _ (fun hk48 => ?_)
            refine x_getI dm_103_216 fl_8_93 rfl rfl hk48 ?_
            refine x_isub dm_103_219 ?_
            refine x_iconst (1) dm_103_220 (by decide) ?_
            refine x_isub dm_103_221 ?_
            refine x_istore dm_103_222 (Nat.le_of_ble_eq_true rfl) ?_
            refine x_aload_n dm_103_224 rfl ?_
            refine x_iload_n dm_103_225 rfl ?_
            refine x_bipush (12) dm_103_226 (by decide) ?_
            refine x_icmp_ne 243 dm_103_228 rfl (fun c50 => ?_) (fun c50 => ?_)
            · refine x_bipush (12) dm_103_231 (by decide) ?_
              refine x_iconst (0) dm_103_233 (by decide) ?_
              refine x_iconst (0) dm_103_234 (by decide) ?_
              refine x_iload dm_103_235 rfl ?_
              refine im_callI mf_99 rfl (tn_99 (12 : Int32) (0 : Int32) (0 : Int32) _ b47.2) (im_runS (as := [.inl (12 : Int32), .inl (0 : Int32), .inl (0 : Int32), .inl _]) (rest := [.inr (some j)]) dm_103_237 mf_99 (Nat.le_of_ble_eq_true rfl) ml_8_116 mi_99 mp_99 (Nat.le_of_ble_eq_true rfl)) rfl (fun b51 hb51 => ?_)
              refine x_goto 253 dm_103_240 rfl ?_
              exact im_lsub [] im_sb_n (tn_103_253 j b51.1 (some j) b51.2)
            · refine x_iload_n dm_103_243 rfl ?_
              refine x_iload dm_103_244 rfl ?_
              refine x_iload dm_103_246 rfl ?_
              refine x_iload dm_103_248 rfl ?_
              refine im_callI mf_99 rfl (tn_99 _ _ _ _ b47.2) (im_runS (as := [.inl _, .inl _, .inl _, .inl _]) (rest := [.inr (some j)]) dm_103_250 mf_99 (Nat.le_of_ble_eq_true rfl) ml_8_116 mi_99 mp_99 (Nat.le_of_ble_eq_true rfl)) rfl (fun b52 hb52 => ?_)
              exact im_lsub [] im_sb_n (tn_103_253 j b52.1 (some j) b52.2)
def fn_107_95 (j : Nat) (h : im_H) : Option (Int32 × im_H) :=
  some ((1 : Int32), h)
set_option maxRecDepth 100000 in
set_option maxHeartbeats 4000000 in
theorem tn_107_95 (j : Nat) (h : im_H) : im_Go im_zI 2 fm_107 95 [] [] h (fn_107_95 j h) := by
  unfold fn_107_95
  refine x_iconst (1) dm_107_95 (by decide) ?_
  refine x_goto 100 dm_107_96 rfl ?_
  exact x_zreturn dm_107_100 rfl (by decide)
def fn_107_60 (j : Nat) (y1 : Int32) (y2 : Int32) (y3 : Int32) (s0 : Int32) (h : im_H) : Option (Int32 × im_H) :=
  if h.2.1 j = (0, 8) then ((fn_106 j y1 (7 : Int32) y2 y2 y3 h).bind fun b2 => if b2.1 = 0 then (if s0 = 0 then (some ((0 : Int32), b2.2)) else (if b2.2.2.1 j = (0, 8) then ((fn_106 j (y1 + (1 : Int32)) (7 : Int32) y2 y2 y3 b2.2).bind fun b6 => if b6.1 = 0 then (some ((0 : Int32), b6.2)) else (fn_107_95 j b6.2)) else none)) else (fn_107_95 j b2.2)) else none
set_option maxRecDepth 100000 in
set_option maxHeartbeats 4000000 in
theorem tn_107_60 (j : Nat) (y1 : Int32) (y2 : Int32) (y3 : Int32) (s0 : Int32) (h : im_H) : im_Go im_zI 2 fm_107 60 [(0, .inr (some j)), (1, .inl y1), (2, .inl y2), (3, .inl y3)] [.inl s0] h (fn_107_60 j y1 y2 y3 s0 h) := by
  unfold fn_107_60
  refine x_istore dm_107_60 (Nat.le_of_ble_eq_true rfl) ?_
  refine x_aload_n dm_107_62 rfl ?_
  refine x_iload_n dm_107_63 rfl ?_
  refine x_bipush (7) dm_107_64 (by decide) ?_
  refine x_iload_n dm_107_66 rfl ?_
  refine x_iload_n dm_107_67 rfl ?_
  refine x_iload_n dm_107_68 rfl ?_
  refine im_chk _ (fun hk1 => ?_)
  refine im_callI mf_106 rfl (tn_106 j y1 (7 : Int32) y2 y2 y3 h) (im_runV (as := [.inl y1, .inl (7 : Int32), .inl y2, .inl y2, .inl y3]) (rest := []) dm_107_69 mf_106 (Nat.le_of_ble_eq_true rfl) ml_8_123 mi_106 ms_106 mp_106 (Nat.le_of_ble_eq_true rfl) rfl hk1 ⟨_, _, rfl⟩) rfl (fun b2 hb2 => ?_)
  refine x_if_ne 95 dm_107_72 rfl (fun c3 => ?_) (fun c3 => ?_)
  · refine x_iload dm_107_75 rfl ?_
    refine x_if_eq 99 dm_107_77 rfl (fun c4 => ?_) (fun c4 => ?_)
    · refine x_iconst (0) dm_107_99 (by decide) ?_
      exact x_zreturn dm_107_100 rfl (by decide)
    · refine x_aload_n dm_107_80 rfl ?_
      refine x_iload_n dm_107_81 rfl ?_
      refine x_iconst (1) dm_107_82 (by decide) ?_
      refine x_iadd dm_107_83 ?_
      refine x_bipush (7) dm_107_84 (by decide) ?_
      refine x_iload_n dm_107_86 rfl ?_
      refine x_iload_n dm_107_87 rfl ?_
      refine x_iload_n dm_107_88 rfl ?_
      refine im_chk _ (fun hk5 => ?_)
      refine im_callI mf_106 rfl (tn_106 j _ (7 : Int32) y2 y2 y3 b2.2) (im_runV (as := [.inl _, .inl (7 : Int32), .inl y2, .inl y2, .inl y3]) (rest := []) dm_107_89 mf_106 (Nat.le_of_ble_eq_true rfl) ml_8_123 mi_106 ms_106 mp_106 (Nat.le_of_ble_eq_true rfl) rfl hk5 ⟨_, _, rfl⟩) rfl (fun b6 hb6 => ?_)
      refine x_if_eq 99 dm_107_92 rfl (fun c7 => ?_) (fun c7 => ?_)
      · refine x_iconst (0) dm_107_99 (by decide) ?_
        exact x_zreturn dm_107_100 rfl (by decide)
      · exact im_lsub [] im_sb_n (tn_107_95 j b6.2)
  · exact im_lsub [] im_sb_n (tn_107_95 j b2.2)
def fn_107_59 (j : Nat) (y1 : Int32) (y2 : Int32) (y3 : Int32) (h : im_H) : Option (Int32 × im_H) :=
  fn_107_60 j y1 y2 y3 (0 : Int32) h
set_option maxRecDepth 100000 in
set_option maxHeartbeats 4000000 in
theorem tn_107_59 (j : Nat) (y1 : Int32) (y2 : Int32) (y3 : Int32) (h : im_H) : im_Go im_zI 2 fm_107 59 [(0, .inr (some j)), (1, .inl y1), (2, .inl y2), (3, .inl y3)] [] h (fn_107_59 j y1 y2 y3 h) := by
  unfold fn_107_59
  refine x_iconst (0) dm_107_59 (by decide) ?_
  exact im_lsub [(0, .inr (some j)), (1, .inl y1), (2, .inl y2), (3, .inl y3)] (im_sb_c rfl (im_sb_c rfl (im_sb_c rfl (im_sb_c rfl im_sb_n)))) (tn_107_60 j y1 y2 y3 (0 : Int32) h)
/-- FencedModulesModel.keeps(IIII)Z -/
def fn_107 (j : Nat) (x1 : Int32) (x2 : Int32) (x3 : Int32) (x4 : Int32) (h : im_H) : Option (Int32 × im_H) :=
  if h.2.1 j = (0, 8) then (((im_gR h j 24)).bind fun q2 => if im_in h 1 q2 x1 then (let v4 : Int32 := (im_gI h q2 (x1).toNatClampNeg); (fn_92 (v4 &&& (15 : Int32)) (1 : Int32) (8 : Int32) h).bind fun b5 => if b5.1 = 0 then (some ((1 : Int32), b5.2)) else (if ((v4 >>> ((4 : Int32) &&& 31)) &&& (7 : Int32)) = x2 then (if (v4 &&& (15 : Int32)) = (6 : Int32) then (if (v4 >>> ((10 : Int32) &&& 31)) = x4 then (fn_107_60 j x1 x2 x3 (1 : Int32) b5.2) else (fn_107_59 j x1 x2 x3 b5.2)) else (fn_107_59 j x1 x2 x3 b5.2)) else (some ((1 : Int32), b5.2)))) else none) else none
set_option maxRecDepth 100000 in
set_option maxHeartbeats 4000000 in
theorem tn_107 (j : Nat) (x1 : Int32) (x2 : Int32) (x3 : Int32) (x4 : Int32) (h : im_H) : im_Go im_zI 2 fm_107 0 (im_en 0 [.inr (some j), .inl x1, .inl x2, .inl x3, .inl x4]) [] h (fn_107 j x1 x2 x3 x4 h) := by
  unfold fn_107
  refine x_aload_n dm_107_0 rfl ?_
  refine im_chk _ (fun hk1 => ?_)
  refine x_getR dm_107_1 fl_8_71 rfl rfl hk1 ?_
  refine x_iload_n dm_107_4 rfl ?_
  refine im_bind (fun q2 hq2 => ?_)
  refine im_chk _ (fun hi3 => ?_)
  refine x_iaload dm_107_5 hq2 hi3 ?_
  refine x_istore dm_107_6 (Nat.le_of_ble_eq_true rfl) ?_
  refine x_iload dm_107_8 rfl ?_
  refine x_bipush (15) dm_107_10 (by decide) ?_
  refine x_iand dm_107_12 ?_
  refine x_iconst (1) dm_107_13 (by decide) ?_
  refine x_bipush (8) dm_107_14 (by decide) ?_
  refine im_callI mf_92 rfl (tn_92 _ (1 : Int32) (8 : Int32) h) (im_runS (as := [.inl _, .inl (1 : Int32), .inl (8 : Int32)]) (rest := []) dm_107_16 mf_92 (Nat.le_of_ble_eq_true rfl) ml_8_83 mi_92 mp_92 (Nat.le_of_ble_eq_true rfl)) rfl (fun b5 hb5 => ?_)
  refine x_if_eq 33 dm_107_19 rfl (fun c6 => ?_) (fun c6 => ?_)
  · refine x_iconst (1) dm_107_33 (by decide) ?_
    exact x_zreturn dm_107_34 rfl (by decide)
  · refine x_iload dm_107_22 rfl ?_
    refine x_iconst (4) dm_107_24 (by decide) ?_
    refine x_ishr dm_107_25 ?_
    refine x_bipush (7) dm_107_26 (by decide) ?_
    refine x_iand dm_107_28 ?_
    refine x_iload_n dm_107_29 rfl ?_
    refine x_icmp_eq 35 dm_107_30 rfl (fun c7 => ?_) (fun c7 => ?_)
    · refine x_iload dm_107_35 rfl ?_
      refine x_bipush (15) dm_107_37 (by decide) ?_
      refine x_iand dm_107_39 ?_
      refine x_bipush (6) dm_107_40 (by decide) ?_
      refine x_icmp_ne 59 dm_107_42 rfl (fun c8 => ?_) (fun c8 => ?_)
      · refine x_iload dm_107_45 rfl ?_
        refine x_bipush (10) dm_107_47 (by decide) ?_
        refine x_ishr dm_107_49 ?_
        refine x_iload dm_107_50 rfl ?_
        refine x_icmp_ne 59 dm_107_52 rfl (fun c9 => ?_) (fun c9 => ?_)
        · refine x_iconst (1) dm_107_55 (by decide) ?_
          refine x_goto 60 dm_107_56 rfl ?_
          exact im_lsub [(0, .inr (some j)), (1, .inl x1), (2, .inl x2), (3, .inl x3)] (im_sb_c rfl (im_sb_c rfl (im_sb_c rfl (im_sb_c rfl im_sb_n)))) (tn_107_60 j x1 x2 x3 (1 : Int32) b5.2)
        · exact im_lsub [(0, .inr (some j)), (1, .inl x1), (2, .inl x2), (3, .inl x3)] (im_sb_c rfl (im_sb_c rfl (im_sb_c rfl (im_sb_c rfl im_sb_n)))) (tn_107_59 j x1 x2 x3 b5.2)
      · exact im_lsub [(0, .inr (some j)), (1, .inl x1), (2, .inl x2), (3, .inl x3)] (im_sb_c rfl (im_sb_c rfl (im_sb_c rfl (im_sb_c rfl im_sb_n)))) (tn_107_59 j x1 x2 x3 b5.2)
    · refine x_iconst (1) dm_107_33 (by decide) ?_
      exact x_zreturn dm_107_34 rfl (by decide)
