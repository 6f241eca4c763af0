/-- FencedModules$CallList.empty()V -/
def gn_1 (c : Nat) (M : im_M) : Option (im_M) :=
  let M1 : im_M := im_u M c 3 (0 : Int32); some M1
set_option maxRecDepth 100000 in
set_option maxHeartbeats 4000000 in
theorem tg_1 (c : Nat) (hc : st_isL c) (M : im_M) : im_Go zC_V 0 fm_1 0 (im_en 0 [.inr (some c)]) [] (st_hC M) (gn_1 c M) := by
  unfold gn_1
  refine x_aload_n dm_1_0 rfl ?_
  refine x_iconst (0) dm_1_1 (by decide) ?_
  refine x_putIC dm_1_2 fl_0_19 rfl rfl (kc_L hc) ?_
  exact x_vretC dm_1_5 rfl
def gn_2_46 (c : Nat) (M : im_M) : Option (im_M) :=
  let M1 : im_M := im_u M c 3 ((M c 3) + (1 : Int32)); some M1
set_option maxRecDepth 100000 in
set_option maxHeartbeats 4000000 in
theorem tg_2_46 (c : Nat) (hc : st_isL c) (M : im_M) : im_Go zC_V 0 fm_2 46 [(0, .inr (some c))] [] (st_hC M) (gn_2_46 c M) := by
  unfold gn_2_46
  refine x_aload_n dm_2_46 rfl ?_
  refine x_dup dm_2_47 ?_
  refine x_getI dm_2_48 fl_0_19 rfl rfl (kc_L hc) ?_
  refine x_iconst (1) dm_2_51 (by decide) ?_
  refine x_iadd dm_2_52 ?_
  refine x_putIC dm_2_53 fl_0_19 rfl rfl (kc_L hc) ?_
  exact x_vretC dm_2_56 rfl
/-- FencedModules$CallList.note(III)V -/
def gn_2 (c : Nat) (x1 : Int32) (x2 : Int32) (x3 : Int32) (M : im_M) : Option (im_M) :=
  if (M c 3) < 0 then (gn_2_46 c M) else (if (16 : Int32) ≤ (M c 3) then (gn_2_46 c M) else (if st_ib (M c 3) 16 then (let M4 : im_M := im_u M (c + 1) ((M c 3)).toNatClampNeg x1; if st_ib (M4 c 3) 16 then (let M6 : im_M := im_u M4 (c + 2) ((M4 c 3)).toNatClampNeg x2; if st_ib (M6 c 3) 16 then (let M8 : im_M := im_u M6 (c + 3) ((M6 c 3)).toNatClampNeg x3; gn_2_46 c M8) else none) else none) else none))
set_option maxRecDepth 100000 in
set_option maxHeartbeats 4000000 in
theorem tg_2 (c : Nat) (hc : st_isL c) (x1 : Int32) (x2 : Int32) (x3 : Int32) (M : im_M) : im_Go zC_V 0 fm_2 0 (im_en 0 [.inr (some c), .inl x1, .inl x2, .inl x3]) [] (st_hC M) (gn_2 c x1 x2 x3 M) := by
  unfold gn_2
  refine x_aload_n dm_2_0 rfl ?_
  refine x_getI dm_2_1 fl_0_19 rfl rfl (kc_L hc) ?_
  refine x_if_lt 46 dm_2_4 rfl (fun c1 => ?_) (fun c1 => ?_)
  · exact im_lsub [(0, .inr (some c))] (im_sb_c rfl im_sb_n) (tg_2_46 c hc M)
  · refine x_aload_n dm_2_7 rfl ?_
    refine x_getI dm_2_8 fl_0_19 rfl rfl (kc_L hc) ?_
    refine x_bipush (16) dm_2_11 (by decide) ?_
    refine x_icmp_ge 46 dm_2_13 rfl (fun c2 => ?_) (fun c2 => ?_)
    · exact im_lsub [(0, .inr (some c))] (im_sb_c rfl im_sb_n) (tg_2_46 c hc M)
    · refine x_aload_n dm_2_16 rfl ?_
      refine x_getRC dm_2_17 fl_0_9 rfl rfl (kc_L hc) (rc_L0 hc) ?_
      refine x_aload_n dm_2_20 rfl ?_
      refine x_getI dm_2_21 fl_0_19 rfl rfl (kc_L hc) ?_
      refine x_iload_n dm_2_24 rfl ?_
      refine im_chk _ (fun hi3 => ?_)
      refine x_iastoreC _ rfl dm_2_25 rfl (mk_in (kc_L1 hc) hi3) ?_
      refine x_aload_n dm_2_26 rfl ?_
      refine x_getRC dm_2_27 fl_0_13 rfl rfl (kc_L hc) (rc_L1 hc) ?_
      refine x_aload_n dm_2_30 rfl ?_
      refine x_getI dm_2_31 fl_0_19 rfl rfl (kc_L hc) ?_
      refine x_iload_n dm_2_34 rfl ?_
      refine im_chk _ (fun hi5 => ?_)
      refine x_iastoreC _ rfl dm_2_35 rfl (mk_in (kc_L2 hc) hi5) ?_
      refine x_aload_n dm_2_36 rfl ?_
      refine x_getRC dm_2_37 fl_0_16 rfl rfl (kc_L hc) (rc_L2 hc) ?_
      refine x_aload_n dm_2_40 rfl ?_
      refine x_getI dm_2_41 fl_0_19 rfl rfl (kc_L hc) ?_
      refine x_iload_n dm_2_44 rfl ?_
      refine im_chk _ (fun hi7 => ?_)
      refine x_iastoreC _ rfl dm_2_45 rfl (mk_in (kc_L3 hc) hi7) ?_
      exact im_lsub [(0, .inr (some c))] (im_sb_c rfl im_sb_n) (tg_2_46 c hc _)
/-- FencedModules$CallList.tell(II)I -/
def gn_3 (c : Nat) (x1 : Int32) (x2 : Int32) (M : im_M) : Option (Int32 × im_M) :=
  if x1 = (-1 : Int32) then (some ((M c 3), M)) else (if x1 < 0 then (some ((0 : Int32), M)) else (if (16 : Int32) ≤ x1 then (some ((0 : Int32), M)) else (if x1 < (M c 3) then (if x2 = 0 then (if st_ib x1 16 then (some ((M (c + 1) (x1).toNatClampNeg), M)) else none) else (if x2 = 1 then (if st_ib x1 16 then (some ((M (c + 2) (x1).toNatClampNeg), M)) else none) else (if x2 = 2 then (if st_ib x1 16 then (some ((M (c + 3) (x1).toNatClampNeg), M)) else none) else (some ((0 : Int32), M))))) else (some ((0 : Int32), M)))))
set_option maxRecDepth 100000 in
set_option maxHeartbeats 4000000 in
theorem tg_3 (c : Nat) (hc : st_isL c) (x1 : Int32) (x2 : Int32) (M : im_M) : im_Go zC_I 0 fm_3 0 (im_en 0 [.inr (some c), .inl x1, .inl x2]) [] (st_hC M) (gn_3 c x1 x2 M) := by
  unfold gn_3
  refine x_iload_n dm_3_0 rfl ?_
  refine x_iconst (-1) dm_3_1 (by decide) ?_
  refine x_icmp_ne 10 dm_3_2 rfl (fun c1 => ?_) (fun c1 => ?_)
  · refine x_aload_n dm_3_5 rfl ?_
    refine x_getI dm_3_6 fl_0_19 rfl rfl (kc_L hc) ?_
    exact x_iretC dm_3_9 rfl
  · refine x_iload_n dm_3_10 rfl ?_
    refine x_if_lt 28 dm_3_11 rfl (fun c2 => ?_) (fun c2 => ?_)
    · refine x_iconst (0) dm_3_28 (by decide) ?_
      exact x_iretC dm_3_29 rfl
    · refine x_iload_n dm_3_14 rfl ?_
      refine x_bipush (16) dm_3_15 (by decide) ?_
      refine x_icmp_ge 28 dm_3_17 rfl (fun c3 => ?_) (fun c3 => ?_)
      · refine x_iconst (0) dm_3_28 (by decide) ?_
        exact x_iretC dm_3_29 rfl
      · refine x_iload_n dm_3_20 rfl ?_
        refine x_aload_n dm_3_21 rfl ?_
        refine x_getI dm_3_22 fl_0_19 rfl rfl (kc_L hc) ?_
        refine x_icmp_lt 30 dm_3_25 rfl (fun c4 => ?_) (fun c4 => ?_)
        · refine x_iload_n dm_3_30 rfl ?_
          refine im_test _ (fun c5 => ?_) (fun c5 => ?_)
          · refine x_tabIn 0 56 dm_3_31 c5 (by decide) (by decide) rfl rfl ?_
            refine x_aload_n dm_3_56 rfl ?_
            refine x_getRC dm_3_57 fl_0_9 rfl rfl (kc_L hc) (rc_L0 hc) ?_
            refine x_iload_n dm_3_60 rfl ?_
            refine im_chk _ (fun hi6 => ?_)
            refine x_ialoadX _ rfl dm_3_61 rfl (mk_in (kc_L1 hc) hi6) ?_
            exact x_iretC dm_3_62 rfl
          refine im_test _ (fun c7 => ?_) (fun c7 => ?_)
          · refine x_tabIn 1 63 dm_3_31 c7 (by decide) (by decide) rfl rfl ?_
            refine x_aload_n dm_3_63 rfl ?_
            refine x_getRC dm_3_64 fl_0_13 rfl rfl (kc_L hc) (rc_L1 hc) ?_
            refine x_iload_n dm_3_67 rfl ?_
            refine im_chk _ (fun hi8 => ?_)
            refine x_ialoadX _ rfl dm_3_68 rfl (mk_in (kc_L2 hc) hi8) ?_
            exact x_iretC dm_3_69 rfl
          refine im_test _ (fun c9 => ?_) (fun c9 => ?_)
          · refine x_tabIn 2 70 dm_3_31 c9 (by decide) (by decide) rfl rfl ?_
            refine x_aload_n dm_3_70 rfl ?_
            refine x_getRC dm_3_71 fl_0_16 rfl rfl (kc_L hc) (rc_L2 hc) ?_
            refine x_iload_n dm_3_74 rfl ?_
            refine im_chk _ (fun hi10 => ?_)
            refine x_ialoadX _ rfl dm_3_75 rfl (mk_in (kc_L3 hc) hi10) ?_
            exact x_iretC dm_3_76 rfl
          refine x_tabOut 77 dm_3_31 (im_swout (0) 3 (by decide) (by decide) (fun i hi => match i, hi with | 0, _ => c5 | 1, _ => c7 | 2, _ => c9 | i + 3, hi => absurd hi (by omega))) rfl ?_
          refine x_iconst (0) dm_3_77 (by decide) ?_
          exact x_iretC dm_3_78 rfl
        · refine x_iconst (0) dm_3_28 (by decide) ?_
          exact x_iretC dm_3_29 rfl
/-- FencedModules$Code.empty()V -/
def gn_5 (M : im_M) : Option (im_M) :=
  let M1 : im_M := im_u M 7 1 (0 : Int32); some M1
set_option maxRecDepth 100000 in
set_option maxHeartbeats 4000000 in
theorem tg_5 (M : im_M) : im_Go zC_V 0 fm_5 0 (im_en 0 [.inr (some 7)]) [] (st_hC M) (gn_5 M) := by
  unfold gn_5
  refine x_aload_n dm_5_0 rfl ?_
  refine x_iconst (0) dm_5_1 (by decide) ?_
  refine x_putIC dm_5_2 fl_1_13 rfl rfl rfl ?_
  exact x_vretC dm_5_5 rfl
/-- FencedModules$Code.add(I)Z -/
def gn_6 (x1 : Int32) (M : im_M) : Option (Int32 × im_M) :=
  if (M 7 1) < (31 : Int32) then (if st_ib (M 7 1) 31 then (let M3 : im_M := im_u M 8 ((M 7 1)).toNatClampNeg x1; let M4 : im_M := im_u M3 7 1 ((M3 7 1) + (1 : Int32)); some ((1 : Int32), M4)) else none) else (some ((0 : Int32), M))
set_option maxRecDepth 100000 in
set_option maxHeartbeats 4000000 in
theorem tg_6 (x1 : Int32) (M : im_M) : im_Go zC_I 0 fm_6 0 (im_en 0 [.inr (some 7), .inl x1]) [] (st_hC M) (gn_6 x1 M) := by
  unfold gn_6
  refine x_aload_n dm_6_0 rfl ?_
  refine x_getI dm_6_1 fl_1_13 rfl rfl rfl ?_
  refine x_bipush (31) dm_6_4 (by decide) ?_
  refine x_icmp_lt 11 dm_6_6 rfl (fun c1 => ?_) (fun c1 => ?_)
  · refine x_aload_n dm_6_11 rfl ?_
    refine x_getRC dm_6_12 fl_1_9 rfl rfl rfl rfl ?_
    refine x_aload_n dm_6_15 rfl ?_
    refine x_getI dm_6_16 fl_1_13 rfl rfl rfl ?_
    refine x_iload_n dm_6_19 rfl ?_
    refine im_chk _ (fun hi2 => ?_)
    refine x_iastoreC _ rfl dm_6_20 rfl (mk_in rfl hi2) ?_
    refine x_aload_n dm_6_21 rfl ?_
    refine x_dup dm_6_22 ?_
    refine x_getI dm_6_23 fl_1_13 rfl rfl rfl ?_
    refine x_iconst (1) dm_6_26 (by decide) ?_
    refine x_iadd dm_6_27 ?_
    refine x_putIC dm_6_28 fl_1_13 rfl rfl rfl ?_
    refine x_iconst (1) dm_6_31 (by decide) ?_
    exact x_zretC dm_6_32 rfl (by decide)
  · refine x_iconst (0) dm_6_9 (by decide) ?_
    exact x_zretC dm_6_10 rfl (by decide)
/-- FencedModules$Code.count()I -/
def gn_7 (M : im_M) : Option (Int32 × im_M) :=
  some ((M 7 1), M)
set_option maxRecDepth 100000 in
set_option maxHeartbeats 4000000 in
theorem tg_7 (M : im_M) : im_Go zC_I 0 fm_7 0 (im_en 0 [.inr (some 7)]) [] (st_hC M) (gn_7 M) := by
  unfold gn_7
  refine x_aload_n dm_7_0 rfl ?_
  refine x_getI dm_7_1 fl_1_13 rfl rfl rfl ?_
  exact x_iretC dm_7_4 rfl
/-- FencedModules$Code.at(I)I -/
def gn_8 (x1 : Int32) (M : im_M) : Option (Int32 × im_M) :=
  if x1 < 0 then (some ((0 : Int32), M)) else (if (M 7 1) ≤ x1 then (some ((0 : Int32), M)) else (if st_ib x1 31 then (some ((M 8 (x1).toNatClampNeg), M)) else none))
set_option maxRecDepth 100000 in
set_option maxHeartbeats 4000000 in
theorem tg_8 (x1 : Int32) (M : im_M) : im_Go zC_I 0 fm_8 0 (im_en 0 [.inr (some 7), .inl x1]) [] (st_hC M) (gn_8 x1 M) := by
  unfold gn_8
  refine x_iload_n dm_8_0 rfl ?_
  refine x_if_lt 21 dm_8_1 rfl (fun c1 => ?_) (fun c1 => ?_)
  · refine x_iconst (0) dm_8_21 (by decide) ?_
    exact x_iretC dm_8_22 rfl
  · refine x_iload_n dm_8_4 rfl ?_
    refine x_aload_n dm_8_5 rfl ?_
    refine x_getI dm_8_6 fl_1_13 rfl rfl rfl ?_
    refine x_icmp_ge 21 dm_8_9 rfl (fun c2 => ?_) (fun c2 => ?_)
    · refine x_iconst (0) dm_8_21 (by decide) ?_
      exact x_iretC dm_8_22 rfl
    · refine x_aload_n dm_8_12 rfl ?_
      refine x_getRC dm_8_13 fl_1_9 rfl rfl rfl rfl ?_
      refine x_iload_n dm_8_16 rfl ?_
      refine im_chk _ (fun hi3 => ?_)
      refine x_ialoadX _ rfl dm_8_17 rfl (mk_in rfl hi3) ?_
      refine x_goto 22 dm_8_18 rfl ?_
      exact x_iretC dm_8_22 rfl
/-- FencedModules$Desk.answers(I)Z -/
def gn_10 (x0 : Int32) (M : im_M) : Option (Int32 × im_M) :=
  if x0 < 0 then (some ((0 : Int32), M)) else (if (6 : Int32) < x0 then (some ((0 : Int32), M)) else (some ((1 : Int32), M)))
set_option maxRecDepth 100000 in
set_option maxHeartbeats 4000000 in
theorem tg_10 (x0 : Int32) (M : im_M) : im_Go zC_I 0 fm_10 0 (im_en 0 [.inl x0]) [] (st_hC M) (gn_10 x0 M) := by
  unfold gn_10
  refine x_iload_n dm_10_0 rfl ?_
  refine x_if_lt 14 dm_10_1 rfl (fun c1 => ?_) (fun c1 => ?_)
  · refine x_iconst (0) dm_10_14 (by decide) ?_
    exact x_zretC dm_10_15 rfl (by decide)
  · refine x_iload_n dm_10_4 rfl ?_
    refine x_bipush (6) dm_10_5 (by decide) ?_
    refine x_icmp_gt 14 dm_10_7 rfl (fun c2 => ?_) (fun c2 => ?_)
    · refine x_iconst (0) dm_10_14 (by decide) ?_
      exact x_zretC dm_10_15 rfl (by decide)
    · refine x_iconst (1) dm_10_10 (by decide) ?_
      refine x_goto 15 dm_10_11 rfl ?_
      exact x_zretC dm_10_15 rfl (by decide)
/-- FencedModules$Desk.argumentsOf(I)I -/
def gn_11 (x0 : Int32) (M : im_M) : Option (Int32 × im_M) :=
  if x0 = 1 then (some ((1 : Int32), M)) else (if x0 = 2 then (some ((0 : Int32), M)) else (if x0 = 3 then (some ((1 : Int32), M)) else (if x0 = 4 then (some ((2 : Int32), M)) else (if x0 = 5 then (some ((2 : Int32), M)) else (some ((0 : Int32), M))))))
set_option maxRecDepth 100000 in
set_option maxHeartbeats 4000000 in
theorem tg_11 (x0 : Int32) (M : im_M) : im_Go zC_I 0 fm_11 0 (im_en 0 [.inl x0]) [] (st_hC M) (gn_11 x0 M) := by
  unfold gn_11
  refine x_iload_n dm_11_0 rfl ?_
  refine im_test _ (fun c1 => ?_) (fun c1 => ?_)
  · refine x_tabIn 1 36 dm_11_1 c1 (by decide) (by decide) rfl rfl ?_
    refine x_iconst (1) dm_11_36 (by decide) ?_
    exact x_iretC dm_11_37 rfl
  refine im_test _ (fun c2 => ?_) (fun c2 => ?_)
  · refine x_tabIn 2 40 dm_11_1 c2 (by decide) (by decide) rfl rfl ?_
    refine x_iconst (0) dm_11_40 (by decide) ?_
    exact x_iretC dm_11_41 rfl
  refine im_test _ (fun c3 => ?_) (fun c3 => ?_)
  · refine x_tabIn 3 36 dm_11_1 c3 (by decide) (by decide) rfl rfl ?_
    refine x_iconst (1) dm_11_36 (by decide) ?_
    exact x_iretC dm_11_37 rfl
  refine im_test _ (fun c4 => ?_) (fun c4 => ?_)
  · refine x_tabIn 4 38 dm_11_1 c4 (by decide) (by decide) rfl rfl ?_
    refine x_iconst (2) dm_11_38 (by decide) ?_
    exact x_iretC dm_11_39 rfl
  refine im_test _ (fun c5 => ?_) (fun c5 => ?_)
  · refine x_tabIn 5 38 dm_11_1 c5 (by decide) (by decide) rfl rfl ?_
    refine x_iconst (2) dm_11_38 (by decide) ?_
    exact x_iretC dm_11_39 rfl
  refine x_tabOut 40 dm_11_1 (im_swout (1) 5 (by decide) (by decide) (fun i hi => match i, hi with | 0, _ => c1 | 1, _ => c2 | 2, _ => c3 | 3, _ => c4 | 4, _ => c5 | i + 5, hi => absurd hi (by omega))) rfl ?_
  refine x_iconst (0) dm_11_40 (by decide) ?_
  exact x_iretC dm_11_41 rfl
/-- FencedModules$Desk.canPrint(II)Z -/
def gn_12 (x0 : Int32) (x1 : Int32) (M : im_M) : Option (Int32 × im_M) :=
  if x0 < 0 then (some ((0 : Int32), M)) else (if (16 : Int32) < x0 then (some ((0 : Int32), M)) else (if x1 < 0 then (some ((0 : Int32), M)) else (if ((16 : Int32) - x0) < x1 then (some ((0 : Int32), M)) else (some ((1 : Int32), M)))))
set_option maxRecDepth 100000 in
set_option maxHeartbeats 4000000 in
theorem tg_12 (x0 : Int32) (x1 : Int32) (M : im_M) : im_Go zC_I 0 fm_12 0 (im_en 0 [.inl x0, .inl x1]) [] (st_hC M) (gn_12 x0 x1 M) := by
  unfold gn_12
  refine x_iload_n dm_12_0 rfl ?_
  refine x_if_lt 26 dm_12_1 rfl (fun c1 => ?_) (fun c1 => ?_)
  · refine x_iconst (0) dm_12_26 (by decide) ?_
    exact x_zretC dm_12_27 rfl (by decide)
  · refine x_iload_n dm_12_4 rfl ?_
    refine x_bipush (16) dm_12_5 (by decide) ?_
    refine x_icmp_gt 26 dm_12_7 rfl (fun c2 => ?_) (fun c2 => ?_)
    · refine x_iconst (0) dm_12_26 (by decide) ?_
      exact x_zretC dm_12_27 rfl (by decide)
    · refine x_iload_n dm_12_10 rfl ?_
      refine x_if_lt 26 dm_12_11 rfl (fun c3 => ?_) (fun c3 => ?_)
      · refine x_iconst (0) dm_12_26 (by decide) ?_
        exact x_zretC dm_12_27 rfl (by decide)
      · refine x_iload_n dm_12_14 rfl ?_
        refine x_bipush (16) dm_12_15 (by decide) ?_
        refine x_iload_n dm_12_17 rfl ?_
        refine x_isub dm_12_18 ?_
        refine x_icmp_gt 26 dm_12_19 rfl (fun c4 => ?_) (fun c4 => ?_)
        · refine x_iconst (0) dm_12_26 (by decide) ?_
          exact x_zretC dm_12_27 rfl (by decide)
        · refine x_iconst (1) dm_12_22 (by decide) ?_
          refine x_goto 27 dm_12_23 rfl ?_
          exact x_zretC dm_12_27 rfl (by decide)
/-- FencedModules$Desk.allocate(I)I -/
def gn_15 (d : Nat) (x1 : Int32) (M : im_M) : Option (Int32 × im_M) :=
  if x1 < (1 : Int32) then (some ((-1 : Int32), M)) else (if x1 ≤ ((16 : Int32) - (M d 1)) then (let v3 : Int32 := (M d 1); let M4 : im_M := im_u M d 1 ((M d 1) + x1); some (v3, M4)) else (some ((-1 : Int32), M)))
set_option maxRecDepth 100000 in
set_option maxHeartbeats 4000000 in
theorem tg_15 (d : Nat) (hd : st_isD d) (x1 : Int32) (M : im_M) : im_Go zC_I 0 fm_15 0 (im_en 0 [.inr (some d), .inl x1]) [] (st_hC M) (gn_15 d x1 M) := by
  unfold gn_15
  refine x_iload_n dm_15_0 rfl ?_
  refine x_iconst (1) dm_15_1 (by decide) ?_
  refine x_icmp_lt 16 dm_15_2 rfl (fun c1 => ?_) (fun c1 => ?_)
  · refine x_iconst (-1) dm_15_16 (by decide) ?_
    exact x_iretC dm_15_17 rfl
  · refine x_iload_n dm_15_5 rfl ?_
    refine x_bipush (16) dm_15_6 (by decide) ?_
    refine x_aload_n dm_15_8 rfl ?_
    refine x_getI dm_15_9 fl_2_21 rfl rfl (kc_D hd) ?_
    refine x_isub dm_15_12 ?_
    refine x_icmp_le 18 dm_15_13 rfl (fun c2 => ?_) (fun c2 => ?_)
    · refine x_aload_n dm_15_18 rfl ?_
      refine x_getI dm_15_19 fl_2_21 rfl rfl (kc_D hd) ?_
      refine x_istore_n dm_15_22 (Nat.le_of_ble_eq_true rfl) ?_
      refine x_aload_n dm_15_23 rfl ?_
      refine x_dup dm_15_24 ?_
      refine x_getI dm_15_25 fl_2_21 rfl rfl (kc_D hd) ?_
      refine x_iload_n dm_15_28 rfl ?_
      refine x_iadd dm_15_29 ?_
      refine x_putIC dm_15_30 fl_2_21 rfl rfl (kc_D hd) ?_
      refine x_iload_n dm_15_33 rfl ?_
      exact x_iretC dm_15_34 rfl
    · refine x_iconst (-1) dm_15_16 (by decide) ?_
      exact x_iretC dm_15_17 rfl
/-- FencedModules$Desk.takeInput(LFencedModules$Sandbox;)I -/
def gn_16 (d : Nat) (k : Nat) (M : im_M) : Option (Int32 × im_M) :=
  if (M d 2) < 0 then (some ((-1 : Int32), M)) else (if (M d 2) < (M (12 + 10 * k) 4) then (if st_ib (M d 2) 12 then (let v4 : Int32 := (M (14 + 10 * k) ((M d 2)).toNatClampNeg); let M5 : im_M := im_u M d 2 ((M d 2) + (1 : Int32)); some (v4, M5)) else none) else (some ((-1 : Int32), M)))
set_option maxRecDepth 100000 in
set_option maxHeartbeats 4000000 in
theorem tg_16 (d : Nat) (k : Nat) (hd : st_isD d) (hk : k < 3) (M : im_M) : im_Go zC_I 0 fm_16 0 (im_en 0 [.inr (some d), .inr (some (12 + 10 * k))]) [] (st_hC M) (gn_16 d k M) := by
  unfold gn_16
  refine x_aload_n dm_16_0 rfl ?_
  refine x_getI dm_16_1 fl_2_25 rfl rfl (kc_D hd) ?_
  refine x_if_lt 18 dm_16_4 rfl (fun c1 => ?_) (fun c1 => ?_)
  · refine x_iconst (-1) dm_16_18 (by decide) ?_
    exact x_iretC dm_16_19 rfl
  · refine x_aload_n dm_16_7 rfl ?_
    refine x_getI dm_16_8 fl_2_25 rfl rfl (kc_D hd) ?_
    refine x_aload_n dm_16_11 rfl ?_
    refine x_getI dm_16_12 fl_2_36 rfl rfl (kc_S0 hk) ?_
    refine x_icmp_lt 20 dm_16_15 rfl (fun c2 => ?_) (fun c2 => ?_)
    · refine x_aload_n dm_16_20 rfl ?_
      refine x_getRC dm_16_21 fl_2_39 rfl rfl (kc_S0 hk) (rc_S2 hk) ?_
      refine x_aload_n dm_16_24 rfl ?_
      refine x_getI dm_16_25 fl_2_25 rfl rfl (kc_D hd) ?_
      refine im_chk _ (fun hi3 => ?_)
      refine x_ialoadX _ rfl dm_16_28 rfl (mk_in (kc_S2 hk) hi3) ?_
      refine x_istore_n dm_16_29 (Nat.le_of_ble_eq_true rfl) ?_
      refine x_aload_n dm_16_30 rfl ?_
      refine x_dup dm_16_31 ?_
      refine x_getI dm_16_32 fl_2_25 rfl rfl (kc_D hd) ?_
      refine x_iconst (1) dm_16_35 (by decide) ?_
      refine x_iadd dm_16_36 ?_
      refine x_putIC dm_16_37 fl_2_25 rfl rfl (kc_D hd) ?_
      refine x_iload_n dm_16_40 rfl ?_
      exact x_iretC dm_16_41 rfl
    · refine x_iconst (-1) dm_16_18 (by decide) ?_
      exact x_iretC dm_16_19 rfl
/-- FencedModules$Follower.holdsLabel(I)Z -/
def gn_23 (x1 : Int32) (M : im_M) : Option (Int32 × im_M) :=
  if st_ib x1 21 then (if (M 49 (x1).toNatClampNeg) = (-1 : Int32) then (some ((0 : Int32), M)) else (some ((1 : Int32), M))) else none
set_option maxRecDepth 100000 in
set_option maxHeartbeats 4000000 in
theorem tg_23 (x1 : Int32) (M : im_M) : im_Go zC_I 0 fm_23 0 (im_en 0 [.inr (some 42), .inl x1]) [] (st_hC M) (gn_23 x1 M) := by
  unfold gn_23
  refine x_aload_n dm_23_0 rfl ?_
  refine x_getRC dm_23_1 fl_3_24 rfl rfl rfl rfl ?_
  refine x_iload_n dm_23_4 rfl ?_
  refine im_chk _ (fun hi1 => ?_)
  refine x_ialoadX _ rfl dm_23_5 rfl (mk_in rfl hi1) ?_
  refine x_iconst (-1) dm_23_6 (by decide) ?_
  refine x_icmp_eq 14 dm_23_7 rfl (fun c2 => ?_) (fun c2 => ?_)
  · refine x_iconst (0) dm_23_14 (by decide) ?_
    exact x_zretC dm_23_15 rfl (by decide)
  · refine x_iconst (1) dm_23_10 (by decide) ?_
    refine x_goto 15 dm_23_11 rfl ?_
    exact x_zretC dm_23_15 rfl (by decide)
/-- FencedModules$Follower.isAddress(I)Z -/
def gn_24 (x0 : Int32) (M : im_M) : Option (Int32 × im_M) :=
  if x0 < 0 then (some ((0 : Int32), M)) else (if (16 : Int32) ≤ x0 then (some ((0 : Int32), M)) else (some ((1 : Int32), M)))
set_option maxRecDepth 100000 in
set_option maxHeartbeats 4000000 in
theorem tg_24 (x0 : Int32) (M : im_M) : im_Go zC_I 0 fm_24 0 (im_en 0 [.inl x0]) [] (st_hC M) (gn_24 x0 M) := by
  unfold gn_24
  refine x_iload_n dm_24_0 rfl ?_
  refine x_if_lt 14 dm_24_1 rfl (fun c1 => ?_) (fun c1 => ?_)
  · refine x_iconst (0) dm_24_14 (by decide) ?_
    exact x_zretC dm_24_15 rfl (by decide)
  · refine x_iload_n dm_24_4 rfl ?_
    refine x_bipush (16) dm_24_5 (by decide) ?_
    refine x_icmp_ge 14 dm_24_7 rfl (fun c2 => ?_) (fun c2 => ?_)
    · refine x_iconst (0) dm_24_14 (by decide) ?_
      exact x_zretC dm_24_15 rfl (by decide)
    · refine x_iconst (1) dm_24_10 (by decide) ?_
      refine x_goto 15 dm_24_11 rfl ?_
      exact x_zretC dm_24_15 rfl (by decide)
/-- FencedModules$Follower.copyCell(II)V -/
def gn_26 (x1 : Int32) (x2 : Int32) (M : im_M) : Option (im_M) :=
  if st_ib x1 21 then (if st_ib x2 21 then (let M3 : im_M := im_u M 48 (x2).toNatClampNeg (M 48 (x1).toNatClampNeg); if st_ib x1 21 then (if st_ib x2 21 then (let M6 : im_M := im_u M3 49 (x2).toNatClampNeg (M3 49 (x1).toNatClampNeg); some M6) else none) else none) else none) else none
set_option maxRecDepth 100000 in
set_option maxHeartbeats 4000000 in
theorem tg_26 (x1 : Int32) (x2 : Int32) (M : im_M) : im_Go zC_V 0 fm_26 0 (im_en 0 [.inr (some 42), .inl x1, .inl x2]) [] (st_hC M) (gn_26 x1 x2 M) := by
  unfold gn_26
  refine x_aload_n dm_26_0 rfl ?_
  refine x_getRC dm_26_1 fl_3_20 rfl rfl rfl rfl ?_
  refine x_iload_n dm_26_4 rfl ?_
  refine x_aload_n dm_26_5 rfl ?_
  refine x_getRC dm_26_6 fl_3_20 rfl rfl rfl rfl ?_
  refine x_iload_n dm_26_9 rfl ?_
  refine im_chk _ (fun hi1 => ?_)
  refine x_ialoadX _ rfl dm_26_10 rfl (mk_in rfl hi1) ?_
  refine im_chk _ (fun hi2 => ?_)
  refine x_iastoreC _ rfl dm_26_11 rfl (mk_in rfl hi2) ?_
  refine x_aload_n dm_26_12 rfl ?_
  refine x_getRC dm_26_13 fl_3_24 rfl rfl rfl rfl ?_
  refine x_iload_n dm_26_16 rfl ?_
  refine x_aload_n dm_26_17 rfl ?_
  refine x_getRC dm_26_18 fl_3_24 rfl rfl rfl rfl ?_
  refine x_iload_n dm_26_21 rfl ?_
  refine im_chk _ (fun hi4 => ?_)
  refine x_ialoadX _ rfl dm_26_22 rfl (mk_in rfl hi4) ?_
  refine im_chk _ (fun hi5 => ?_)
  refine x_iastoreC _ rfl dm_26_23 rfl (mk_in rfl hi5) ?_
  exact x_vretC dm_26_24 rfl
/-- FencedModules$Follower.putInt(II)V -/
def gn_27 (x1 : Int32) (x2 : Int32) (M : im_M) : Option (im_M) :=
  if st_ib x1 21 then (let M2 : im_M := im_u M 48 (x1).toNatClampNeg x2; if st_ib x1 21 then (let M4 : im_M := im_u M2 49 (x1).toNatClampNeg (-1 : Int32); some M4) else none) else none
set_option maxRecDepth 100000 in
set_option maxHeartbeats 4000000 in
theorem tg_27 (x1 : Int32) (x2 : Int32) (M : im_M) : im_Go zC_V 0 fm_27 0 (im_en 0 [.inr (some 42), .inl x1, .inl x2]) [] (st_hC M) (gn_27 x1 x2 M) := by
  unfold gn_27
  refine x_aload_n dm_27_0 rfl ?_
  refine x_getRC dm_27_1 fl_3_20 rfl rfl rfl rfl ?_
  refine x_iload_n dm_27_4 rfl ?_
  refine x_iload_n dm_27_5 rfl ?_
  refine im_chk _ (fun hi1 => ?_)
  refine x_iastoreC _ rfl dm_27_6 rfl (mk_in rfl hi1) ?_
  refine x_aload_n dm_27_7 rfl ?_
  refine x_getRC dm_27_8 fl_3_24 rfl rfl rfl rfl ?_
  refine x_iload_n dm_27_11 rfl ?_
  refine x_iconst (-1) dm_27_12 (by decide) ?_
  refine im_chk _ (fun hi3 => ?_)
  refine x_iastoreC _ rfl dm_27_13 rfl (mk_in rfl hi3) ?_
  exact x_vretC dm_27_14 rfl
/-- FencedModules$Machine.read(I)I -/
def gn_32 (x1 : Int32) (M : im_M) : Option (Int32 × im_M) :=
  if x1 < 0 then (some ((0 : Int32), M)) else (if (256 : Int32) ≤ x1 then (some ((0 : Int32), M)) else (if st_ib x1 256 then (some ((M 10 (x1).toNatClampNeg), M)) else none))
set_option maxRecDepth 100000 in
set_option maxHeartbeats 4000000 in
theorem tg_32 (x1 : Int32) (M : im_M) : im_Go zC_I 0 fm_32 0 (im_en 0 [.inr (some 9), .inl x1]) [] (st_hC M) (gn_32 x1 M) := by
  unfold gn_32
  refine x_iload_n dm_32_0 rfl ?_
  refine x_if_lt 20 dm_32_1 rfl (fun c1 => ?_) (fun c1 => ?_)
  · refine x_iconst (0) dm_32_20 (by decide) ?_
    exact x_iretC dm_32_21 rfl
  · refine x_iload_n dm_32_4 rfl ?_
    refine x_sipush (256) dm_32_5 (by decide) ?_
    refine x_icmp_ge 20 dm_32_8 rfl (fun c2 => ?_) (fun c2 => ?_)
    · refine x_iconst (0) dm_32_20 (by decide) ?_
      exact x_iretC dm_32_21 rfl
    · refine x_aload_n dm_32_11 rfl ?_
      refine x_getRC dm_32_12 fl_4_9 rfl rfl rfl rfl ?_
      refine x_iload_n dm_32_15 rfl ?_
      refine im_chk _ (fun hi3 => ?_)
      refine x_ialoadX _ rfl dm_32_16 rfl (mk_in rfl hi3) ?_
      refine x_goto 21 dm_32_17 rfl ?_
      exact x_iretC dm_32_21 rfl
/-- FencedModules$Machine.write(II)V -/
def gn_33 (x1 : Int32) (x2 : Int32) (M : im_M) : Option (im_M) :=
  if x1 < 0 then (some M) else (if (256 : Int32) ≤ x1 then (some M) else (if st_ib x1 256 then (let M4 : im_M := im_u M 10 (x1).toNatClampNeg x2; some M4) else none))
set_option maxRecDepth 100000 in
set_option maxHeartbeats 4000000 in
theorem tg_33 (x1 : Int32) (x2 : Int32) (M : im_M) : im_Go zC_V 0 fm_33 0 (im_en 0 [.inr (some 9), .inl x1, .inl x2]) [] (st_hC M) (gn_33 x1 x2 M) := by
  unfold gn_33
  refine x_iload_n dm_33_0 rfl ?_
  refine x_if_lt 18 dm_33_1 rfl (fun c1 => ?_) (fun c1 => ?_)
  · exact x_vretC dm_33_18 rfl
  · refine x_iload_n dm_33_4 rfl ?_
    refine x_sipush (256) dm_33_5 (by decide) ?_
    refine x_icmp_ge 18 dm_33_8 rfl (fun c2 => ?_) (fun c2 => ?_)
    · exact x_vretC dm_33_18 rfl
    · refine x_aload_n dm_33_11 rfl ?_
      refine x_getRC dm_33_12 fl_4_9 rfl rfl rfl rfl ?_
      refine x_iload_n dm_33_15 rfl ?_
      refine x_iload_n dm_33_16 rfl ?_
      refine im_chk _ (fun hi3 => ?_)
      refine x_iastoreC _ rfl dm_33_17 rfl (mk_in rfl hi3) ?_
      exact x_vretC dm_33_18 rfl
/-- FencedModules$Machine.giveTurn(I)V -/
def gn_38 (x1 : Int32) (M : im_M) : Option (im_M) :=
  let M1 : im_M := im_u M 9 2 x1; let M2 : im_M := im_u M1 9 3 (0 : Int32); some M2
set_option maxRecDepth 100000 in
set_option maxHeartbeats 4000000 in
theorem tg_38 (x1 : Int32) (M : im_M) : im_Go zC_V 0 fm_38 0 (im_en 0 [.inr (some 9), .inl x1]) [] (st_hC M) (gn_38 x1 M) := by
  unfold gn_38
  refine x_aload_n dm_38_0 rfl ?_
  refine x_iload_n dm_38_1 rfl ?_
  refine x_putIC dm_38_2 fl_4_49 rfl rfl rfl ?_
  refine x_aload_n dm_38_5 rfl ?_
  refine x_iconst (0) dm_38_6 (by decide) ?_
  refine x_putIC dm_38_7 fl_4_53 rfl rfl rfl ?_
  exact x_vretC dm_38_10 rfl
/-- FencedModules$Machine.behind(I)I -/
def gn_39 (x0 : Int32) (M : im_M) : Option (Int32 × im_M) :=
  if (3 : Int32) ≤ (x0 + (1 : Int32)) then (some ((0 : Int32), M)) else (some ((x0 + (1 : Int32)), M))
set_option maxRecDepth 100000 in
set_option maxHeartbeats 4000000 in
theorem tg_39 (x0 : Int32) (M : im_M) : im_Go zC_I 0 fm_39 0 (im_en 0 [.inl x0]) [] (st_hC M) (gn_39 x0 M) := by
  unfold gn_39
  refine x_iload_n dm_39_0 rfl ?_
  refine x_iconst (1) dm_39_1 (by decide) ?_
  refine x_iadd dm_39_2 ?_
  refine x_iconst (3) dm_39_3 (by decide) ?_
  refine x_icmp_ge 13 dm_39_4 rfl (fun c1 => ?_) (fun c1 => ?_)
  · refine x_iconst (0) dm_39_13 (by decide) ?_
    exact x_iretC dm_39_14 rfl
  · refine x_iload_n dm_39_7 rfl ?_
    refine x_iconst (1) dm_39_8 (by decide) ?_
    refine x_iadd dm_39_9 ?_
    refine x_goto 14 dm_39_10 rfl ?_
    exact x_iretC dm_39_14 rfl
/-- FencedModules$Sandbox.exists(I)Z -/
def gn_45 (x0 : Int32) (M : im_M) : Option (Int32 × im_M) :=
  if x0 < 0 then (some ((0 : Int32), M)) else (if (3 : Int32) ≤ x0 then (some ((0 : Int32), M)) else (some ((1 : Int32), M)))
set_option maxRecDepth 100000 in
set_option maxHeartbeats 4000000 in
theorem tg_45 (x0 : Int32) (M : im_M) : im_Go zC_I 0 fm_45 0 (im_en 0 [.inl x0]) [] (st_hC M) (gn_45 x0 M) := by
  unfold gn_45
  refine x_iload_n dm_45_0 rfl ?_
  refine x_if_lt 13 dm_45_1 rfl (fun c1 => ?_) (fun c1 => ?_)
  · refine x_iconst (0) dm_45_13 (by decide) ?_
    exact x_zretC dm_45_14 rfl (by decide)
  · refine x_iload_n dm_45_4 rfl ?_
    refine x_iconst (3) dm_45_5 (by decide) ?_
    refine x_icmp_ge 13 dm_45_6 rfl (fun c2 => ?_) (fun c2 => ?_)
    · refine x_iconst (0) dm_45_13 (by decide) ?_
      exact x_zretC dm_45_14 rfl (by decide)
    · refine x_iconst (1) dm_45_9 (by decide) ?_
      refine x_goto 14 dm_45_10 rfl ?_
      exact x_zretC dm_45_14 rfl (by decide)
/-- FencedModules$Sandbox.dataStart(I)I -/
def gn_46 (x0 : Int32) (M : im_M) : Option (Int32 × im_M) :=
  some (((16 : Int32) * x0), M)
set_option maxRecDepth 100000 in
set_option maxHeartbeats 4000000 in
theorem tg_46 (x0 : Int32) (M : im_M) : im_Go zC_I 0 fm_46 0 (im_en 0 [.inl x0]) [] (st_hC M) (gn_46 x0 M) := by
  unfold gn_46
  refine x_bipush (16) dm_46_0 (by decide) ?_
  refine x_iload_n dm_46_2 rfl ?_
  refine x_imul dm_46_3 ?_
  exact x_iretC dm_46_4 rfl
/-- FencedModules$Sandbox.codeStart(I)I -/
def gn_47 (x0 : Int32) (M : im_M) : Option (Int32 × im_M) :=
  some (((64 : Int32) + ((32 : Int32) * x0)), M)
set_option maxRecDepth 100000 in
set_option maxHeartbeats 4000000 in
theorem tg_47 (x0 : Int32) (M : im_M) : im_Go zC_I 0 fm_47 0 (im_en 0 [.inl x0]) [] (st_hC M) (gn_47 x0 M) := by
  unfold gn_47
  refine x_bipush (64) dm_47_0 (by decide) ?_
  refine x_bipush (32) dm_47_2 (by decide) ?_
  refine x_iload_n dm_47_4 rfl ?_
  refine x_imul dm_47_5 ?_
  refine x_iadd dm_47_6 ?_
  exact x_iretC dm_47_7 rfl
/-- FencedModules$Sandbox.stop(II)V -/
def gn_49 (k : Nat) (x1 : Int32) (x2 : Int32) (M : im_M) : Option (im_M) :=
  let M1 : im_M := im_u M (12 + 10 * k) 6 x1; let M2 : im_M := im_u M1 (12 + 10 * k) 5 x2; some M2
set_option maxRecDepth 100000 in
set_option maxHeartbeats 4000000 in
theorem tg_49 (k : Nat) (hk : k < 3) (x1 : Int32) (x2 : Int32) (M : im_M) : im_Go zC_V 0 fm_49 0 (im_en 0 [.inr (some (12 + 10 * k)), .inl x1, .inl x2]) [] (st_hC M) (gn_49 k x1 x2 M) := by
  unfold gn_49
  refine x_aload_n dm_49_0 rfl ?_
  refine x_iload_n dm_49_1 rfl ?_
  refine x_putIC dm_49_2 fl_5_49 rfl rfl (kc_S0 hk) ?_
  refine x_aload_n dm_49_5 rfl ?_
  refine x_iload_n dm_49_6 rfl ?_
  refine x_putIC dm_49_7 fl_5_46 rfl rfl (kc_S0 hk) ?_
  exact x_vretC dm_49_10 rfl
/-- FencedModules$Sandbox.addInput(I)Z -/
def gn_50 (k : Nat) (x1 : Int32) (M : im_M) : Option (Int32 × im_M) :=
  if (M (12 + 10 * k) 4) < (12 : Int32) then (if st_ib (M (12 + 10 * k) 4) 12 then (let M3 : im_M := im_u M (14 + 10 * k) ((M (12 + 10 * k) 4)).toNatClampNeg x1; let M4 : im_M := im_u M3 (12 + 10 * k) 4 ((M3 (12 + 10 * k) 4) + (1 : Int32)); some ((1 : Int32), M4)) else none) else (some ((0 : Int32), M))
set_option maxRecDepth 100000 in
set_option maxHeartbeats 4000000 in
theorem tg_50 (k : Nat) (hk : k < 3) (x1 : Int32) (M : im_M) : im_Go zC_I 0 fm_50 0 (im_en 0 [.inr (some (12 + 10 * k)), .inl x1]) [] (st_hC M) (gn_50 k x1 M) := by
  unfold gn_50
  refine x_aload_n dm_50_0 rfl ?_
  refine x_getI dm_50_1 fl_5_52 rfl rfl (kc_S0 hk) ?_
  refine x_bipush (12) dm_50_4 (by decide) ?_
  refine x_icmp_lt 11 dm_50_6 rfl (fun c1 => ?_) (fun c1 => ?_)
  · refine x_aload_n dm_50_11 rfl ?_
    refine x_getRC dm_50_12 fl_5_13 rfl rfl (kc_S0 hk) (rc_S2 hk) ?_
    refine x_aload_n dm_50_15 rfl ?_
    refine x_getI dm_50_16 fl_5_52 rfl rfl (kc_S0 hk) ?_
    refine x_iload_n dm_50_19 rfl ?_
    refine im_chk _ (fun hi2 => ?_)
    refine x_iastoreC _ rfl dm_50_20 rfl (mk_in (kc_S2 hk) hi2) ?_
    refine x_aload_n dm_50_21 rfl ?_
    refine x_dup dm_50_22 ?_
    refine x_getI dm_50_23 fl_5_52 rfl rfl (kc_S0 hk) ?_
    refine x_iconst (1) dm_50_26 (by decide) ?_
    refine x_iadd dm_50_27 ?_
    refine x_putIC dm_50_28 fl_5_52 rfl rfl (kc_S0 hk) ?_
    refine x_iconst (1) dm_50_31 (by decide) ?_
    exact x_zretC dm_50_32 rfl (by decide)
  · refine x_iconst (0) dm_50_9 (by decide) ?_
    exact x_zretC dm_50_10 rfl (by decide)
/-- FencedModules$Sandbox.addMail(I)Z -/
def gn_51 (k : Nat) (x1 : Int32) (M : im_M) : Option (Int32 × im_M) :=
  if (M (12 + 10 * k) 9) < (4 : Int32) then (if st_ib (M (12 + 10 * k) 9) 4 then (let M3 : im_M := im_u M (20 + 10 * k) ((M (12 + 10 * k) 9)).toNatClampNeg x1; let M4 : im_M := im_u M3 (12 + 10 * k) 9 ((M3 (12 + 10 * k) 9) + (1 : Int32)); some ((1 : Int32), M4)) else none) else (some ((0 : Int32), M))
set_option maxRecDepth 100000 in
set_option maxHeartbeats 4000000 in
theorem tg_51 (k : Nat) (hk : k < 3) (x1 : Int32) (M : im_M) : im_Go zC_I 0 fm_51 0 (im_en 0 [.inr (some (12 + 10 * k)), .inl x1]) [] (st_hC M) (gn_51 k x1 M) := by
  unfold gn_51
  refine x_aload_n dm_51_0 rfl ?_
  refine x_getI dm_51_1 fl_5_55 rfl rfl (kc_S0 hk) ?_
  refine x_iconst (4) dm_51_4 (by decide) ?_
  refine x_icmp_lt 10 dm_51_5 rfl (fun c1 => ?_) (fun c1 => ?_)
  · refine x_aload_n dm_51_10 rfl ?_
    refine x_getRC dm_51_11 fl_5_23 rfl rfl (kc_S0 hk) (rc_S7 hk) ?_
    refine x_aload_n dm_51_14 rfl ?_
    refine x_getI dm_51_15 fl_5_55 rfl rfl (kc_S0 hk) ?_
    refine x_iload_n dm_51_18 rfl ?_
    refine im_chk _ (fun hi2 => ?_)
    refine x_iastoreC _ rfl dm_51_19 rfl (mk_in (kc_S7 hk) hi2) ?_
    refine x_aload_n dm_51_20 rfl ?_
    refine x_dup dm_51_21 ?_
    refine x_getI dm_51_22 fl_5_55 rfl rfl (kc_S0 hk) ?_
    refine x_iconst (1) dm_51_25 (by decide) ?_
    refine x_iadd dm_51_26 ?_
    refine x_putIC dm_51_27 fl_5_55 rfl rfl (kc_S0 hk) ?_
    refine x_iconst (1) dm_51_30 (by decide) ?_
    exact x_zretC dm_51_31 rfl (by decide)
  · refine x_iconst (0) dm_51_8 (by decide) ?_
    exact x_zretC dm_51_9 rfl (by decide)
def gn_52_28 (k : Nat) : Nat → Int32 → Int32 → im_M → Option (Int32 × im_M)
  | 0, _, _, _ => none
  | n + 1, y1, y2, M =>
    if (M (12 + 10 * k) 9) ≤ y2 then (some (y1, M)) else (if st_ib (y2 + (1 : Int32)) 4 then (if st_ib y2 4 then (let M4 : im_M := im_u M (20 + 10 * k) (y2).toNatClampNeg (M (20 + 10 * k) ((y2 + (1 : Int32))).toNatClampNeg); let v5 : Int32 := (y2 + (1 : Int32)); gn_52_28 k n y1 v5 M4) else none) else none)
set_option maxRecDepth 100000 in
set_option maxHeartbeats 4000000 in
theorem tg_52_28 (k : Nat) (hk : k < 3) : ∀ (n : Nat) (y1 : Int32) (y2 : Int32) (M : im_M), im_Go zC_I 0 fm_52 28 [(0, .inr (some (12 + 10 * k))), (1, .inl y1), (2, .inl y2)] [] (st_hC M) (gn_52_28 k n y1 y2 M)
  | 0, y1, y2, M => im_none
  | n + 1, y1, y2, M => by
    have ih := tg_52_28 k hk n
    unfold gn_52_28
    refine x_iload_n dm_52_28 rfl ?_
    refine x_aload_n dm_52_29 rfl ?_
    refine x_getI dm_52_30 fl_5_55 rfl rfl (kc_S0 hk) ?_
    refine x_icmp_ge 56 dm_52_33 rfl (fun c1 => ?_) (fun c1 => ?_)
    · refine x_iload_n dm_52_56 rfl ?_
      exact x_iretC dm_52_57 rfl
    · refine x_aload_n dm_52_36 rfl ?_
      refine x_getRC dm_52_37 fl_5_23 rfl rfl (kc_S0 hk) (rc_S7 hk) ?_
      refine x_iload_n dm_52_40 rfl ?_
      refine x_aload_n dm_52_41 rfl ?_
      refine x_getRC dm_52_42 fl_5_23 rfl rfl (kc_S0 hk) (rc_S7 hk) ?_
      refine x_iload_n dm_52_45 rfl ?_
      refine x_iconst (1) dm_52_46 (by decide) ?_
      refine x_iadd dm_52_47 ?_
      refine im_chk _ (fun hi2 => ?_)
      refine x_ialoadX _ rfl dm_52_48 rfl (mk_in (kc_S7 hk) hi2) ?_
      refine im_chk _ (fun hi3 => ?_)
      refine x_iastoreC _ rfl dm_52_49 rfl (mk_in (kc_S7 hk) hi3) ?_
      refine x_iinc (1) dm_52_50 rfl (by decide) (Nat.le_of_ble_eq_true rfl) ?_
      refine x_goto 28 dm_52_53 rfl ?_
      exact im_lsub [(0, .inr (some (12 + 10 * k))), (1, .inl y1), (2, .inl _)] (im_sb_c rfl (im_sb_c rfl (im_sb_c rfl im_sb_n))) (ih y1 _ _)
/-- FencedModules$Sandbox.takeMail()I -/
def gn_52 (k : Nat) (M : im_M) : Option (Int32 × im_M) :=
  if 0 < (M (12 + 10 * k) 9) then (let v2 : Int32 := (M (20 + 10 * k) 0); let M3 : im_M := im_u M (12 + 10 * k) 9 ((M (12 + 10 * k) 9) - (1 : Int32)); gn_52_28 k 1000 v2 (0 : Int32) M3) else (some ((-1 : Int32), M))
set_option maxRecDepth 100000 in
set_option maxHeartbeats 4000000 in
theorem tg_52 (k : Nat) (hk : k < 3) (M : im_M) : im_Go zC_I 0 fm_52 0 (im_en 0 [.inr (some (12 + 10 * k))]) [] (st_hC M) (gn_52 k M) := by
  unfold gn_52
  refine x_aload_n dm_52_0 rfl ?_
  refine x_getI dm_52_1 fl_5_55 rfl rfl (kc_S0 hk) ?_
  refine x_if_gt 9 dm_52_4 rfl (fun c1 => ?_) (fun c1 => ?_)
  · refine x_aload_n dm_52_9 rfl ?_
    refine x_getRC dm_52_10 fl_5_23 rfl rfl (kc_S0 hk) (rc_S7 hk) ?_
    refine x_iconst (0) dm_52_13 (by decide) ?_
    refine x_ialoadX 0 (by decide) dm_52_14 rfl (mk_in (kc_S7 hk) (by decide)) ?_
    refine x_istore_n dm_52_15 (Nat.le_of_ble_eq_true rfl) ?_
    refine x_aload_n dm_52_16 rfl ?_
    refine x_dup dm_52_17 ?_
    refine x_getI dm_52_18 fl_5_55 rfl rfl (kc_S0 hk) ?_
    refine x_iconst (1) dm_52_21 (by decide) ?_
    refine x_isub dm_52_22 ?_
    refine x_putIC dm_52_23 fl_5_55 rfl rfl (kc_S0 hk) ?_
    refine x_iconst (0) dm_52_26 (by decide) ?_
    refine x_istore_n dm_52_27 (Nat.le_of_ble_eq_true rfl) ?_
    exact im_lsub [(0, .inr (some (12 + 10 * k))), (1, .inl _), (2, .inl (0 : Int32))] (im_sb_c rfl (im_sb_c rfl (im_sb_c rfl im_sb_n))) (tg_52_28 k hk 1000 _ (0 : Int32) _)
  · refine x_iconst (-1) dm_52_7 (by decide) ?_
    exact x_iretC dm_52_8 rfl
/-- FencedModules$Sandbox.putOut(I)V -/
def gn_53 (k : Nat) (x1 : Int32) (M : im_M) : Option (im_M) :=
  if st_ib ((M (12 + 10 * k) 10) &&& (7 : Int32)) 8 then (let M2 : im_M := im_u M (21 + 10 * k) (((M (12 + 10 * k) 10) &&& (7 : Int32))).toNatClampNeg x1; let M3 : im_M := im_u M2 (12 + 10 * k) 10 ((M2 (12 + 10 * k) 10) + (1 : Int32)); some M3) else none
set_option maxRecDepth 100000 in
set_option maxHeartbeats 4000000 in
theorem tg_53 (k : Nat) (hk : k < 3) (x1 : Int32) (M : im_M) : im_Go zC_V 0 fm_53 0 (im_en 0 [.inr (some (12 + 10 * k)), .inl x1]) [] (st_hC M) (gn_53 k x1 M) := by
  unfold gn_53
  refine x_aload_n dm_53_0 rfl ?_
  refine x_getRC dm_53_1 fl_5_26 rfl rfl (kc_S0 hk) (rc_S8 hk) ?_
  refine x_aload_n dm_53_4 rfl ?_
  refine x_getI dm_53_5 fl_5_58 rfl rfl (kc_S0 hk) ?_
  refine x_bipush (7) dm_53_8 (by decide) ?_
  refine x_iand dm_53_10 ?_
  refine x_iload_n dm_53_11 rfl ?_
  refine im_chk _ (fun hi1 => ?_)
  refine x_iastoreC _ rfl dm_53_12 rfl (mk_in (kc_S8 hk) hi1) ?_
  refine x_aload_n dm_53_13 rfl ?_
  refine x_dup dm_53_14 ?_
  refine x_getI dm_53_15 fl_5_58 rfl rfl (kc_S0 hk) ?_
  refine x_iconst (1) dm_53_18 (by decide) ?_
  refine x_iadd dm_53_19 ?_
  refine x_putIC dm_53_20 fl_5_58 rfl rfl (kc_S0 hk) ?_
  exact x_vretC dm_53_23 rfl
/-- FencedModules$Sandbox.tellOutput(I)I -/
def gn_54 (k : Nat) (x1 : Int32) (M : im_M) : Option (Int32 × im_M) :=
  if x1 = (-1 : Int32) then (some ((M (12 + 10 * k) 10), M)) else (if x1 < 0 then (some ((0 : Int32), M)) else (if (8 : Int32) ≤ x1 then (some ((0 : Int32), M)) else (if x1 < (M (12 + 10 * k) 10) then (if st_ib ((((M (12 + 10 * k) 10) - (1 : Int32)) - x1) &&& (7 : Int32)) 8 then (some ((M (21 + 10 * k) (((((M (12 + 10 * k) 10) - (1 : Int32)) - x1) &&& (7 : Int32))).toNatClampNeg), M)) else none) else (some ((0 : Int32), M)))))
set_option maxRecDepth 100000 in
set_option maxHeartbeats 4000000 in
theorem tg_54 (k : Nat) (hk : k < 3) (x1 : Int32) (M : im_M) : im_Go zC_I 0 fm_54 0 (im_en 0 [.inr (some (12 + 10 * k)), .inl x1]) [] (st_hC M) (gn_54 k x1 M) := by
  unfold gn_54
  refine x_iload_n dm_54_0 rfl ?_
  refine x_iconst (-1) dm_54_1 (by decide) ?_
  refine x_icmp_ne 10 dm_54_2 rfl (fun c1 => ?_) (fun c1 => ?_)
  · refine x_aload_n dm_54_5 rfl ?_
    refine x_getI dm_54_6 fl_5_58 rfl rfl (kc_S0 hk) ?_
    exact x_iretC dm_54_9 rfl
  · refine x_iload_n dm_54_10 rfl ?_
    refine x_if_lt 28 dm_54_11 rfl (fun c2 => ?_) (fun c2 => ?_)
    · refine x_iconst (0) dm_54_28 (by decide) ?_
      exact x_iretC dm_54_29 rfl
    · refine x_iload_n dm_54_14 rfl ?_
      refine x_bipush (8) dm_54_15 (by decide) ?_
      refine x_icmp_ge 28 dm_54_17 rfl (fun c3 => ?_) (fun c3 => ?_)
      · refine x_iconst (0) dm_54_28 (by decide) ?_
        exact x_iretC dm_54_29 rfl
      · refine x_iload_n dm_54_20 rfl ?_
        refine x_aload_n dm_54_21 rfl ?_
        refine x_getI dm_54_22 fl_5_58 rfl rfl (kc_S0 hk) ?_
        refine x_icmp_lt 30 dm_54_25 rfl (fun c4 => ?_) (fun c4 => ?_)
        · refine x_aload_n dm_54_30 rfl ?_
          refine x_getRC dm_54_31 fl_5_26 rfl rfl (kc_S0 hk) (rc_S8 hk) ?_
          refine x_aload_n dm_54_34 rfl ?_
          refine x_getI dm_54_35 fl_5_58 rfl rfl (kc_S0 hk) ?_
          refine x_iconst (1) dm_54_38 (by decide) ?_
          refine x_isub dm_54_39 ?_
          refine x_iload_n dm_54_40 rfl ?_
          refine x_isub dm_54_41 ?_
          refine x_bipush (7) dm_54_42 (by decide) ?_
          refine x_iand dm_54_44 ?_
          refine im_chk _ (fun hi5 => ?_)
          refine x_ialoadX _ rfl dm_54_45 rfl (mk_in (kc_S8 hk) hi5) ?_
          exact x_iretC dm_54_46 rfl
        · refine x_iconst (0) dm_54_28 (by decide) ?_
          exact x_iretC dm_54_29 rfl
/-- FencedModules$Source.addLine(IIII)Z -/
def gn_57 (x1 : Int32) (x2 : Int32) (x3 : Int32) (x4 : Int32) (M : im_M) : Option (Int32 × im_M) :=
  if x1 < 0 then (some ((0 : Int32), M)) else (if (15 : Int32) < x1 then (some ((0 : Int32), M)) else (if x2 < 0 then (some ((0 : Int32), M)) else (if (7 : Int32) < x2 then (some ((0 : Int32), M)) else (if x3 < 0 then (some ((0 : Int32), M)) else (if x3 ≤ (7 : Int32) then (if x4 < (-2097152 : Int32) then (some ((0 : Int32), M)) else (if (2097151 : Int32) < x4 then (some ((0 : Int32), M)) else (if (M 1 5) < (24 : Int32) then (if st_ib (M 1 5) 24 then (let M11 : im_M := im_u M 2 ((M 1 5)).toNatClampNeg x1; if st_ib (M11 1 5) 24 then (let M13 : im_M := im_u M11 3 ((M11 1 5)).toNatClampNeg x2; if st_ib (M13 1 5) 24 then (let M15 : im_M := im_u M13 4 ((M13 1 5)).toNatClampNeg x3; if st_ib (M15 1 5) 24 then (let M17 : im_M := im_u M15 5 ((M15 1 5)).toNatClampNeg x4; let M18 : im_M := im_u M17 1 5 ((M17 1 5) + (1 : Int32)); some ((1 : Int32), M18)) else none) else none) else none) else none) else (some ((0 : Int32), M))))) else (some ((0 : Int32), M)))))))
set_option maxRecDepth 100000 in
set_option maxHeartbeats 4000000 in
theorem tg_57 (x1 : Int32) (x2 : Int32) (x3 : Int32) (x4 : Int32) (M : im_M) : im_Go zC_I 0 fm_57 0 (im_en 0 [.inr (some 1), .inl x1, .inl x2, .inl x3, .inl x4]) [] (st_hC M) (gn_57 x1 x2 x3 x4 M) := by
  unfold gn_57
  refine x_iload_n dm_57_0 rfl ?_
  refine x_if_lt 30 dm_57_1 rfl (fun c1 => ?_) (fun c1 => ?_)
  · refine x_iconst (0) dm_57_30 (by decide) ?_
    exact x_zretC dm_57_31 rfl (by decide)
  · refine x_iload_n dm_57_4 rfl ?_
    refine x_bipush (15) dm_57_5 (by decide) ?_
    refine x_icmp_gt 30 dm_57_7 rfl (fun c2 => ?_) (fun c2 => ?_)
    · refine x_iconst (0) dm_57_30 (by decide) ?_
      exact x_zretC dm_57_31 rfl (by decide)
    · refine x_iload_n dm_57_10 rfl ?_
      refine x_if_lt 30 dm_57_11 rfl (fun c3 => ?_) (fun c3 => ?_)
      · refine x_iconst (0) dm_57_30 (by decide) ?_
        exact x_zretC dm_57_31 rfl (by decide)
      · refine x_iload_n dm_57_14 rfl ?_
        refine x_bipush (7) dm_57_15 (by decide) ?_
        refine x_icmp_gt 30 dm_57_17 rfl (fun c4 => ?_) (fun c4 => ?_)
        · refine x_iconst (0) dm_57_30 (by decide) ?_
          exact x_zretC dm_57_31 rfl (by decide)
        · refine x_iload_n dm_57_20 rfl ?_
          refine x_if_lt 30 dm_57_21 rfl (fun c5 => ?_) (fun c5 => ?_)
          · refine x_iconst (0) dm_57_30 (by decide) ?_
            exact x_zretC dm_57_31 rfl (by decide)
          · refine x_iload_n dm_57_24 rfl ?_
            refine x_bipush (7) dm_57_25 (by decide) ?_
            refine x_icmp_le 32 dm_57_27 rfl (fun c6 => ?_) (fun c6 => ?_)
            · refine x_iload dm_57_32 rfl ?_
              refine x_ldc (-2097152) dm_57_34 kc_6_37 ?_
              refine x_icmp_lt 55 dm_57_36 rfl (fun c7 => ?_) (fun c7 => ?_)
              · refine x_iconst (0) dm_57_55 (by decide) ?_
                exact x_zretC dm_57_56 rfl (by decide)
              · refine x_iload dm_57_39 rfl ?_
                refine x_ldc (2097151) dm_57_41 kc_6_38 ?_
                refine x_icmp_gt 55 dm_57_43 rfl (fun c8 => ?_) (fun c8 => ?_)
                · refine x_iconst (0) dm_57_55 (by decide) ?_
                  exact x_zretC dm_57_56 rfl (by decide)
                · refine x_aload_n dm_57_46 rfl ?_
                  refine x_getI dm_57_47 fl_6_31 rfl rfl rfl ?_
                  refine x_bipush (24) dm_57_50 (by decide) ?_
                  refine x_icmp_lt 57 dm_57_52 rfl (fun c9 => ?_) (fun c9 => ?_)
                  · refine x_aload_n dm_57_57 rfl ?_
                    refine x_getRC dm_57_58 fl_6_9 rfl rfl rfl rfl ?_
                    refine x_aload_n dm_57_61 rfl ?_
                    refine x_getI dm_57_62 fl_6_31 rfl rfl rfl ?_
                    refine x_iload_n dm_57_65 rfl ?_
                    refine im_chk _ (fun hi10 => ?_)
                    refine x_iastoreC _ rfl dm_57_66 rfl (mk_in rfl hi10) ?_
                    refine x_aload_n dm_57_67 rfl ?_
                    refine x_getRC dm_57_68 fl_6_13 rfl rfl rfl rfl ?_
                    refine x_aload_n dm_57_71 rfl ?_
                    refine x_getI dm_57_72 fl_6_31 rfl rfl rfl ?_
                    refine x_iload_n dm_57_75 rfl ?_
                    refine im_chk _ (fun hi12 => ?_)
                    refine x_iastoreC _ rfl dm_57_76 rfl (mk_in rfl hi12) ?_
                    refine x_aload_n dm_57_77 rfl ?_
                    refine x_getRC dm_57_78 fl_6_16 rfl rfl rfl rfl ?_
                    refine x_aload_n dm_57_81 rfl ?_
                    refine x_getI dm_57_82 fl_6_31 rfl rfl rfl ?_
                    refine x_iload_n dm_57_85 rfl ?_
                    refine im_chk _ (fun hi14 => ?_)
                    refine x_iastoreC _ rfl dm_57_86 rfl (mk_in rfl hi14) ?_
                    refine x_aload_n dm_57_87 rfl ?_
                    refine x_getRC dm_57_88 fl_6_19 rfl rfl rfl rfl ?_
                    refine x_aload_n dm_57_91 rfl ?_
                    refine x_getI dm_57_92 fl_6_31 rfl rfl rfl ?_
                    refine x_iload dm_57_95 rfl ?_
                    refine im_chk _ (fun hi16 => ?_)
                    refine x_iastoreC _ rfl dm_57_97 rfl (mk_in rfl hi16) ?_
                    refine x_aload_n dm_57_98 rfl ?_
                    refine x_dup dm_57_99 ?_
                    refine x_getI dm_57_100 fl_6_31 rfl rfl rfl ?_
                    refine x_iconst (1) dm_57_103 (by decide) ?_
                    refine x_iadd dm_57_104 ?_
                    refine x_putIC dm_57_105 fl_6_31 rfl rfl rfl ?_
                    refine x_iconst (1) dm_57_108 (by decide) ?_
                    exact x_zretC dm_57_109 rfl (by decide)
                  · refine x_iconst (0) dm_57_55 (by decide) ?_
                    exact x_zretC dm_57_56 rfl (by decide)
            · refine x_iconst (0) dm_57_30 (by decide) ?_
              exact x_zretC dm_57_31 rfl (by decide)
/-- FencedModules$Source.setLabel(I)Z -/
def gn_58 (x1 : Int32) (M : im_M) : Option (Int32 × im_M) :=
  if x1 < 0 then (some ((0 : Int32), M)) else (if (8 : Int32) ≤ x1 then (some ((0 : Int32), M)) else (if st_ib x1 8 then (if (M 6 (x1).toNatClampNeg) = (-1 : Int32) then (let M5 : im_M := im_u M 6 (x1).toNatClampNeg (M 1 5); some ((1 : Int32), M5)) else (some ((0 : Int32), M))) else none))
set_option maxRecDepth 100000 in
set_option maxHeartbeats 4000000 in
theorem tg_58 (x1 : Int32) (M : im_M) : im_Go zC_I 0 fm_58 0 (im_en 0 [.inr (some 1), .inl x1]) [] (st_hC M) (gn_58 x1 M) := by
  unfold gn_58
  refine x_iload_n dm_58_0 rfl ?_
  refine x_if_lt 20 dm_58_1 rfl (fun c1 => ?_) (fun c1 => ?_)
  · refine x_iconst (0) dm_58_20 (by decide) ?_
    exact x_zretC dm_58_21 rfl (by decide)
  · refine x_iload_n dm_58_4 rfl ?_
    refine x_bipush (8) dm_58_5 (by decide) ?_
    refine x_icmp_ge 20 dm_58_7 rfl (fun c2 => ?_) (fun c2 => ?_)
    · refine x_iconst (0) dm_58_20 (by decide) ?_
      exact x_zretC dm_58_21 rfl (by decide)
    · refine x_aload_n dm_58_10 rfl ?_
      refine x_getRC dm_58_11 fl_6_22 rfl rfl rfl rfl ?_
      refine x_iload_n dm_58_14 rfl ?_
      refine im_chk _ (fun hi3 => ?_)
      refine x_ialoadX _ rfl dm_58_15 rfl (mk_in rfl hi3) ?_
      refine x_iconst (-1) dm_58_16 (by decide) ?_
      refine x_icmp_eq 22 dm_58_17 rfl (fun c4 => ?_) (fun c4 => ?_)
      · refine x_aload_n dm_58_22 rfl ?_
        refine x_getRC dm_58_23 fl_6_22 rfl rfl rfl rfl ?_
        refine x_iload_n dm_58_26 rfl ?_
        refine x_aload_n dm_58_27 rfl ?_
        refine x_getI dm_58_28 fl_6_31 rfl rfl rfl ?_
        refine x_iastoreC _ rfl dm_58_31 rfl (mk_in rfl hi3) ?_
        refine x_iconst (1) dm_58_32 (by decide) ?_
        exact x_zretC dm_58_33 rfl (by decide)
      · refine x_iconst (0) dm_58_20 (by decide) ?_
        exact x_zretC dm_58_21 rfl (by decide)
/-- FencedModules$Source.count()I -/
def gn_59 (M : im_M) : Option (Int32 × im_M) :=
  some ((M 1 5), M)
set_option maxRecDepth 100000 in
set_option maxHeartbeats 4000000 in
theorem tg_59 (M : im_M) : im_Go zC_I 0 fm_59 0 (im_en 0 [.inr (some 1)]) [] (st_hC M) (gn_59 M) := by
  unfold gn_59
  refine x_aload_n dm_59_0 rfl ?_
  refine x_getI dm_59_1 fl_6_31 rfl rfl rfl ?_
  exact x_iretC dm_59_4 rfl
/-- FencedModules$Source.hasLine(I)Z -/
def gn_60 (x1 : Int32) (M : im_M) : Option (Int32 × im_M) :=
  if x1 < 0 then (some ((0 : Int32), M)) else (if (M 1 5) ≤ x1 then (some ((0 : Int32), M)) else (some ((1 : Int32), M)))
set_option maxRecDepth 100000 in
set_option maxHeartbeats 4000000 in
theorem tg_60 (x1 : Int32) (M : im_M) : im_Go zC_I 0 fm_60 0 (im_en 0 [.inr (some 1), .inl x1]) [] (st_hC M) (gn_60 x1 M) := by
  unfold gn_60
  refine x_iload_n dm_60_0 rfl ?_
  refine x_if_lt 16 dm_60_1 rfl (fun c1 => ?_) (fun c1 => ?_)
  · refine x_iconst (0) dm_60_16 (by decide) ?_
    exact x_zretC dm_60_17 rfl (by decide)
  · refine x_iload_n dm_60_4 rfl ?_
    refine x_aload_n dm_60_5 rfl ?_
    refine x_getI dm_60_6 fl_6_31 rfl rfl rfl ?_
    refine x_icmp_ge 16 dm_60_9 rfl (fun c2 => ?_) (fun c2 => ?_)
    · refine x_iconst (0) dm_60_16 (by decide) ?_
      exact x_zretC dm_60_17 rfl (by decide)
    · refine x_iconst (1) dm_60_12 (by decide) ?_
      refine x_goto 17 dm_60_13 rfl ?_
      exact x_zretC dm_60_17 rfl (by decide)
