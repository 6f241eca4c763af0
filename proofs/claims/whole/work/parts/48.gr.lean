/-- FencedModulesModel.prints(II)Z -/
def gn_115 (x0 : Int32) (x1 : Int32) (M : im_M) : Option (Int32 × im_M) :=
  (gn_92 x0 (0 : Int32) (16 : Int32) M).bind fun b1 => if b1.1 = 0 then (some ((0 : Int32), b1.2)) else ((gn_92 x1 (0 : Int32) (16 : Int32) b1.2).bind fun b3 => if b3.1 = 0 then (some ((0 : Int32), b3.2)) else (if (16 : Int32) < (x0 + x1) then (some ((0 : Int32), b3.2)) else (some ((1 : Int32), b3.2))))
set_option maxRecDepth 100000 in
set_option maxHeartbeats 4000000 in
theorem tg_115 (x0 : Int32) (x1 : Int32) (M : im_M) : im_Go zR_I 1 fm_115 0 (im_en 0 [.inl x0, .inl x1]) [] (st_hR M) (gn_115 x0 x1 M) := by
  unfold gn_115
  refine x_iload_n dm_115_0 rfl ?_
  refine x_iconst (0) dm_115_1 (by decide) ?_
  refine x_bipush (16) dm_115_2 (by decide) ?_
  refine im_callRI mf_92 rfl (tg_92 x0 (0 : Int32) (16 : Int32) M) (im_runS (as := [.inl x0, .inl (0 : Int32), .inl (16 : Int32)]) (rest := []) dm_115_4 mf_92 (Nat.le_of_ble_eq_true rfl) ml_8_83 mi_92 mp_92 (Nat.le_of_ble_eq_true rfl)) rfl (fun b1 hb1 => ?_)
  refine x_if_eq 32 dm_115_7 rfl (fun c2 => ?_) (fun c2 => ?_)
  · refine x_iconst (0) dm_115_32 (by decide) ?_
    exact x_zretR dm_115_33 rfl (by decide)
  · refine x_iload_n dm_115_10 rfl ?_
    refine x_iconst (0) dm_115_11 (by decide) ?_
    refine x_bipush (16) dm_115_12 (by decide) ?_
    refine im_callRI mf_92 rfl (tg_92 x1 (0 : Int32) (16 : Int32) b1.2) (im_runS (as := [.inl x1, .inl (0 : Int32), .inl (16 : Int32)]) (rest := []) dm_115_14 mf_92 (Nat.le_of_ble_eq_true rfl) ml_8_83 mi_92 mp_92 (Nat.le_of_ble_eq_true rfl)) rfl (fun b3 hb3 => ?_)
    refine x_if_eq 32 dm_115_17 rfl (fun c4 => ?_) (fun c4 => ?_)
    · refine x_iconst (0) dm_115_32 (by decide) ?_
      exact x_zretR dm_115_33 rfl (by decide)
    · refine x_iload_n dm_115_20 rfl ?_
      refine x_iload_n dm_115_21 rfl ?_
      refine x_iadd dm_115_22 ?_
      refine x_bipush (16) dm_115_23 (by decide) ?_
      refine x_icmp_gt 32 dm_115_25 rfl (fun c5 => ?_) (fun c5 => ?_)
      · refine x_iconst (0) dm_115_32 (by decide) ?_
        exact x_zretR dm_115_33 rfl (by decide)
      · refine x_iconst (1) dm_115_28 (by decide) ?_
        refine x_goto 33 dm_115_29 rfl ?_
        exact x_zretR dm_115_33 rfl (by decide)
/-- FencedModulesModel.state(I)I -/
def gn_126 (x1 : Int32) (M : im_M) : Option (Int32 × im_M) :=
  (gn_92 x1 (0 : Int32) (2 : Int32) M).bind fun b1 => if b1.1 = 0 then (some ((-1 : Int32), b1.2)) else (if st_ib x1 3 then (some ((b1.2 2 (x1).toNatClampNeg), b1.2)) else none)
set_option maxRecDepth 100000 in
set_option maxHeartbeats 4000000 in
theorem tg_126 (x1 : Int32) (M : im_M) : im_Go zR_I 1 fm_126 0 (im_en 0 [.inr (some 0), .inl x1]) [] (st_hR M) (gn_126 x1 M) := by
  unfold gn_126
  refine x_iload_n dm_126_0 rfl ?_
  refine x_iconst (0) dm_126_1 (by decide) ?_
  refine x_iconst (2) dm_126_2 (by decide) ?_
  refine im_callRI mf_92 rfl (tg_92 x1 (0 : Int32) (2 : Int32) M) (im_runS (as := [.inl x1, .inl (0 : Int32), .inl (2 : Int32)]) (rest := []) dm_126_3 mf_92 (Nat.le_of_ble_eq_true rfl) ml_8_83 mi_92 mp_92 (Nat.le_of_ble_eq_true rfl)) rfl (fun b1 hb1 => ?_)
  refine x_if_eq 18 dm_126_6 rfl (fun c2 => ?_) (fun c2 => ?_)
  · refine x_iconst (-1) dm_126_18 (by decide) ?_
    exact x_iretR dm_126_19 rfl
  · refine x_aload_n dm_126_9 rfl ?_
    refine x_getRC dm_126_10 fl_8_13 rfl rfl rfl rfl ?_
    refine x_iload_n dm_126_13 rfl ?_
    refine im_chk _ (fun hi3 => ?_)
    refine x_ialoadX _ rfl dm_126_14 rfl (mk_in rfl hi3) ?_
    refine x_goto 19 dm_126_15 rfl ?_
    exact x_iretR dm_126_19 rfl
/-- FencedModulesModel.pc(I)I -/
def gn_127 (x1 : Int32) (M : im_M) : Option (Int32 × im_M) :=
  (gn_92 x1 (0 : Int32) (2 : Int32) M).bind fun b1 => if b1.1 = 0 then (some ((-1 : Int32), b1.2)) else (if st_ib x1 3 then (some ((b1.2 4 (x1).toNatClampNeg), b1.2)) else none)
set_option maxRecDepth 100000 in
set_option maxHeartbeats 4000000 in
theorem tg_127 (x1 : Int32) (M : im_M) : im_Go zR_I 1 fm_127 0 (im_en 0 [.inr (some 0), .inl x1]) [] (st_hR M) (gn_127 x1 M) := by
  unfold gn_127
  refine x_iload_n dm_127_0 rfl ?_
  refine x_iconst (0) dm_127_1 (by decide) ?_
  refine x_iconst (2) dm_127_2 (by decide) ?_
  refine im_callRI mf_92 rfl (tg_92 x1 (0 : Int32) (2 : Int32) M) (im_runS (as := [.inl x1, .inl (0 : Int32), .inl (2 : Int32)]) (rest := []) dm_127_3 mf_92 (Nat.le_of_ble_eq_true rfl) ml_8_83 mi_92 mp_92 (Nat.le_of_ble_eq_true rfl)) rfl (fun b1 hb1 => ?_)
  refine x_if_eq 18 dm_127_6 rfl (fun c2 => ?_) (fun c2 => ?_)
  · refine x_iconst (-1) dm_127_18 (by decide) ?_
    exact x_iretR dm_127_19 rfl
  · refine x_aload_n dm_127_9 rfl ?_
    refine x_getRC dm_127_10 fl_8_19 rfl rfl rfl rfl ?_
    refine x_iload_n dm_127_13 rfl ?_
    refine im_chk _ (fun hi3 => ?_)
    refine x_ialoadX _ rfl dm_127_14 rfl (mk_in rfl hi3) ?_
    refine x_goto 19 dm_127_15 rfl ?_
    exact x_iretR dm_127_19 rfl
/-- FencedModulesModel.register(II)I -/
def gn_128 (x1 : Int32) (x2 : Int32) (M : im_M) : Option (Int32 × im_M) :=
  (gn_92 x1 (0 : Int32) (2 : Int32) M).bind fun b1 => if b1.1 = 0 then (some ((0 : Int32), b1.2)) else ((gn_92 x2 (0 : Int32) (7 : Int32) b1.2).bind fun b3 => if b3.1 = 0 then (some ((0 : Int32), b3.2)) else (if st_ib (((8 : Int32) * x1) + x2) 24 then (some ((b3.2 3 ((((8 : Int32) * x1) + x2)).toNatClampNeg), b3.2)) else none))
set_option maxRecDepth 100000 in
set_option maxHeartbeats 4000000 in
theorem tg_128 (x1 : Int32) (x2 : Int32) (M : im_M) : im_Go zR_I 1 fm_128 0 (im_en 0 [.inr (some 0), .inl x1, .inl x2]) [] (st_hR M) (gn_128 x1 x2 M) := by
  unfold gn_128
  refine x_iload_n dm_128_0 rfl ?_
  refine x_iconst (0) dm_128_1 (by decide) ?_
  refine x_iconst (2) dm_128_2 (by decide) ?_
  refine im_callRI mf_92 rfl (tg_92 x1 (0 : Int32) (2 : Int32) M) (im_runS (as := [.inl x1, .inl (0 : Int32), .inl (2 : Int32)]) (rest := []) dm_128_3 mf_92 (Nat.le_of_ble_eq_true rfl) ml_8_83 mi_92 mp_92 (Nat.le_of_ble_eq_true rfl)) rfl (fun b1 hb1 => ?_)
  refine x_if_eq 33 dm_128_6 rfl (fun c2 => ?_) (fun c2 => ?_)
  · refine x_iconst (0) dm_128_33 (by decide) ?_
    exact x_iretR dm_128_34 rfl
  · refine x_iload_n dm_128_9 rfl ?_
    refine x_iconst (0) dm_128_10 (by decide) ?_
    refine x_bipush (7) dm_128_11 (by decide) ?_
    refine im_callRI mf_92 rfl (tg_92 x2 (0 : Int32) (7 : Int32) b1.2) (im_runS (as := [.inl x2, .inl (0 : Int32), .inl (7 : Int32)]) (rest := []) dm_128_13 mf_92 (Nat.le_of_ble_eq_true rfl) ml_8_83 mi_92 mp_92 (Nat.le_of_ble_eq_true rfl)) rfl (fun b3 hb3 => ?_)
    refine x_if_eq 33 dm_128_16 rfl (fun c4 => ?_) (fun c4 => ?_)
    · refine x_iconst (0) dm_128_33 (by decide) ?_
      exact x_iretR dm_128_34 rfl
    · refine x_aload_n dm_128_19 rfl ?_
      refine x_getRC dm_128_20 fl_8_16 rfl rfl rfl rfl ?_
      refine x_bipush (8) dm_128_23 (by decide) ?_
      refine x_iload_n dm_128_25 rfl ?_
      refine x_imul dm_128_26 ?_
      refine x_iload_n dm_128_27 rfl ?_
      refine x_iadd dm_128_28 ?_
      refine im_chk _ (fun hi5 => ?_)
      refine x_ialoadX _ rfl dm_128_29 rfl (mk_in rfl hi5) ?_
      refine x_goto 34 dm_128_30 rfl ?_
      exact x_iretR dm_128_34 rfl
/-- FencedModulesModel.peek(I)I -/
def gn_129 (x1 : Int32) (M : im_M) : Option (Int32 × im_M) :=
  (gn_92 x1 (0 : Int32) (255 : Int32) M).bind fun b1 => if b1.1 = 0 then (some ((0 : Int32), b1.2)) else (if st_ib x1 256 then (some ((b1.2 1 (x1).toNatClampNeg), b1.2)) else none)
set_option maxRecDepth 100000 in
set_option maxHeartbeats 4000000 in
theorem tg_129 (x1 : Int32) (M : im_M) : im_Go zR_I 1 fm_129 0 (im_en 0 [.inr (some 0), .inl x1]) [] (st_hR M) (gn_129 x1 M) := by
  unfold gn_129
  refine x_iload_n dm_129_0 rfl ?_
  refine x_iconst (0) dm_129_1 (by decide) ?_
  refine x_sipush (255) dm_129_2 (by decide) ?_
  refine im_callRI mf_92 rfl (tg_92 x1 (0 : Int32) (255 : Int32) M) (im_runS (as := [.inl x1, .inl (0 : Int32), .inl (255 : Int32)]) (rest := []) dm_129_5 mf_92 (Nat.le_of_ble_eq_true rfl) ml_8_83 mi_92 mp_92 (Nat.le_of_ble_eq_true rfl)) rfl (fun b1 hb1 => ?_)
  refine x_if_eq 20 dm_129_8 rfl (fun c2 => ?_) (fun c2 => ?_)
  · refine x_iconst (0) dm_129_20 (by decide) ?_
    exact x_iretR dm_129_21 rfl
  · refine x_aload_n dm_129_11 rfl ?_
    refine x_getRC dm_129_12 fl_8_7 rfl rfl rfl rfl ?_
    refine x_iload_n dm_129_15 rfl ?_
    refine im_chk _ (fun hi3 => ?_)
    refine x_ialoadX _ rfl dm_129_16 rfl (mk_in rfl hi3) ?_
    refine x_goto 21 dm_129_17 rfl ?_
    exact x_iretR dm_129_21 rfl
/-- FencedModulesModel.output(II)I -/
def gn_130 (x1 : Int32) (x2 : Int32) (M : im_M) : Option (Int32 × im_M) :=
  (gn_92 x1 (0 : Int32) (2 : Int32) M).bind fun b1 => if b1.1 = 0 then (some ((0 : Int32), b1.2)) else (if x2 = (-1 : Int32) then (if st_ib x1 3 then (some ((b1.2 12 (x1).toNatClampNeg), b1.2)) else none) else ((gn_92 x2 (0 : Int32) (7 : Int32) b1.2).bind fun b5 => if b5.1 = 0 then (some ((0 : Int32), b5.2)) else (if st_ib x1 3 then (if (b5.2 12 (x1).toNatClampNeg) ≤ x2 then (some ((0 : Int32), b5.2)) else (if st_ib (((8 : Int32) * x1) + ((((b5.2 12 (x1).toNatClampNeg) - (1 : Int32)) - x2) &&& (7 : Int32))) 24 then (some ((b5.2 11 ((((8 : Int32) * x1) + ((((b5.2 12 (x1).toNatClampNeg) - (1 : Int32)) - x2) &&& (7 : Int32)))).toNatClampNeg), b5.2)) else none)) else none)))
set_option maxRecDepth 100000 in
set_option maxHeartbeats 4000000 in
theorem tg_130 (x1 : Int32) (x2 : Int32) (M : im_M) : im_Go zR_I 1 fm_130 0 (im_en 0 [.inr (some 0), .inl x1, .inl x2]) [] (st_hR M) (gn_130 x1 x2 M) := by
  unfold gn_130
  refine x_iload_n dm_130_0 rfl ?_
  refine x_iconst (0) dm_130_1 (by decide) ?_
  refine x_iconst (2) dm_130_2 (by decide) ?_
  refine im_callRI mf_92 rfl (tg_92 x1 (0 : Int32) (2 : Int32) M) (im_runS (as := [.inl x1, .inl (0 : Int32), .inl (2 : Int32)]) (rest := []) dm_130_3 mf_92 (Nat.le_of_ble_eq_true rfl) ml_8_83 mi_92 mp_92 (Nat.le_of_ble_eq_true rfl)) rfl (fun b1 hb1 => ?_)
  refine x_if_ne 11 dm_130_6 rfl (fun c2 => ?_) (fun c2 => ?_)
  · refine x_iconst (0) dm_130_9 (by decide) ?_
    exact x_iretR dm_130_10 rfl
  · refine x_iload_n dm_130_11 rfl ?_
    refine x_iconst (-1) dm_130_12 (by decide) ?_
    refine x_icmp_ne 25 dm_130_13 rfl (fun c3 => ?_) (fun c3 => ?_)
    · refine x_aload_n dm_130_16 rfl ?_
      refine x_getRC dm_130_17 fl_8_43 rfl rfl rfl rfl ?_
      refine x_iload_n dm_130_20 rfl ?_
      refine im_chk _ (fun hi4 => ?_)
      refine x_ialoadX _ rfl dm_130_21 rfl (mk_in rfl hi4) ?_
      refine x_goto 72 dm_130_22 rfl ?_
      exact x_iretR dm_130_72 rfl
    · refine x_iload_n dm_130_25 rfl ?_
      refine x_iconst (0) dm_130_26 (by decide) ?_
      refine x_bipush (7) dm_130_27 (by decide) ?_
      refine im_callRI mf_92 rfl (tg_92 x2 (0 : Int32) (7 : Int32) b1.2) (im_runS (as := [.inl x2, .inl (0 : Int32), .inl (7 : Int32)]) (rest := []) dm_130_29 mf_92 (Nat.le_of_ble_eq_true rfl) ml_8_83 mi_92 mp_92 (Nat.le_of_ble_eq_true rfl)) rfl (fun b5 hb5 => ?_)
      refine x_if_eq 71 dm_130_32 rfl (fun c6 => ?_) (fun c6 => ?_)
      · refine x_iconst (0) dm_130_71 (by decide) ?_
        exact x_iretR dm_130_72 rfl
      · refine x_iload_n dm_130_35 rfl ?_
        refine x_aload_n dm_130_36 rfl ?_
        refine x_getRC dm_130_37 fl_8_43 rfl rfl rfl rfl ?_
        refine x_iload_n dm_130_40 rfl ?_
        refine im_chk _ (fun hi7 => ?_)
        refine x_ialoadX _ rfl dm_130_41 rfl (mk_in rfl hi7) ?_
        refine x_icmp_ge 71 dm_130_42 rfl (fun c8 => ?_) (fun c8 => ?_)
        · refine x_iconst (0) dm_130_71 (by decide) ?_
          exact x_iretR dm_130_72 rfl
        · refine x_aload_n dm_130_45 rfl ?_
          refine x_getRC dm_130_46 fl_8_40 rfl rfl rfl rfl ?_
          refine x_bipush (8) dm_130_49 (by decide) ?_
          refine x_iload_n dm_130_51 rfl ?_
          refine x_imul dm_130_52 ?_
          refine x_aload_n dm_130_53 rfl ?_
          refine x_getRC dm_130_54 fl_8_43 rfl rfl rfl rfl ?_
          refine x_iload_n dm_130_57 rfl ?_
          refine x_ialoadX _ rfl dm_130_58 rfl (mk_in rfl hi7) ?_
          refine x_iconst (1) dm_130_59 (by decide) ?_
          refine x_isub dm_130_60 ?_
          refine x_iload_n dm_130_61 rfl ?_
          refine x_isub dm_130_62 ?_
          refine x_bipush (7) dm_130_63 (by decide) ?_
          refine x_iand dm_130_65 ?_
          refine x_iadd dm_130_66 ?_
          refine im_chk _ (fun hi9 => ?_)
          refine x_ialoadX _ rfl dm_130_67 rfl (mk_in rfl hi9) ?_
          refine x_goto 72 dm_130_68 rfl ?_
          exact x_iretR dm_130_72 rfl
/-- FencedModulesModel.call(III)I -/
def gn_131 (x1 : Int32) (x2 : Int32) (x3 : Int32) (M : im_M) : Option (Int32 × im_M) :=
  (gn_92 x1 (0 : Int32) (2 : Int32) M).bind fun b1 => if b1.1 = 0 then (some ((0 : Int32), b1.2)) else (if x2 = (-1 : Int32) then (if st_ib x1 3 then (some ((b1.2 13 (x1).toNatClampNeg), b1.2)) else none) else ((gn_92 x2 (0 : Int32) (15 : Int32) b1.2).bind fun b5 => if b5.1 = 0 then (some ((0 : Int32), b5.2)) else (if st_ib x1 3 then (if (b5.2 13 (x1).toNatClampNeg) ≤ x2 then (some ((0 : Int32), b5.2)) else ((gn_92 x3 (0 : Int32) (2 : Int32) b5.2).bind fun b9 => if b9.1 = 0 then (some ((0 : Int32), b9.2)) else (if st_ib ((((48 : Int32) * x1) + ((3 : Int32) * x2)) + x3) 144 then (some ((b9.2 14 (((((48 : Int32) * x1) + ((3 : Int32) * x2)) + x3)).toNatClampNeg), b9.2)) else none))) else none)))
set_option maxRecDepth 100000 in
set_option maxHeartbeats 4000000 in
theorem tg_131 (x1 : Int32) (x2 : Int32) (x3 : Int32) (M : im_M) : im_Go zR_I 1 fm_131 0 (im_en 0 [.inr (some 0), .inl x1, .inl x2, .inl x3]) [] (st_hR M) (gn_131 x1 x2 x3 M) := by
  unfold gn_131
  refine x_iload_n dm_131_0 rfl ?_
  refine x_iconst (0) dm_131_1 (by decide) ?_
  refine x_iconst (2) dm_131_2 (by decide) ?_
  refine im_callRI mf_92 rfl (tg_92 x1 (0 : Int32) (2 : Int32) M) (im_runS (as := [.inl x1, .inl (0 : Int32), .inl (2 : Int32)]) (rest := []) dm_131_3 mf_92 (Nat.le_of_ble_eq_true rfl) ml_8_83 mi_92 mp_92 (Nat.le_of_ble_eq_true rfl)) rfl (fun b1 hb1 => ?_)
  refine x_if_ne 11 dm_131_6 rfl (fun c2 => ?_) (fun c2 => ?_)
  · refine x_iconst (0) dm_131_9 (by decide) ?_
    exact x_iretR dm_131_10 rfl
  · refine x_iload_n dm_131_11 rfl ?_
    refine x_iconst (-1) dm_131_12 (by decide) ?_
    refine x_icmp_ne 23 dm_131_13 rfl (fun c3 => ?_) (fun c3 => ?_)
    · refine x_aload_n dm_131_16 rfl ?_
      refine x_getRC dm_131_17 fl_8_46 rfl rfl rfl rfl ?_
      refine x_iload_n dm_131_20 rfl ?_
      refine im_chk _ (fun hi4 => ?_)
      refine x_ialoadX _ rfl dm_131_21 rfl (mk_in rfl hi4) ?_
      exact x_iretR dm_131_22 rfl
    · refine x_iload_n dm_131_23 rfl ?_
      refine x_iconst (0) dm_131_24 (by decide) ?_
      refine x_bipush (15) dm_131_25 (by decide) ?_
      refine im_callRI mf_92 rfl (tg_92 x2 (0 : Int32) (15 : Int32) b1.2) (im_runS (as := [.inl x2, .inl (0 : Int32), .inl (15 : Int32)]) (rest := []) dm_131_27 mf_92 (Nat.le_of_ble_eq_true rfl) ml_8_83 mi_92 mp_92 (Nat.le_of_ble_eq_true rfl)) rfl (fun b5 hb5 => ?_)
      refine x_if_eq 70 dm_131_30 rfl (fun c6 => ?_) (fun c6 => ?_)
      · refine x_iconst (0) dm_131_70 (by decide) ?_
        exact x_iretR dm_131_71 rfl
      · refine x_iload_n dm_131_33 rfl ?_
        refine x_aload_n dm_131_34 rfl ?_
        refine x_getRC dm_131_35 fl_8_46 rfl rfl rfl rfl ?_
        refine x_iload_n dm_131_38 rfl ?_
        refine im_chk _ (fun hi7 => ?_)
        refine x_ialoadX _ rfl dm_131_39 rfl (mk_in rfl hi7) ?_
        refine x_icmp_ge 70 dm_131_40 rfl (fun c8 => ?_) (fun c8 => ?_)
        · refine x_iconst (0) dm_131_70 (by decide) ?_
          exact x_iretR dm_131_71 rfl
        · refine x_iload_n dm_131_43 rfl ?_
          refine x_iconst (0) dm_131_44 (by decide) ?_
          refine x_iconst (2) dm_131_45 (by decide) ?_
          refine im_callRI mf_92 rfl (tg_92 x3 (0 : Int32) (2 : Int32) b5.2) (im_runS (as := [.inl x3, .inl (0 : Int32), .inl (2 : Int32)]) (rest := []) dm_131_46 mf_92 (Nat.le_of_ble_eq_true rfl) ml_8_83 mi_92 mp_92 (Nat.le_of_ble_eq_true rfl)) rfl (fun b9 hb9 => ?_)
          refine x_if_eq 70 dm_131_49 rfl (fun c10 => ?_) (fun c10 => ?_)
          · refine x_iconst (0) dm_131_70 (by decide) ?_
            exact x_iretR dm_131_71 rfl
          · refine x_aload_n dm_131_52 rfl ?_
            refine x_getRC dm_131_53 fl_8_49 rfl rfl rfl rfl ?_
            refine x_bipush (48) dm_131_56 (by decide) ?_
            refine x_iload_n dm_131_58 rfl ?_
            refine x_imul dm_131_59 ?_
            refine x_iconst (3) dm_131_60 (by decide) ?_
            refine x_iload_n dm_131_61 rfl ?_
            refine x_imul dm_131_62 ?_
            refine x_iadd dm_131_63 ?_
            refine x_iload_n dm_131_64 rfl ?_
            refine x_iadd dm_131_65 ?_
            refine im_chk _ (fun hi11 => ?_)
            refine x_ialoadX _ rfl dm_131_66 rfl (mk_in rfl hi11) ?_
            refine x_goto 71 dm_131_67 rfl ?_
            exact x_iretR dm_131_71 rfl
/-- FencedModulesModel.trace(II)I -/
def gn_132 (x1 : Int32) (x2 : Int32) (M : im_M) : Option (Int32 × im_M) :=
  if x1 = (-1 : Int32) then (some ((M 0 30), M)) else ((gn_92 x1 (0 : Int32) (15 : Int32) M).bind fun b2 => if b2.1 = 0 then (some ((0 : Int32), b2.2)) else (if (b2.2 0 30) ≤ x1 then (some ((0 : Int32), b2.2)) else ((gn_92 x2 (0 : Int32) (2 : Int32) b2.2).bind fun b5 => if b5.1 = 0 then (some ((0 : Int32), b5.2)) else (if st_ib (((3 : Int32) * x1) + x2) 48 then (some ((b5.2 24 ((((3 : Int32) * x1) + x2)).toNatClampNeg), b5.2)) else none))))
set_option maxRecDepth 100000 in
set_option maxHeartbeats 4000000 in
theorem tg_132 (x1 : Int32) (x2 : Int32) (M : im_M) : im_Go zR_I 1 fm_132 0 (im_en 0 [.inr (some 0), .inl x1, .inl x2]) [] (st_hR M) (gn_132 x1 x2 M) := by
  unfold gn_132
  refine x_iload_n dm_132_0 rfl ?_
  refine x_iconst (-1) dm_132_1 (by decide) ?_
  refine x_icmp_ne 10 dm_132_2 rfl (fun c1 => ?_) (fun c1 => ?_)
  · refine x_aload_n dm_132_5 rfl ?_
    refine x_getI dm_132_6 fl_8_182 rfl rfl rfl ?_
    exact x_iretR dm_132_9 rfl
  · refine x_iload_n dm_132_10 rfl ?_
    refine x_iconst (0) dm_132_11 (by decide) ?_
    refine x_bipush (15) dm_132_12 (by decide) ?_
    refine im_callRI mf_92 rfl (tg_92 x1 (0 : Int32) (15 : Int32) M) (im_runS (as := [.inl x1, .inl (0 : Int32), .inl (15 : Int32)]) (rest := []) dm_132_14 mf_92 (Nat.le_of_ble_eq_true rfl) ml_8_83 mi_92 mp_92 (Nat.le_of_ble_eq_true rfl)) rfl (fun b2 hb2 => ?_)
    refine x_if_eq 50 dm_132_17 rfl (fun c3 => ?_) (fun c3 => ?_)
    · refine x_iconst (0) dm_132_50 (by decide) ?_
      exact x_iretR dm_132_51 rfl
    · refine x_iload_n dm_132_20 rfl ?_
      refine x_aload_n dm_132_21 rfl ?_
      refine x_getI dm_132_22 fl_8_182 rfl rfl rfl ?_
      refine x_icmp_ge 50 dm_132_25 rfl (fun c4 => ?_) (fun c4 => ?_)
      · refine x_iconst (0) dm_132_50 (by decide) ?_
        exact x_iretR dm_132_51 rfl
      · refine x_iload_n dm_132_28 rfl ?_
        refine x_iconst (0) dm_132_29 (by decide) ?_
        refine x_iconst (2) dm_132_30 (by decide) ?_
        refine im_callRI mf_92 rfl (tg_92 x2 (0 : Int32) (2 : Int32) b2.2) (im_runS (as := [.inl x2, .inl (0 : Int32), .inl (2 : Int32)]) (rest := []) dm_132_31 mf_92 (Nat.le_of_ble_eq_true rfl) ml_8_83 mi_92 mp_92 (Nat.le_of_ble_eq_true rfl)) rfl (fun b5 hb5 => ?_)
        refine x_if_eq 50 dm_132_34 rfl (fun c6 => ?_) (fun c6 => ?_)
        · refine x_iconst (0) dm_132_50 (by decide) ?_
          exact x_iretR dm_132_51 rfl
        · refine x_aload_n dm_132_37 rfl ?_
          refine x_getRC dm_132_38 fl_8_80 rfl rfl rfl rfl ?_
          refine x_iconst (3) dm_132_41 (by decide) ?_
          refine x_iload_n dm_132_42 rfl ?_
          refine x_imul dm_132_43 ?_
          refine x_iload_n dm_132_44 rfl ?_
          refine x_iadd dm_132_45 ?_
          refine im_chk _ (fun hi7 => ?_)
          refine x_ialoadX _ rfl dm_132_46 rfl (mk_in rfl hi7) ?_
          refine x_goto 51 dm_132_47 rfl ?_
          exact x_iretR dm_132_51 rfl
def gn_98_2  : Nat → Int32 → im_M → Option (Int32 × im_M)
  | 0, _, _ => none
  | n + 1, y1, M =>
    if (M 0 16) ≤ y1 then ((gn_96 (M 0 16) M).bind fun b2 => if (31 : Int32) < (b2.1 + (1 : Int32)) then (some ((0 : Int32), b2.2)) else (some ((1 : Int32), b2.2))) else ((gn_97 y1 M).bind fun b4 => if b4.1 = 0 then (some ((0 : Int32), b4.2)) else (let v6 : Int32 := (y1 + (1 : Int32)); gn_98_2 n v6 b4.2))
set_option maxRecDepth 100000 in
set_option maxHeartbeats 4000000 in
theorem tg_98_2  : ∀ (n : Nat) (y1 : Int32) (M : im_M), im_Go zR_I 2 fm_98 2 [(0, .inr (some 0)), (1, .inl y1)] [] (st_hR M) (gn_98_2  n y1 M)
  | 0, y1, M => im_none
  | n + 1, y1, M => by
    have ih := tg_98_2  n
    unfold gn_98_2
    refine x_iload_n dm_98_2 rfl ?_
    refine x_aload_n dm_98_3 rfl ?_
    refine x_getI dm_98_4 fl_8_89 rfl rfl rfl ?_
    refine x_icmp_ge 26 dm_98_7 rfl (fun c1 => ?_) (fun c1 => ?_)
    · refine x_aload_n dm_98_26 rfl ?_
      refine x_aload_n dm_98_27 rfl ?_
      refine x_getI dm_98_28 fl_8_89 rfl rfl rfl ?_
      refine im_callRI mf_96 rfl (tg_96 _ M) (im_runV (as := [.inl _]) (rest := []) dm_98_31 mf_96 (Nat.le_of_ble_eq_true rfl) ml_8_100 mi_96 ms_96 mp_96 (Nat.le_of_ble_eq_true rfl) rfl rfl ⟨_, _, rfl⟩) rfl (fun b2 hb2 => ?_)
      refine x_iconst (1) dm_98_34 (by decide) ?_
      refine x_iadd dm_98_35 ?_
      refine x_bipush (31) dm_98_36 (by decide) ?_
      refine x_icmp_gt 45 dm_98_38 rfl (fun c3 => ?_) (fun c3 => ?_)
      · refine x_iconst (0) dm_98_45 (by decide) ?_
        exact x_zretR dm_98_46 rfl (by decide)
      · refine x_iconst (1) dm_98_41 (by decide) ?_
        refine x_goto 46 dm_98_42 rfl ?_
        exact x_zretR dm_98_46 rfl (by decide)
    · refine x_aload_n dm_98_10 rfl ?_
      refine x_iload_n dm_98_11 rfl ?_
      refine im_callRI mf_97 rfl (tg_97 y1 M) (im_runV (as := [.inl y1]) (rest := []) dm_98_12 mf_97 (Nat.le_of_ble_eq_true rfl) ml_8_96 mi_97 ms_97 mp_97 (Nat.le_of_ble_eq_true rfl) rfl rfl ⟨_, _, rfl⟩) rfl (fun b4 hb4 => ?_)
      refine x_if_ne 20 dm_98_15 rfl (fun c5 => ?_) (fun c5 => ?_)
      · refine x_iconst (0) dm_98_18 (by decide) ?_
        exact x_zretR dm_98_19 rfl (by decide)
      · refine x_iinc (1) dm_98_20 rfl (by decide) (Nat.le_of_ble_eq_true rfl) ?_
        refine x_goto 2 dm_98_23 rfl ?_
        exact im_lsub [(0, .inr (some 0)), (1, .inl _)] (im_sb_c rfl (im_sb_c rfl im_sb_n)) (ih _ b4.2)
/-- FencedModulesModel.can()Z -/
def gn_98 (M : im_M) : Option (Int32 × im_M) :=
  gn_98_2 1000 (0 : Int32) M
set_option maxRecDepth 100000 in
set_option maxHeartbeats 4000000 in
theorem tg_98 (M : im_M) : im_Go zR_I 2 fm_98 0 (im_en 0 [.inr (some 0)]) [] (st_hR M) (gn_98 M) := by
  unfold gn_98
  refine x_iconst (0) dm_98_0 (by decide) ?_
  refine x_istore_n dm_98_1 (Nat.le_of_ble_eq_true rfl) ?_
  exact im_lsub [(0, .inr (some 0)), (1, .inl (0 : Int32))] (im_sb_c rfl (im_sb_c rfl im_sb_n)) (tg_98_2 1000 (0 : Int32) M)
def gn_103_43 (y2 : Int32) (y3 : Int32) (y4 : Int32) (y5 : Int32) (y6 : Int32) (M : im_M) : Option (im_M) :=
  (gn_99 (2 : Int32) (5 : Int32) y5 y6 M).bind fun b1 => (gn_100 b1.1 b1.2).bind fun b2 => (gn_99 (6 : Int32) (6 : Int32) (5 : Int32) (15 : Int32) b2).bind fun b3 => (gn_100 b3.1 b3.2).bind fun b4 => (gn_99 (7 : Int32) (6 : Int32) (6 : Int32) ((16 : Int32) * y2) b4).bind fun b5 => (gn_100 b5.1 b5.2).bind fun b6 => (gn_99 y3 y4 (6 : Int32) (0 : Int32) b6).bind fun b7 => (gn_100 b7.1 b7.2).bind fun b8 => some b8
set_option maxRecDepth 100000 in
set_option maxHeartbeats 4000000 in
theorem tg_103_43 (y2 : Int32) (y3 : Int32) (y4 : Int32) (y5 : Int32) (y6 : Int32) (M : im_M) : im_Go zR_V 2 fm_103 43 [(0, .inr (some 0)), (2, .inl y2), (3, .inl y3), (4, .inl y4), (5, .inl y5), (6, .inl y6)] [] (st_hR M) (gn_103_43 y2 y3 y4 y5 y6 M) := by
  unfold gn_103_43
  refine x_aload_n dm_103_43 rfl ?_
  refine x_iconst (2) dm_103_44 (by decide) ?_
  refine x_iconst (5) dm_103_45 (by decide) ?_
  refine x_iload dm_103_46 rfl ?_
  refine x_iload dm_103_48 rfl ?_
  refine im_callRI mf_99 rfl (tg_99 (2 : Int32) (5 : Int32) y5 y6 M) (im_runS (as := [.inl (2 : Int32), .inl (5 : Int32), .inl y5, .inl y6]) (rest := [.inr (some 0)]) dm_103_50 mf_99 (Nat.le_of_ble_eq_true rfl) ml_8_116 mi_99 mp_99 (Nat.le_of_ble_eq_true rfl)) rfl (fun b1 hb1 => ?_)
  refine im_callRV mf_100 rfl (tg_100 b1.1 b1.2) (im_runV (as := [.inl b1.1]) (rest := []) dm_103_53 mf_100 (Nat.le_of_ble_eq_true rfl) ml_8_112 mi_100 ms_100 mp_100 (Nat.le_of_ble_eq_true rfl) rfl rfl ⟨_, _, rfl⟩) rfl (fun b2 hb2 => ?_)
  refine x_aload_n dm_103_56 rfl ?_
  refine x_bipush (6) dm_103_57 (by decide) ?_
  refine x_bipush (6) dm_103_59 (by decide) ?_
  refine x_iconst (5) dm_103_61 (by decide) ?_
  refine x_bipush (15) dm_103_62 (by decide) ?_
  refine im_callRI mf_99 rfl (tg_99 (6 : Int32) (6 : Int32) (5 : Int32) (15 : Int32) b2) (im_runS (as := [.inl (6 : Int32), .inl (6 : Int32), .inl (5 : Int32), .inl (15 : Int32)]) (rest := [.inr (some 0)]) dm_103_64 mf_99 (Nat.le_of_ble_eq_true rfl) ml_8_116 mi_99 mp_99 (Nat.le_of_ble_eq_true rfl)) rfl (fun b3 hb3 => ?_)
  refine im_callRV mf_100 rfl (tg_100 b3.1 b3.2) (im_runV (as := [.inl b3.1]) (rest := []) dm_103_67 mf_100 (Nat.le_of_ble_eq_true rfl) ml_8_112 mi_100 ms_100 mp_100 (Nat.le_of_ble_eq_true rfl) rfl rfl ⟨_, _, rfl⟩) rfl (fun b4 hb4 => ?_)
  refine x_aload_n dm_103_70 rfl ?_
  refine x_bipush (7) dm_103_71 (by decide) ?_
  refine x_bipush (6) dm_103_73 (by decide) ?_
  refine x_bipush (6) dm_103_75 (by decide) ?_
  refine x_bipush (16) dm_103_77 (by decide) ?_
  refine x_iload_n dm_103_79 rfl ?_
  refine x_imul dm_103_80 ?_
  refine im_callRI mf_99 rfl (tg_99 (7 : Int32) (6 : Int32) (6 : Int32) _ b4) (im_runS (as := [.inl (7 : Int32), .inl (6 : Int32), .inl (6 : Int32), .inl _]) (rest := [.inr (some 0)]) dm_103_81 mf_99 (Nat.le_of_ble_eq_true rfl) ml_8_116 mi_99 mp_99 (Nat.le_of_ble_eq_true rfl)) rfl (fun b5 hb5 => ?_)
  refine im_callRV mf_100 rfl (tg_100 b5.1 b5.2) (im_runV (as := [.inl b5.1]) (rest := []) dm_103_84 mf_100 (Nat.le_of_ble_eq_true rfl) ml_8_112 mi_100 ms_100 mp_100 (Nat.le_of_ble_eq_true rfl) rfl rfl ⟨_, _, rfl⟩) rfl (fun b6 hb6 => ?_)
  refine x_aload_n dm_103_87 rfl ?_
  refine x_iload_n dm_103_88 rfl ?_
  refine x_iload dm_103_89 rfl ?_
  refine x_bipush (6) dm_103_91 (by decide) ?_
  refine x_iconst (0) dm_103_93 (by decide) ?_
  refine im_callRI mf_99 rfl (tg_99 y3 y4 (6 : Int32) (0 : Int32) b6) (im_runS (as := [.inl y3, .inl y4, .inl (6 : Int32), .inl (0 : Int32)]) (rest := [.inr (some 0)]) dm_103_94 mf_99 (Nat.le_of_ble_eq_true rfl) ml_8_116 mi_99 mp_99 (Nat.le_of_ble_eq_true rfl)) rfl (fun b7 hb7 => ?_)
  refine im_callRV mf_100 rfl (tg_100 b7.1 b7.2) (im_runV (as := [.inl b7.1]) (rest := []) dm_103_97 mf_100 (Nat.le_of_ble_eq_true rfl) ml_8_112 mi_100 ms_100 mp_100 (Nat.le_of_ble_eq_true rfl) rfl rfl ⟨_, _, rfl⟩) rfl (fun b8 hb8 => ?_)
  refine x_goto 341 dm_103_100 rfl ?_
  exact x_vretR dm_103_341 rfl
def gn_103_253 (s0 : Int32) (M : im_M) : Option (im_M) :=
  (gn_100 s0 M).bind fun b1 => some b1
set_option maxRecDepth 100000 in
set_option maxHeartbeats 4000000 in
theorem tg_103_253 (s0 : Int32) (M : im_M) : im_Go zR_V 2 fm_103 253 [] [.inl s0, .inr (some 0)] (st_hR M) (gn_103_253 s0 M) := by
  unfold gn_103_253
  refine im_callRV mf_100 rfl (tg_100 s0 M) (im_runV (as := [.inl s0]) (rest := []) dm_103_253 mf_100 (Nat.le_of_ble_eq_true rfl) ml_8_112 mi_100 ms_100 mp_100 (Nat.le_of_ble_eq_true rfl) rfl rfl ⟨_, _, rfl⟩) rfl (fun b1 hb1 => ?_)
  refine x_goto 341 dm_103_256 rfl ?_
  exact x_vretR dm_103_341 rfl
def gn_103_335 (s0 : Int32) (s1 : Int32) (s2 : Int32) (s3 : Int32) (M : im_M) : Option (im_M) :=
  (gn_99 s3 s2 s1 s0 M).bind fun b1 => (gn_100 b1.1 b1.2).bind fun b2 => some b2
set_option maxRecDepth 100000 in
set_option maxHeartbeats 4000000 in
theorem tg_103_335 (s0 : Int32) (s1 : Int32) (s2 : Int32) (s3 : Int32) (M : im_M) : im_Go zR_V 2 fm_103 335 [] [.inl s0, .inl s1, .inl s2, .inl s3, .inr (some 0)] (st_hR M) (gn_103_335 s0 s1 s2 s3 M) := by
  unfold gn_103_335
  refine im_callRI mf_99 rfl (tg_99 s3 s2 s1 s0 M) (im_runS (as := [.inl s3, .inl s2, .inl s1, .inl s0]) (rest := [.inr (some 0)]) dm_103_335 mf_99 (Nat.le_of_ble_eq_true rfl) ml_8_116 mi_99 mp_99 (Nat.le_of_ble_eq_true rfl)) rfl (fun b1 hb1 => ?_)
  refine im_callRV mf_100 rfl (tg_100 b1.1 b1.2) (im_runV (as := [.inl b1.1]) (rest := []) dm_103_338 mf_100 (Nat.le_of_ble_eq_true rfl) ml_8_112 mi_100 ms_100 mp_100 (Nat.le_of_ble_eq_true rfl) rfl rfl ⟨_, _, rfl⟩) rfl (fun b2 hb2 => ?_)
  exact x_vretR dm_103_341 rfl
/-- FencedModulesModel.translate(II)V -/
def gn_103 (x1 : Int32) (x2 : Int32) (M : im_M) : Option (im_M) :=
  if st_ib x1 24 then (let v2 : Int32 := (M 15 (x1).toNatClampNeg); if st_ib x1 24 then (let v4 : Int32 := (M 16 (x1).toNatClampNeg); if st_ib x1 24 then (let v6 : Int32 := (M 17 (x1).toNatClampNeg); if st_ib x1 24 then (let v8 : Int32 := (M 18 (x1).toNatClampNeg); if v2 = (8 : Int32) then (gn_103_43 x2 v2 v4 v6 v8 M) else (if v2 = (9 : Int32) then (gn_103_43 x2 v2 v4 v6 v8 M) else (if v2 = (13 : Int32) then ((gn_99 (6 : Int32) (7 : Int32) v4 (31 : Int32) M).bind fun b12 => (gn_100 b12.1 b12.2).bind fun b13 => (gn_99 (7 : Int32) (7 : Int32) (7 : Int32) ((64 : Int32) + ((32 : Int32) * x2)) b13).bind fun b14 => (gn_100 b14.1 b14.2).bind fun b15 => (gn_99 (13 : Int32) (7 : Int32) (0 : Int32) (0 : Int32) b15).bind fun b16 => (gn_100 b16.1 b16.2).bind fun b17 => some b17) else (if v2 = (15 : Int32) then ((gn_101 v8 M).bind fun b19 => (gn_99 (1 : Int32) v4 (0 : Int32) (((64 : Int32) + ((32 : Int32) * x2)) + b19.1) b19.2).bind fun b20 => (gn_100 b20.1 b20.2).bind fun b21 => some b21) else ((gn_92 v2 (10 : Int32) (12 : Int32) M).bind fun b22 => if b22.1 = 0 then (if v2 = 0 then ((gn_100 (0 : Int32) b22.2).bind fun b25 => some b25) else (if v2 = (14 : Int32) then ((gn_99 (14 : Int32) (0 : Int32) (0 : Int32) v8 b22.2).bind fun b27 => (gn_100 b27.1 b27.2).bind fun b28 => some b28) else (if v2 = (1 : Int32) then ((gn_99 (1 : Int32) v4 (0 : Int32) v8 b22.2).bind fun b30 => (gn_100 b30.1 b30.2).bind fun b31 => some b31) else ((gn_92 v2 (3 : Int32) (5 : Int32) b22.2).bind fun b32 => if b32.1 = 0 then (gn_103_335 v8 v6 v4 v2 b32.2) else (gn_103_335 (0 : Int32) v6 v4 v2 b32.2))))) else ((gn_101 v8 b22.2).bind fun b34 => let v35 : Int32 := ((b34.1 - (b34.2 0 23)) - (1 : Int32)); if v2 = (12 : Int32) then ((gn_99 (12 : Int32) (0 : Int32) (0 : Int32) v35 b34.2).bind fun b37 => gn_103_253 b37.1 b37.2) else ((gn_99 v2 v4 v6 v35 b34.2).bind fun b38 => gn_103_253 b38.1 b38.2))))))) else none) else none) else none) else none
set_option maxRecDepth 100000 in
set_option maxHeartbeats 4000000 in
theorem tg_103 (x1 : Int32) (x2 : Int32) (M : im_M) : im_Go zR_V 2 fm_103 0 (im_en 0 [.inr (some 0), .inl x1, .inl x2]) [] (st_hR M) (gn_103 x1 x2 M) := by
  unfold gn_103
  refine x_aload_n dm_103_0 rfl ?_
  refine x_getRC dm_103_1 fl_8_52 rfl rfl rfl rfl ?_
  refine x_iload_n dm_103_4 rfl ?_
  refine im_chk _ (fun hi1 => ?_)
  refine x_ialoadX _ rfl dm_103_5 rfl (mk_in rfl hi1) ?_
  refine x_istore_n dm_103_6 (Nat.le_of_ble_eq_true rfl) ?_
  refine x_aload_n dm_103_7 rfl ?_
  refine x_getRC dm_103_8 fl_8_55 rfl rfl rfl rfl ?_
  refine x_iload_n dm_103_11 rfl ?_
  refine im_chk _ (fun hi3 => ?_)
  refine x_ialoadX _ rfl dm_103_12 rfl (mk_in rfl hi3) ?_
  refine x_istore dm_103_13 (Nat.le_of_ble_eq_true rfl) ?_
  refine x_aload_n dm_103_15 rfl ?_
  refine x_getRC dm_103_16 fl_8_58 rfl rfl rfl rfl ?_
  refine x_iload_n dm_103_19 rfl ?_
  refine im_chk _ (fun hi5 => ?_)
  refine x_ialoadX _ rfl dm_103_20 rfl (mk_in rfl hi5) ?_
  refine x_istore dm_103_21 (Nat.le_of_ble_eq_true rfl) ?_
  refine x_aload_n dm_103_23 rfl ?_
  refine x_getRC dm_103_24 fl_8_61 rfl rfl rfl rfl ?_
  refine x_iload_n dm_103_27 rfl ?_
  refine im_chk _ (fun hi7 => ?_)
  refine x_ialoadX _ rfl dm_103_28 rfl (mk_in rfl hi7) ?_
  refine x_istore dm_103_29 (Nat.le_of_ble_eq_true rfl) ?_
  refine x_iload_n dm_103_31 rfl ?_
  refine x_bipush (8) dm_103_32 (by decide) ?_
  refine x_icmp_eq 43 dm_103_34 rfl (fun c9 => ?_) (fun c9 => ?_)
  · exact im_lsub [(0, .inr (some 0)), (2, .inl x2), (3, .inl _), (4, .inl _), (5, .inl _), (6, .inl _)] (im_sb_c rfl (im_sb_c rfl (im_sb_c rfl (im_sb_c rfl (im_sb_c rfl (im_sb_c rfl im_sb_n)))))) (tg_103_43 x2 _ _ _ _ M)
  · refine x_iload_n dm_103_37 rfl ?_
    refine x_bipush (9) dm_103_38 (by decide) ?_
    refine x_icmp_ne 103 dm_103_40 rfl (fun c10 => ?_) (fun c10 => ?_)
    · exact im_lsub [(0, .inr (some 0)), (2, .inl x2), (3, .inl _), (4, .inl _), (5, .inl _), (6, .inl _)] (im_sb_c rfl (im_sb_c rfl (im_sb_c rfl (im_sb_c rfl (im_sb_c rfl (im_sb_c rfl im_sb_n)))))) (tg_103_43 x2 _ _ _ _ M)
    · refine x_iload_n dm_103_103 rfl ?_
      refine x_bipush (13) dm_103_104 (by decide) ?_
      refine x_icmp_ne 160 dm_103_106 rfl (fun c11 => ?_) (fun c11 => ?_)
      · refine x_aload_n dm_103_109 rfl ?_
        refine x_bipush (6) dm_103_110 (by decide) ?_
        refine x_bipush (7) dm_103_112 (by decide) ?_
        refine x_iload dm_103_114 rfl ?_
        refine x_bipush (31) dm_103_116 (by decide) ?_
        refine im_callRI mf_99 rfl (tg_99 (6 : Int32) (7 : Int32) _ (31 : Int32) M) (im_runS (as := [.inl (6 : Int32), .inl (7 : Int32), .inl _, .inl (31 : Int32)]) (rest := [.inr (some 0)]) dm_103_118 mf_99 (Nat.le_of_ble_eq_true rfl) ml_8_116 mi_99 mp_99 (Nat.le_of_ble_eq_true rfl)) rfl (fun b12 hb12 => ?_)
        refine im_callRV mf_100 rfl (tg_100 b12.1 b12.2) (im_runV (as := [.inl b12.1]) (rest := []) dm_103_121 mf_100 (Nat.le_of_ble_eq_true rfl) ml_8_112 mi_100 ms_100 mp_100 (Nat.le_of_ble_eq_true rfl) rfl rfl ⟨_, _, rfl⟩) rfl (fun b13 hb13 => ?_)
        refine x_aload_n dm_103_124 rfl ?_
        refine x_bipush (7) dm_103_125 (by decide) ?_
        refine x_bipush (7) dm_103_127 (by decide) ?_
        refine x_bipush (7) dm_103_129 (by decide) ?_
        refine x_bipush (64) dm_103_131 (by decide) ?_
        refine x_bipush (32) dm_103_133 (by decide) ?_
        refine x_iload_n dm_103_135 rfl ?_
        refine x_imul dm_103_136 ?_
        refine x_iadd dm_103_137 ?_
        refine im_callRI mf_99 rfl (tg_99 (7 : Int32) (7 : Int32) (7 : Int32) _ b13) (im_runS (as := [.inl (7 : Int32), .inl (7 : Int32), .inl (7 : Int32), .inl _]) (rest := [.inr (some 0)]) dm_103_138 mf_99 (Nat.le_of_ble_eq_true rfl) ml_8_116 mi_99 mp_99 (Nat.le_of_ble_eq_true rfl)) rfl (fun b14 hb14 => ?_)
        refine im_callRV mf_100 rfl (tg_100 b14.1 b14.2) (im_runV (as := [.inl b14.1]) (rest := []) dm_103_141 mf_100 (Nat.le_of_ble_eq_true rfl) ml_8_112 mi_100 ms_100 mp_100 (Nat.le_of_ble_eq_true rfl) rfl rfl ⟨_, _, rfl⟩) rfl (fun b15 hb15 => ?_)
        refine x_aload_n dm_103_144 rfl ?_
        refine x_bipush (13) dm_103_145 (by decide) ?_
        refine x_bipush (7) dm_103_147 (by decide) ?_
        refine x_iconst (0) dm_103_149 (by decide) ?_
        refine x_iconst (0) dm_103_150 (by decide) ?_
        refine im_callRI mf_99 rfl (tg_99 (13 : Int32) (7 : Int32) (0 : Int32) (0 : Int32) b15) (im_runS (as := [.inl (13 : Int32), .inl (7 : Int32), .inl (0 : Int32), .inl (0 : Int32)]) (rest := [.inr (some 0)]) dm_103_151 mf_99 (Nat.le_of_ble_eq_true rfl) ml_8_116 mi_99 mp_99 (Nat.le_of_ble_eq_true rfl)) rfl (fun b16 hb16 => ?_)
        refine im_callRV mf_100 rfl (tg_100 b16.1 b16.2) (im_runV (as := [.inl b16.1]) (rest := []) dm_103_154 mf_100 (Nat.le_of_ble_eq_true rfl) ml_8_112 mi_100 ms_100 mp_100 (Nat.le_of_ble_eq_true rfl) rfl rfl ⟨_, _, rfl⟩) rfl (fun b17 hb17 => ?_)
        refine x_goto 341 dm_103_157 rfl ?_
        exact x_vretR dm_103_341 rfl
      · refine x_iload_n dm_103_160 rfl ?_
        refine x_bipush (15) dm_103_161 (by decide) ?_
        refine x_icmp_ne 198 dm_103_163 rfl (fun c18 => ?_) (fun c18 => ?_)
        · refine x_aload_n dm_103_166 rfl ?_
          refine x_iload dm_103_167 rfl ?_
          refine im_callRI mf_101 rfl (tg_101 _ M) (im_runV (as := [.inl _]) (rest := []) dm_103_169 mf_101 (Nat.le_of_ble_eq_true rfl) ml_8_120 mi_101 ms_101 mp_101 (Nat.le_of_ble_eq_true rfl) rfl rfl ⟨_, _, rfl⟩) rfl (fun b19 hb19 => ?_)
          refine x_istore dm_103_172 (Nat.le_of_ble_eq_true rfl) ?_
          refine x_aload_n dm_103_174 rfl ?_
          refine x_iconst (1) dm_103_175 (by decide) ?_
          refine x_iload dm_103_176 rfl ?_
          refine x_iconst (0) dm_103_178 (by decide) ?_
          refine x_bipush (64) dm_103_179 (by decide) ?_
          refine x_bipush (32) dm_103_181 (by decide) ?_
          refine x_iload_n dm_103_183 rfl ?_
          refine x_imul dm_103_184 ?_
          refine x_iadd dm_103_185 ?_
          refine x_iload dm_103_186 rfl ?_
          refine x_iadd dm_103_188 ?_
          refine im_callRI mf_99 rfl (tg_99 (1 : Int32) _ (0 : Int32) _ b19.2) (im_runS (as := [.inl (1 : Int32), .inl _, .inl (0 : Int32), .inl _]) (rest := [.inr (some 0)]) dm_103_189 mf_99 (Nat.le_of_ble_eq_true rfl) ml_8_116 mi_99 mp_99 (Nat.le_of_ble_eq_true rfl)) rfl (fun b20 hb20 => ?_)
          refine im_callRV mf_100 rfl (tg_100 b20.1 b20.2) (im_runV (as := [.inl b20.1]) (rest := []) dm_103_192 mf_100 (Nat.le_of_ble_eq_true rfl) ml_8_112 mi_100 ms_100 mp_100 (Nat.le_of_ble_eq_true rfl) rfl rfl ⟨_, _, rfl⟩) rfl (fun b21 hb21 => ?_)
          refine x_goto 341 dm_103_195 rfl ?_
          exact x_vretR dm_103_341 rfl
        · refine x_iload_n dm_103_198 rfl ?_
          refine x_bipush (10) dm_103_199 (by decide) ?_
          refine x_bipush (12) dm_103_201 (by decide) ?_
          refine im_callRI mf_92 rfl (tg_92 _ (10 : Int32) (12 : Int32) M) (im_runS (as := [.inl _, .inl (10 : Int32), .inl (12 : Int32)]) (rest := []) dm_103_203 mf_92 (Nat.le_of_ble_eq_true rfl) ml_8_83 mi_92 mp_92 (Nat.le_of_ble_eq_true rfl)) rfl (fun b22 hb22 => ?_)
          refine x_if_eq 259 dm_103_206 rfl (fun c23 => ?_) (fun c23 => ?_)
          · refine x_iload_n dm_103_259 rfl ?_
            refine x_if_ne 271 dm_103_260 rfl (fun c24 => ?_) (fun c24 => ?_)
            · refine x_aload_n dm_103_263 rfl ?_
              refine x_iconst (0) dm_103_264 (by decide) ?_
              refine im_callRV mf_100 rfl (tg_100 (0 : Int32) b22.2) (im_runV (as := [.inl (0 : Int32)]) (rest := []) dm_103_265 mf_100 (Nat.le_of_ble_eq_true rfl) ml_8_112 mi_100 ms_100 mp_100 (Nat.le_of_ble_eq_true rfl) rfl rfl ⟨_, _, rfl⟩) rfl (fun b25 hb25 => ?_)
              refine x_goto 341 dm_103_268 rfl ?_
              exact x_vretR dm_103_341 rfl
            · refine x_iload_n dm_103_271 rfl ?_
              refine x_bipush (14) dm_103_272 (by decide) ?_
              refine x_icmp_ne 293 dm_103_274 rfl (fun c26 => ?_) (fun c26 => ?_)
              · refine x_aload_n dm_103_277 rfl ?_
                refine x_bipush (14) dm_103_278 (by decide) ?_
                refine x_iconst (0) dm_103_280 (by decide) ?_
                refine x_iconst (0) dm_103_281 (by decide) ?_
                refine x_iload dm_103_282 rfl ?_
                refine im_callRI mf_99 rfl (tg_99 (14 : Int32) (0 : Int32) (0 : Int32) _ b22.2) (im_runS (as := [.inl (14 : Int32), .inl (0 : Int32), .inl (0 : Int32), .inl _]) (rest := [.inr (some 0)]) dm_103_284 mf_99 (Nat.le_of_ble_eq_true rfl) ml_8_116 mi_99 mp_99 (Nat.le_of_ble_eq_true rfl)) rfl (fun b27 hb27 => ?_)
                refine im_callRV mf_100 rfl (tg_100 b27.1 b27.2) (im_runV (as := [.inl b27.1]) (rest := []) dm_103_287 mf_100 (Nat.le_of_ble_eq_true rfl) ml_8_112 mi_100 ms_100 mp_100 (Nat.le_of_ble_eq_true rfl) rfl rfl ⟨_, _, rfl⟩) rfl (fun b28 hb28 => ?_)
                refine x_goto 341 dm_103_290 rfl ?_
                exact x_vretR dm_103_341 rfl
              · refine x_iload_n dm_103_293 rfl ?_
                refine x_iconst (1) dm_103_294 (by decide) ?_
                refine x_icmp_ne 314 dm_103_295 rfl (fun c29 => ?_) (fun c29 => ?_)
                · refine x_aload_n dm_103_298 rfl ?_
                  refine x_iconst (1) dm_103_299 (by decide) ?_
                  refine x_iload dm_103_300 rfl ?_
                  refine x_iconst (0) dm_103_302 (by decide) ?_
                  refine x_iload dm_103_303 rfl ?_
                  refine im_callRI mf_99 rfl (tg_99 (1 : Int32) _ (0 : Int32) _ b22.2) (im_runS (as := [.inl (1 : Int32), .inl _, .inl (0 : Int32), .inl _]) (rest := [.inr (some 0)]) dm_103_305 mf_99 (Nat.le_of_ble_eq_true rfl) ml_8_116 mi_99 mp_99 (Nat.le_of_ble_eq_true rfl)) rfl (fun b30 hb30 => ?_)
                  refine im_callRV mf_100 rfl (tg_100 b30.1 b30.2) (im_runV (as := [.inl b30.1]) (rest := []) dm_103_308 mf_100 (Nat.le_of_ble_eq_true rfl) ml_8_112 mi_100 ms_100 mp_100 (Nat.le_of_ble_eq_true rfl) rfl rfl ⟨_, _, rfl⟩) rfl (fun b31 hb31 => ?_)
                  refine x_goto 341 dm_103_311 rfl ?_
                  exact x_vretR dm_103_341 rfl
                · refine x_aload_n dm_103_314 rfl ?_
                  refine x_iload_n dm_103_315 rfl ?_
                  refine x_iload dm_103_316 rfl ?_
                  refine x_iload dm_103_318 rfl ?_
                  refine x_iload_n dm_103_320 rfl ?_
                  refine x_iconst (3) dm_103_321 (by decide) ?_
                  refine x_iconst (5) dm_103_322 (by decide) ?_
                  refine im_callRI mf_92 rfl (tg_92 _ (3 : Int32) (5 : Int32) b22.2) (im_runS (as := [.inl _, .inl (3 : Int32), .inl (5 : Int32)]) (rest := [.inl _, .inl _, .inl _, .inr (some 0)]) dm_103_323 mf_92 (Nat.le_of_ble_eq_true rfl) ml_8_83 mi_92 mp_92 (Nat.le_of_ble_eq_true rfl)) rfl (fun b32 hb32 => ?_)
                  refine x_if_eq 333 dm_103_326 rfl (fun c33 => ?_) (fun c33 => ?_)
                  · refine x_iload dm_103_333 rfl ?_
                    exact im_lsub [] im_sb_n (tg_103_335 _ _ _ _ b32.2)
                  · refine x_iconst (0) dm_103_329 (by decide) ?_
                    refine x_goto 335 dm_103_330 rfl ?_
                    exact im_lsub [] im_sb_n (tg_103_335 (0 : Int32) _ _ _ b32.2)
          · refine x_aload_n dm_103_209 rfl ?_
            refine x_iload dm_103_210 rfl ?_
            refine im_callRI mf_101 rfl (tg_101 _ b22.2) (im_runV (as := [.inl _]) (rest := []) dm_103_212 mf_101 (Nat.le_of_ble_eq_true rfl) ml_8_120 mi_101 ms_101 mp_101 (Nat.le_of_ble_eq_true rfl) rfl rfl ⟨_, _, rfl⟩) rfl (fun b34 hb34 => ?_)
            refine x_aload_n dm_103_215 rfl ?_
            refine x_getI dm_103_216 fl_8_93 rfl rfl rfl ?_
            refine x_isub dm_103_219 ?_
            refine x_iconst (1) dm_103_220 (by decide) ?_
            refine x_isub dm_103_221 ?_
            refine x_istore dm_103_222 (Nat.le_of_ble_eq_true rfl) ?_
            refine x_aload_n dm_103_224 rfl ?_
            refine x_iload_n dm_103_225 rfl ?_
            refine x_bipush (12) dm_103_226 (by decide) ?_
            refine x_icmp_ne 243 dm_103_228 rfl (fun c36 => ?_) (fun c36 => ?_)
            · refine x_bipush (12) dm_103_231 (by decide) ?_
              refine x_iconst (0) dm_103_233 (by decide) ?_
              refine x_iconst (0) dm_103_234 (by decide) ?_
              refine x_iload dm_103_235 rfl ?_
              refine im_callRI mf_99 rfl (tg_99 (12 : Int32) (0 : Int32) (0 : Int32) _ b34.2) (im_runS (as := [.inl (12 : Int32), .inl (0 : Int32), .inl (0 : Int32), .inl _]) (rest := [.inr (some 0)]) dm_103_237 mf_99 (Nat.le_of_ble_eq_true rfl) ml_8_116 mi_99 mp_99 (Nat.le_of_ble_eq_true rfl)) rfl (fun b37 hb37 => ?_)
              refine x_goto 253 dm_103_240 rfl ?_
              exact im_lsub [] im_sb_n (tg_103_253 b37.1 b37.2)
            · refine x_iload_n dm_103_243 rfl ?_
              refine x_iload dm_103_244 rfl ?_
              refine x_iload dm_103_246 rfl ?_
              refine x_iload dm_103_248 rfl ?_
              refine im_callRI mf_99 rfl (tg_99 _ _ _ _ b34.2) (im_runS (as := [.inl _, .inl _, .inl _, .inl _]) (rest := [.inr (some 0)]) dm_103_250 mf_99 (Nat.le_of_ble_eq_true rfl) ml_8_116 mi_99 mp_99 (Nat.le_of_ble_eq_true rfl)) rfl (fun b38 hb38 => ?_)
              exact im_lsub [] im_sb_n (tg_103_253 b38.1 b38.2)
def gn_107_95 (M : im_M) : Option (Int32 × im_M) :=
  some ((1 : Int32), M)
set_option maxRecDepth 100000 in
set_option maxHeartbeats 4000000 in
theorem tg_107_95 (M : im_M) : im_Go zR_I 2 fm_107 95 [] [] (st_hR M) (gn_107_95 M) := by
  unfold gn_107_95
  refine x_iconst (1) dm_107_95 (by decide) ?_
  refine x_goto 100 dm_107_96 rfl ?_
  exact x_zretR dm_107_100 rfl (by decide)
def gn_107_60 (y1 : Int32) (y2 : Int32) (y3 : Int32) (s0 : Int32) (M : im_M) : Option (Int32 × im_M) :=
  (gn_106 y1 (7 : Int32) y2 y2 y3 M).bind fun b1 => if b1.1 = 0 then (if s0 = 0 then (some ((0 : Int32), b1.2)) else ((gn_106 (y1 + (1 : Int32)) (7 : Int32) y2 y2 y3 b1.2).bind fun b4 => if b4.1 = 0 then (some ((0 : Int32), b4.2)) else (gn_107_95 b4.2))) else (gn_107_95 b1.2)
set_option maxRecDepth 100000 in
set_option maxHeartbeats 4000000 in
theorem tg_107_60 (y1 : Int32) (y2 : Int32) (y3 : Int32) (s0 : Int32) (M : im_M) : im_Go zR_I 2 fm_107 60 [(0, .inr (some 0)), (1, .inl y1), (2, .inl y2), (3, .inl y3)] [.inl s0] (st_hR M) (gn_107_60 y1 y2 y3 s0 M) := by
  unfold gn_107_60
  refine x_istore dm_107_60 (Nat.le_of_ble_eq_true rfl) ?_
  refine x_aload_n dm_107_62 rfl ?_
  refine x_iload_n dm_107_63 rfl ?_
  refine x_bipush (7) dm_107_64 (by decide) ?_
  refine x_iload_n dm_107_66 rfl ?_
  refine x_iload_n dm_107_67 rfl ?_
  refine x_iload_n dm_107_68 rfl ?_
  refine im_callRI mf_106 rfl (tg_106 y1 (7 : Int32) y2 y2 y3 M) (im_runV (as := [.inl y1, .inl (7 : Int32), .inl y2, .inl y2, .inl y3]) (rest := []) dm_107_69 mf_106 (Nat.le_of_ble_eq_true rfl) ml_8_123 mi_106 ms_106 mp_106 (Nat.le_of_ble_eq_true rfl) rfl rfl ⟨_, _, rfl⟩) rfl (fun b1 hb1 => ?_)
  refine x_if_ne 95 dm_107_72 rfl (fun c2 => ?_) (fun c2 => ?_)
  · refine x_iload dm_107_75 rfl ?_
    refine x_if_eq 99 dm_107_77 rfl (fun c3 => ?_) (fun c3 => ?_)
    · refine x_iconst (0) dm_107_99 (by decide) ?_
      exact x_zretR dm_107_100 rfl (by decide)
    · refine x_aload_n dm_107_80 rfl ?_
      refine x_iload_n dm_107_81 rfl ?_
      refine x_iconst (1) dm_107_82 (by decide) ?_
      refine x_iadd dm_107_83 ?_
      refine x_bipush (7) dm_107_84 (by decide) ?_
      refine x_iload_n dm_107_86 rfl ?_
      refine x_iload_n dm_107_87 rfl ?_
      refine x_iload_n dm_107_88 rfl ?_
      refine im_callRI mf_106 rfl (tg_106 _ (7 : Int32) y2 y2 y3 b1.2) (im_runV (as := [.inl _, .inl (7 : Int32), .inl y2, .inl y2, .inl y3]) (rest := []) dm_107_89 mf_106 (Nat.le_of_ble_eq_true rfl) ml_8_123 mi_106 ms_106 mp_106 (Nat.le_of_ble_eq_true rfl) rfl rfl ⟨_, _, rfl⟩) rfl (fun b4 hb4 => ?_)
      refine x_if_eq 99 dm_107_92 rfl (fun c5 => ?_) (fun c5 => ?_)
      · refine x_iconst (0) dm_107_99 (by decide) ?_
        exact x_zretR dm_107_100 rfl (by decide)
      · exact im_lsub [] im_sb_n (tg_107_95 b4.2)
  · exact im_lsub [] im_sb_n (tg_107_95 b1.2)
def gn_107_59 (y1 : Int32) (y2 : Int32) (y3 : Int32) (M : im_M) : Option (Int32 × im_M) :=
  gn_107_60 y1 y2 y3 (0 : Int32) M
set_option maxRecDepth 100000 in
set_option maxHeartbeats 4000000 in
theorem tg_107_59 (y1 : Int32) (y2 : Int32) (y3 : Int32) (M : im_M) : im_Go zR_I 2 fm_107 59 [(0, .inr (some 0)), (1, .inl y1), (2, .inl y2), (3, .inl y3)] [] (st_hR M) (gn_107_59 y1 y2 y3 M) := by
  unfold gn_107_59
  refine x_iconst (0) dm_107_59 (by decide) ?_
  exact im_lsub [(0, .inr (some 0)), (1, .inl y1), (2, .inl y2), (3, .inl y3)] (im_sb_c rfl (im_sb_c rfl (im_sb_c rfl (im_sb_c rfl im_sb_n)))) (tg_107_60 y1 y2 y3 (0 : Int32) M)
/-- FencedModulesModel.keeps(IIII)Z -/
def gn_107 (x1 : Int32) (x2 : Int32) (x3 : Int32) (x4 : Int32) (M : im_M) : Option (Int32 × im_M) :=
  if st_ib x1 31 then (let v2 : Int32 := (M 21 (x1).toNatClampNeg); (gn_92 (v2 &&& (15 : Int32)) (1 : Int32) (8 : Int32) M).bind fun b3 => if b3.1 = 0 then (some ((1 : Int32), b3.2)) else (if ((v2 >>> ((4 : Int32) &&& 31)) &&& (7 : Int32)) = x2 then (if (v2 &&& (15 : Int32)) = (6 : Int32) then (if (v2 >>> ((10 : Int32) &&& 31)) = x4 then (gn_107_60 x1 x2 x3 (1 : Int32) b3.2) else (gn_107_59 x1 x2 x3 b3.2)) else (gn_107_59 x1 x2 x3 b3.2)) else (some ((1 : Int32), b3.2)))) else none
set_option maxRecDepth 100000 in
set_option maxHeartbeats 4000000 in
theorem tg_107 (x1 : Int32) (x2 : Int32) (x3 : Int32) (x4 : Int32) (M : im_M) : im_Go zR_I 2 fm_107 0 (im_en 0 [.inr (some 0), .inl x1, .inl x2, .inl x3, .inl x4]) [] (st_hR M) (gn_107 x1 x2 x3 x4 M) := by
  unfold gn_107
  refine x_aload_n dm_107_0 rfl ?_
  refine x_getRC dm_107_1 fl_8_71 rfl rfl rfl rfl ?_
  refine x_iload_n dm_107_4 rfl ?_
  refine im_chk _ (fun hi1 => ?_)
  refine x_ialoadX _ rfl dm_107_5 rfl (mk_in rfl hi1) ?_
  refine x_istore dm_107_6 (Nat.le_of_ble_eq_true rfl) ?_
  refine x_iload dm_107_8 rfl ?_
  refine x_bipush (15) dm_107_10 (by decide) ?_
  refine x_iand dm_107_12 ?_
  refine x_iconst (1) dm_107_13 (by decide) ?_
  refine x_bipush (8) dm_107_14 (by decide) ?_
  refine im_callRI mf_92 rfl (tg_92 _ (1 : Int32) (8 : Int32) M) (im_runS (as := [.inl _, .inl (1 : Int32), .inl (8 : Int32)]) (rest := []) dm_107_16 mf_92 (Nat.le_of_ble_eq_true rfl) ml_8_83 mi_92 mp_92 (Nat.le_of_ble_eq_true rfl)) rfl (fun b3 hb3 => ?_)
  refine x_if_eq 33 dm_107_19 rfl (fun c4 => ?_) (fun c4 => ?_)
  · refine x_iconst (1) dm_107_33 (by decide) ?_
    exact x_zretR dm_107_34 rfl (by decide)
  · refine x_iload dm_107_22 rfl ?_
    refine x_iconst (4) dm_107_24 (by decide) ?_
    refine x_ishr dm_107_25 ?_
    refine x_bipush (7) dm_107_26 (by decide) ?_
    refine x_iand dm_107_28 ?_
    refine x_iload_n dm_107_29 rfl ?_
    refine x_icmp_eq 35 dm_107_30 rfl (fun c5 => ?_) (fun c5 => ?_)
    · refine x_iload dm_107_35 rfl ?_
      refine x_bipush (15) dm_107_37 (by decide) ?_
      refine x_iand dm_107_39 ?_
      refine x_bipush (6) dm_107_40 (by decide) ?_
      refine x_icmp_ne 59 dm_107_42 rfl (fun c6 => ?_) (fun c6 => ?_)
      · refine x_iload dm_107_45 rfl ?_
        refine x_bipush (10) dm_107_47 (by decide) ?_
        refine x_ishr dm_107_49 ?_
        refine x_iload dm_107_50 rfl ?_
        refine x_icmp_ne 59 dm_107_52 rfl (fun c7 => ?_) (fun c7 => ?_)
        · refine x_iconst (1) dm_107_55 (by decide) ?_
          refine x_goto 60 dm_107_56 rfl ?_
          exact im_lsub [(0, .inr (some 0)), (1, .inl x1), (2, .inl x2), (3, .inl x3)] (im_sb_c rfl (im_sb_c rfl (im_sb_c rfl (im_sb_c rfl im_sb_n)))) (tg_107_60 x1 x2 x3 (1 : Int32) b3.2)
        · exact im_lsub [(0, .inr (some 0)), (1, .inl x1), (2, .inl x2), (3, .inl x3)] (im_sb_c rfl (im_sb_c rfl (im_sb_c rfl (im_sb_c rfl im_sb_n)))) (tg_107_59 x1 x2 x3 b3.2)
      · exact im_lsub [(0, .inr (some 0)), (1, .inl x1), (2, .inl x2), (3, .inl x3)] (im_sb_c rfl (im_sb_c rfl (im_sb_c rfl (im_sb_c rfl im_sb_n)))) (tg_107_59 x1 x2 x3 b3.2)
    · refine x_iconst (1) dm_107_33 (by decide) ?_
      exact x_zretR dm_107_34 rfl (by decide)
