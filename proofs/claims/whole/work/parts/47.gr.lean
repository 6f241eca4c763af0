/-- FencedModulesModel.in(III)Z -/
def gn_92 (x0 : Int32) (x1 : Int32) (x2 : Int32) (M : im_M) : Option (Int32 × im_M) :=
  if x0 < x1 then (some ((0 : Int32), M)) else (if x2 < x0 then (some ((0 : Int32), M)) else (some ((1 : Int32), M)))
set_option maxRecDepth 100000 in
set_option maxHeartbeats 4000000 in
theorem tg_92 (x0 : Int32) (x1 : Int32) (x2 : Int32) (M : im_M) : im_Go zR_I 0 fm_92 0 (im_en 0 [.inl x0, .inl x1, .inl x2]) [] (st_hR M) (gn_92 x0 x1 x2 M) := by
  unfold gn_92
  refine x_iload_n dm_92_0 rfl ?_
  refine x_iload_n dm_92_1 rfl ?_
  refine x_icmp_lt 14 dm_92_2 rfl (fun c1 => ?_) (fun c1 => ?_)
  · refine x_iconst (0) dm_92_14 (by decide) ?_
    exact x_zretR dm_92_15 rfl (by decide)
  · refine x_iload_n dm_92_5 rfl ?_
    refine x_iload_n dm_92_6 rfl ?_
    refine x_icmp_gt 14 dm_92_7 rfl (fun c2 => ?_) (fun c2 => ?_)
    · refine x_iconst (0) dm_92_14 (by decide) ?_
      exact x_zretR dm_92_15 rfl (by decide)
    · refine x_iconst (1) dm_92_10 (by decide) ?_
      refine x_goto 15 dm_92_11 rfl ?_
      exact x_zretR dm_92_15 rfl (by decide)
def gn_95_12  : Nat → Int32 → im_M → Option (im_M)
  | 0, _, _ => none
  | n + 1, y1, M =>
    if (8 : Int32) ≤ y1 then (some M) else (if st_ib y1 8 then (let M3 : im_M := im_u M 19 (y1).toNatClampNeg ((0 : Int32) &&& 1); let v4 : Int32 := (y1 + (1 : Int32)); gn_95_12 n v4 M3) else none)
set_option maxRecDepth 100000 in
set_option maxHeartbeats 4000000 in
theorem tg_95_12  : ∀ (n : Nat) (y1 : Int32) (M : im_M), im_Go zR_V 0 fm_95 12 [(0, .inr (some 0)), (1, .inl y1)] [] (st_hR M) (gn_95_12  n y1 M)
  | 0, y1, M => im_none
  | n + 1, y1, M => by
    have ih := tg_95_12  n
    unfold gn_95_12
    refine x_iload_n dm_95_12 rfl ?_
    refine x_bipush (8) dm_95_13 (by decide) ?_
    refine x_icmp_ge 31 dm_95_15 rfl (fun c1 => ?_) (fun c1 => ?_)
    · exact x_vretR dm_95_31 rfl
    · refine x_aload_n dm_95_18 rfl ?_
      refine x_getRC dm_95_19 fl_8_64 rfl rfl rfl rfl ?_
      refine x_iload_n dm_95_22 rfl ?_
      refine x_iconst (0) dm_95_23 (by decide) ?_
      refine im_chk _ (fun hi2 => ?_)
      refine x_bastoreR _ rfl dm_95_24 rfl (mk_in rfl hi2) ?_
      refine x_iinc (1) dm_95_25 rfl (by decide) (Nat.le_of_ble_eq_true rfl) ?_
      refine x_goto 12 dm_95_28 rfl ?_
      exact im_lsub [(0, .inr (some 0)), (1, .inl _)] (im_sb_c rfl (im_sb_c rfl im_sb_n)) (ih _ _)
/-- FencedModulesModel.clear()V -/
def gn_95 (M : im_M) : Option (im_M) :=
  let M1 : im_M := im_u M 0 16 (0 : Int32); let M2 : im_M := im_u M1 0 23 (0 : Int32); gn_95_12 1000 (0 : Int32) M2
set_option maxRecDepth 100000 in
set_option maxHeartbeats 4000000 in
theorem tg_95 (M : im_M) : im_Go zR_V 0 fm_95 0 (im_en 0 [.inr (some 0)]) [] (st_hR M) (gn_95 M) := by
  unfold gn_95
  refine x_aload_n dm_95_0 rfl ?_
  refine x_iconst (0) dm_95_1 (by decide) ?_
  refine x_putIR dm_95_2 fl_8_89 rfl rfl rfl ?_
  refine x_aload_n dm_95_5 rfl ?_
  refine x_iconst (0) dm_95_6 (by decide) ?_
  refine x_putIR dm_95_7 fl_8_93 rfl rfl rfl ?_
  refine x_iconst (0) dm_95_10 (by decide) ?_
  refine x_istore_n dm_95_11 (Nat.le_of_ble_eq_true rfl) ?_
  exact im_lsub [(0, .inr (some 0)), (1, .inl (0 : Int32))] (im_sb_c rfl (im_sb_c rfl im_sb_n)) (tg_95_12 1000 (0 : Int32) _)
def gn_96_52 (r4 : Int32 → Int32 → Int32 → im_M → Option (Int32 × im_M)) (y1 : Int32) (y3 : Int32) (s0 : Int32) (s1 : Int32) (M : im_M) : Option (Int32 × im_M) :=
  let v1 : Int32 := (s1 + s0); let v2 : Int32 := (y3 + (1 : Int32)); r4 y1 v1 v2 M
set_option maxRecDepth 100000 in
set_option maxHeartbeats 4000000 in
theorem tg_96_52 (r4 : Int32 → Int32 → Int32 → im_M → Option (Int32 × im_M)) (hr4 : ∀ (y1 : Int32) (y2 : Int32) (y3 : Int32) (M : im_M), im_Go zR_I 0 fm_96 4 [(0, .inr (some 0)), (1, .inl y1), (2, .inl y2), (3, .inl y3)] [] (st_hR M) (r4 y1 y2 y3 M)) (y1 : Int32) (y3 : Int32) (s0 : Int32) (s1 : Int32) (M : im_M) : im_Go zR_I 0 fm_96 52 [(0, .inr (some 0)), (1, .inl y1), (3, .inl y3)] [.inl s0, .inl s1] (st_hR M) (gn_96_52 r4 y1 y3 s0 s1 M) := by
  unfold gn_96_52
  refine x_iadd dm_96_52 ?_
  refine x_istore_n dm_96_53 (Nat.le_of_ble_eq_true rfl) ?_
  refine x_iinc (1) dm_96_54 rfl (by decide) (Nat.le_of_ble_eq_true rfl) ?_
  refine x_goto 4 dm_96_57 rfl ?_
  exact im_lsub [(0, .inr (some 0)), (1, .inl y1), (2, .inl _), (3, .inl _)] (im_sb_c rfl (im_sb_c rfl (im_sb_c rfl (im_sb_c rfl im_sb_n)))) (hr4 y1 _ _ M)
def gn_96_32 (r4 : Int32 → Int32 → Int32 → im_M → Option (Int32 × im_M)) (y1 : Int32) (y3 : Int32) (s0 : Int32) (M : im_M) : Option (Int32 × im_M) :=
  gn_96_52 r4 y1 y3 (4 : Int32) s0 M
set_option maxRecDepth 100000 in
set_option maxHeartbeats 4000000 in
theorem tg_96_32 (r4 : Int32 → Int32 → Int32 → im_M → Option (Int32 × im_M)) (hr4 : ∀ (y1 : Int32) (y2 : Int32) (y3 : Int32) (M : im_M), im_Go zR_I 0 fm_96 4 [(0, .inr (some 0)), (1, .inl y1), (2, .inl y2), (3, .inl y3)] [] (st_hR M) (r4 y1 y2 y3 M)) (y1 : Int32) (y3 : Int32) (s0 : Int32) (M : im_M) : im_Go zR_I 0 fm_96 32 [(0, .inr (some 0)), (1, .inl y1), (3, .inl y3)] [.inl s0] (st_hR M) (gn_96_32 r4 y1 y3 s0 M) := by
  unfold gn_96_32
  refine x_iconst (4) dm_96_32 (by decide) ?_
  refine x_goto 52 dm_96_33 rfl ?_
  exact im_lsub [(0, .inr (some 0)), (1, .inl y1), (3, .inl y3)] (im_sb_c rfl (im_sb_c rfl (im_sb_c rfl im_sb_n))) (tg_96_52 r4 hr4 y1 y3 (4 : Int32) s0 M)
def gn_96_4  : Nat → Int32 → Int32 → Int32 → im_M → Option (Int32 × im_M)
  | 0, _, _, _, _ => none
  | n + 1, y1, y2, y3, M =>
    if y1 ≤ y3 then (some (y2, M)) else (if st_ib y3 24 then (if (M 15 (y3).toNatClampNeg) = (8 : Int32) then (gn_96_32 (gn_96_4 n) y1 y3 y2 M) else (if (M 15 (y3).toNatClampNeg) = (9 : Int32) then (gn_96_32 (gn_96_4 n) y1 y3 y2 M) else (if (M 15 (y3).toNatClampNeg) = (13 : Int32) then (gn_96_52 (gn_96_4 n) y1 y3 (3 : Int32) y2 M) else (gn_96_52 (gn_96_4 n) y1 y3 (1 : Int32) y2 M)))) else none)
set_option maxRecDepth 100000 in
set_option maxHeartbeats 4000000 in
theorem tg_96_4  : ∀ (n : Nat) (y1 : Int32) (y2 : Int32) (y3 : Int32) (M : im_M), im_Go zR_I 0 fm_96 4 [(0, .inr (some 0)), (1, .inl y1), (2, .inl y2), (3, .inl y3)] [] (st_hR M) (gn_96_4  n y1 y2 y3 M)
  | 0, y1, y2, y3, M => im_none
  | n + 1, y1, y2, y3, M => by
    have ih := tg_96_4  n
    unfold gn_96_4
    refine x_iload_n dm_96_4 rfl ?_
    refine x_iload_n dm_96_5 rfl ?_
    refine x_icmp_ge 60 dm_96_6 rfl (fun c1 => ?_) (fun c1 => ?_)
    · refine x_iload_n dm_96_60 rfl ?_
      exact x_iretR dm_96_61 rfl
    · refine x_iload_n dm_96_9 rfl ?_
      refine x_aload_n dm_96_10 rfl ?_
      refine x_getRC dm_96_11 fl_8_52 rfl rfl rfl rfl ?_
      refine x_iload_n dm_96_14 rfl ?_
      refine im_chk _ (fun hi2 => ?_)
      refine x_ialoadX _ rfl dm_96_15 rfl (mk_in rfl hi2) ?_
      refine x_bipush (8) dm_96_16 (by decide) ?_
      refine x_icmp_eq 32 dm_96_18 rfl (fun c3 => ?_) (fun c3 => ?_)
      · exact im_lsub [(0, .inr (some 0)), (1, .inl y1), (3, .inl y3)] (im_sb_c rfl (im_sb_c rfl (im_sb_c rfl im_sb_n))) (tg_96_32 (gn_96_4 n) ih y1 y3 y2 M)
      · refine x_aload_n dm_96_21 rfl ?_
        refine x_getRC dm_96_22 fl_8_52 rfl rfl rfl rfl ?_
        refine x_iload_n dm_96_25 rfl ?_
        refine x_ialoadX _ rfl dm_96_26 rfl (mk_in rfl hi2) ?_
        refine x_bipush (9) dm_96_27 (by decide) ?_
        refine x_icmp_ne 36 dm_96_29 rfl (fun c4 => ?_) (fun c4 => ?_)
        · exact im_lsub [(0, .inr (some 0)), (1, .inl y1), (3, .inl y3)] (im_sb_c rfl (im_sb_c rfl (im_sb_c rfl im_sb_n))) (tg_96_32 (gn_96_4 n) ih y1 y3 y2 M)
        · refine x_aload_n dm_96_36 rfl ?_
          refine x_getRC dm_96_37 fl_8_52 rfl rfl rfl rfl ?_
          refine x_iload_n dm_96_40 rfl ?_
          refine x_ialoadX _ rfl dm_96_41 rfl (mk_in rfl hi2) ?_
          refine x_bipush (13) dm_96_42 (by decide) ?_
          refine x_icmp_ne 51 dm_96_44 rfl (fun c5 => ?_) (fun c5 => ?_)
          · refine x_iconst (3) dm_96_47 (by decide) ?_
            refine x_goto 52 dm_96_48 rfl ?_
            exact im_lsub [(0, .inr (some 0)), (1, .inl y1), (3, .inl y3)] (im_sb_c rfl (im_sb_c rfl (im_sb_c rfl im_sb_n))) (tg_96_52 (gn_96_4 n) ih y1 y3 (3 : Int32) y2 M)
          · refine x_iconst (1) dm_96_51 (by decide) ?_
            exact im_lsub [(0, .inr (some 0)), (1, .inl y1), (3, .inl y3)] (im_sb_c rfl (im_sb_c rfl (im_sb_c rfl im_sb_n))) (tg_96_52 (gn_96_4 n) ih y1 y3 (1 : Int32) y2 M)
/-- FencedModulesModel.first(I)I -/
def gn_96 (x1 : Int32) (M : im_M) : Option (Int32 × im_M) :=
  gn_96_4 1000 x1 (0 : Int32) (0 : Int32) M
set_option maxRecDepth 100000 in
set_option maxHeartbeats 4000000 in
theorem tg_96 (x1 : Int32) (M : im_M) : im_Go zR_I 0 fm_96 0 (im_en 0 [.inr (some 0), .inl x1]) [] (st_hR M) (gn_96 x1 M) := by
  unfold gn_96
  refine x_iconst (0) dm_96_0 (by decide) ?_
  refine x_istore_n dm_96_1 (Nat.le_of_ble_eq_true rfl) ?_
  refine x_iconst (0) dm_96_2 (by decide) ?_
  refine x_istore_n dm_96_3 (Nat.le_of_ble_eq_true rfl) ?_
  exact im_lsub [(0, .inr (some 0)), (1, .inl x1), (2, .inl (0 : Int32)), (3, .inl (0 : Int32))] (im_sb_c rfl (im_sb_c rfl (im_sb_c rfl (im_sb_c rfl im_sb_n)))) (tg_96_4 1000 x1 (0 : Int32) (0 : Int32) M)
/-- FencedModulesModel.code(IIII)I -/
def gn_99 (x0 : Int32) (x1 : Int32) (x2 : Int32) (x3 : Int32) (M : im_M) : Option (Int32 × im_M) :=
  some ((((x0 ||| (x1 <<< ((4 : Int32) &&& 31))) ||| (x2 <<< ((7 : Int32) &&& 31))) ||| (x3 <<< ((10 : Int32) &&& 31))), M)
set_option maxRecDepth 100000 in
set_option maxHeartbeats 4000000 in
theorem tg_99 (x0 : Int32) (x1 : Int32) (x2 : Int32) (x3 : Int32) (M : im_M) : im_Go zR_I 0 fm_99 0 (im_en 0 [.inl x0, .inl x1, .inl x2, .inl x3]) [] (st_hR M) (gn_99 x0 x1 x2 x3 M) := by
  unfold gn_99
  refine x_iload_n dm_99_0 rfl ?_
  refine x_iload_n dm_99_1 rfl ?_
  refine x_iconst (4) dm_99_2 (by decide) ?_
  refine x_ishl dm_99_3 ?_
  refine x_ior dm_99_4 ?_
  refine x_iload_n dm_99_5 rfl ?_
  refine x_bipush (7) dm_99_6 (by decide) ?_
  refine x_ishl dm_99_8 ?_
  refine x_ior dm_99_9 ?_
  refine x_iload_n dm_99_10 rfl ?_
  refine x_bipush (10) dm_99_11 (by decide) ?_
  refine x_ishl dm_99_13 ?_
  refine x_ior dm_99_14 ?_
  exact x_iretR dm_99_15 rfl
/-- FencedModulesModel.add(I)V -/
def gn_100 (x1 : Int32) (M : im_M) : Option (im_M) :=
  if st_ib (M 0 23) 31 then (let M2 : im_M := im_u M 21 ((M 0 23)).toNatClampNeg x1; let M3 : im_M := im_u M2 0 23 ((M2 0 23) + (1 : Int32)); some M3) else none
set_option maxRecDepth 100000 in
set_option maxHeartbeats 4000000 in
theorem tg_100 (x1 : Int32) (M : im_M) : im_Go zR_V 0 fm_100 0 (im_en 0 [.inr (some 0), .inl x1]) [] (st_hR M) (gn_100 x1 M) := by
  unfold gn_100
  refine x_aload_n dm_100_0 rfl ?_
  refine x_getRC dm_100_1 fl_8_71 rfl rfl rfl rfl ?_
  refine x_aload_n dm_100_4 rfl ?_
  refine x_getI dm_100_5 fl_8_93 rfl rfl rfl ?_
  refine x_iload_n dm_100_8 rfl ?_
  refine im_chk _ (fun hi1 => ?_)
  refine x_iastoreR _ rfl dm_100_9 rfl (mk_in rfl hi1) ?_
  refine x_aload_n dm_100_10 rfl ?_
  refine x_dup dm_100_11 ?_
  refine x_getI dm_100_12 fl_8_93 rfl rfl rfl ?_
  refine x_iconst (1) dm_100_15 (by decide) ?_
  refine x_iadd dm_100_16 ?_
  refine x_putIR dm_100_17 fl_8_93 rfl rfl rfl ?_
  exact x_vretR dm_100_20 rfl
/-- FencedModulesModel.put(II)V -/
def gn_112 (x1 : Int32) (x2 : Int32) (M : im_M) : Option (im_M) :=
  if st_ib x1 3 then (if st_ib (((8 : Int32) * x1) + ((M 12 (x1).toNatClampNeg) &&& (7 : Int32))) 24 then (let M3 : im_M := im_u M 11 ((((8 : Int32) * x1) + ((M 12 (x1).toNatClampNeg) &&& (7 : Int32)))).toNatClampNeg x2; let M4 : im_M := im_u M3 12 (x1).toNatClampNeg ((M3 12 (x1).toNatClampNeg) + (1 : Int32)); some M4) else none) else none
set_option maxRecDepth 100000 in
set_option maxHeartbeats 4000000 in
theorem tg_112 (x1 : Int32) (x2 : Int32) (M : im_M) : im_Go zR_V 0 fm_112 0 (im_en 0 [.inr (some 0), .inl x1, .inl x2]) [] (st_hR M) (gn_112 x1 x2 M) := by
  unfold gn_112
  refine x_aload_n dm_112_0 rfl ?_
  refine x_getRC dm_112_1 fl_8_40 rfl rfl rfl rfl ?_
  refine x_bipush (8) dm_112_4 (by decide) ?_
  refine x_iload_n dm_112_6 rfl ?_
  refine x_imul dm_112_7 ?_
  refine x_aload_n dm_112_8 rfl ?_
  refine x_getRC dm_112_9 fl_8_43 rfl rfl rfl rfl ?_
  refine x_iload_n dm_112_12 rfl ?_
  refine im_chk _ (fun hi1 => ?_)
  refine x_ialoadX _ rfl dm_112_13 rfl (mk_in rfl hi1) ?_
  refine x_bipush (7) dm_112_14 (by decide) ?_
  refine x_iand dm_112_16 ?_
  refine x_iadd dm_112_17 ?_
  refine x_iload_n dm_112_18 rfl ?_
  refine im_chk _ (fun hi2 => ?_)
  refine x_iastoreR _ rfl dm_112_19 rfl (mk_in rfl hi2) ?_
  refine x_aload_n dm_112_20 rfl ?_
  refine x_getRC dm_112_21 fl_8_43 rfl rfl rfl rfl ?_
  refine x_iload_n dm_112_24 rfl ?_
  refine x_dup2 dm_112_25 ?_
  refine x_ialoadX _ rfl dm_112_26 rfl (mk_in rfl hi1) ?_
  refine x_iconst (1) dm_112_27 (by decide) ?_
  refine x_iadd dm_112_28 ?_
  refine x_iastoreR _ rfl dm_112_29 rfl (mk_in rfl hi1) ?_
  exact x_vretR dm_112_30 rfl
def gn_113_55 (y1 : Int32) (M : im_M) : Option (im_M) :=
  if st_ib y1 3 then (let M2 : im_M := im_u M 13 (y1).toNatClampNeg ((M 13 (y1).toNatClampNeg) + (1 : Int32)); some M2) else none
set_option maxRecDepth 100000 in
set_option maxHeartbeats 4000000 in
theorem tg_113_55 (y1 : Int32) (M : im_M) : im_Go zR_V 0 fm_113 55 [(0, .inr (some 0)), (1, .inl y1)] [] (st_hR M) (gn_113_55 y1 M) := by
  unfold gn_113_55
  refine x_aload_n dm_113_55 rfl ?_
  refine x_getRC dm_113_56 fl_8_46 rfl rfl rfl rfl ?_
  refine x_iload_n dm_113_59 rfl ?_
  refine x_dup2 dm_113_60 ?_
  refine im_chk _ (fun hi1 => ?_)
  refine x_ialoadX _ rfl dm_113_61 rfl (mk_in rfl hi1) ?_
  refine x_iconst (1) dm_113_62 (by decide) ?_
  refine x_iadd dm_113_63 ?_
  refine x_iastoreR _ rfl dm_113_64 rfl (mk_in rfl hi1) ?_
  exact x_vretR dm_113_65 rfl
/-- FencedModulesModel.note(IIII)V -/
def gn_113 (x1 : Int32) (x2 : Int32) (x3 : Int32) (x4 : Int32) (M : im_M) : Option (im_M) :=
  if st_ib x1 3 then (if (16 : Int32) ≤ (M 13 (x1).toNatClampNeg) then (gn_113_55 x1 M) else (let v3 : Int32 := (((48 : Int32) * x1) + ((3 : Int32) * (M 13 (x1).toNatClampNeg))); if st_ib v3 144 then (let M5 : im_M := im_u M 14 (v3).toNatClampNeg x2; if st_ib (v3 + (1 : Int32)) 144 then (let M7 : im_M := im_u M5 14 ((v3 + (1 : Int32))).toNatClampNeg x3; if st_ib (v3 + (2 : Int32)) 144 then (let M9 : im_M := im_u M7 14 ((v3 + (2 : Int32))).toNatClampNeg x4; gn_113_55 x1 M9) else none) else none) else none)) else none
set_option maxRecDepth 100000 in
set_option maxHeartbeats 4000000 in
theorem tg_113 (x1 : Int32) (x2 : Int32) (x3 : Int32) (x4 : Int32) (M : im_M) : im_Go zR_V 0 fm_113 0 (im_en 0 [.inr (some 0), .inl x1, .inl x2, .inl x3, .inl x4]) [] (st_hR M) (gn_113 x1 x2 x3 x4 M) := by
  unfold gn_113
  refine x_aload_n dm_113_0 rfl ?_
  refine x_getRC dm_113_1 fl_8_46 rfl rfl rfl rfl ?_
  refine x_iload_n dm_113_4 rfl ?_
  refine im_chk _ (fun hi1 => ?_)
  refine x_ialoadX _ rfl dm_113_5 rfl (mk_in rfl hi1) ?_
  refine x_bipush (16) dm_113_6 (by decide) ?_
  refine x_icmp_ge 55 dm_113_8 rfl (fun c2 => ?_) (fun c2 => ?_)
  · exact im_lsub [(0, .inr (some 0)), (1, .inl x1)] (im_sb_c rfl (im_sb_c rfl im_sb_n)) (tg_113_55 x1 M)
  · refine x_bipush (48) dm_113_11 (by decide) ?_
    refine x_iload_n dm_113_13 rfl ?_
    refine x_imul dm_113_14 ?_
    refine x_iconst (3) dm_113_15 (by decide) ?_
    refine x_aload_n dm_113_16 rfl ?_
    refine x_getRC dm_113_17 fl_8_46 rfl rfl rfl rfl ?_
    refine x_iload_n dm_113_20 rfl ?_
    refine x_ialoadX _ rfl dm_113_21 rfl (mk_in rfl hi1) ?_
    refine x_imul dm_113_22 ?_
    refine x_iadd dm_113_23 ?_
    refine x_istore dm_113_24 (Nat.le_of_ble_eq_true rfl) ?_
    refine x_aload_n dm_113_26 rfl ?_
    refine x_getRC dm_113_27 fl_8_49 rfl rfl rfl rfl ?_
    refine x_iload dm_113_30 rfl ?_
    refine x_iload_n dm_113_32 rfl ?_
    refine im_chk _ (fun hi4 => ?_)
    refine x_iastoreR _ rfl dm_113_33 rfl (mk_in rfl hi4) ?_
    refine x_aload_n dm_113_34 rfl ?_
    refine x_getRC dm_113_35 fl_8_49 rfl rfl rfl rfl ?_
    refine x_iload dm_113_38 rfl ?_
    refine x_iconst (1) dm_113_40 (by decide) ?_
    refine x_iadd dm_113_41 ?_
    refine x_iload_n dm_113_42 rfl ?_
    refine im_chk _ (fun hi6 => ?_)
    refine x_iastoreR _ rfl dm_113_43 rfl (mk_in rfl hi6) ?_
    refine x_aload_n dm_113_44 rfl ?_
    refine x_getRC dm_113_45 fl_8_49 rfl rfl rfl rfl ?_
    refine x_iload dm_113_48 rfl ?_
    refine x_iconst (2) dm_113_50 (by decide) ?_
    refine x_iadd dm_113_51 ?_
    refine x_iload dm_113_52 rfl ?_
    refine im_chk _ (fun hi8 => ?_)
    refine x_iastoreR _ rfl dm_113_54 rfl (mk_in rfl hi8) ?_
    exact im_lsub [(0, .inr (some 0)), (1, .inl x1)] (im_sb_c rfl (im_sb_c rfl im_sb_n)) (tg_113_55 x1 _)
def gn_117_25 (M : im_M) : Option (Int32 × im_M) :=
  some ((1 : Int32), M)
set_option maxRecDepth 100000 in
set_option maxHeartbeats 4000000 in
theorem tg_117_25 (M : im_M) : im_Go zR_I 0 fm_117 25 [] [] (st_hR M) (gn_117_25 M) := by
  unfold gn_117_25
  refine x_iconst (1) dm_117_25 (by decide) ?_
  refine x_goto 30 dm_117_26 rfl ?_
  exact x_zretR dm_117_30 rfl (by decide)
/-- FencedModulesModel.goes(III)Z -/
def gn_117 (x0 : Int32) (x1 : Int32) (x2 : Int32) (M : im_M) : Option (Int32 × im_M) :=
  if x0 = (12 : Int32) then (gn_117_25 M) else (if x0 = (10 : Int32) then (if x1 = x2 then (gn_117_25 M) else (some ((0 : Int32), M))) else (if x2 ≤ x1 then (some ((0 : Int32), M)) else (gn_117_25 M)))
set_option maxRecDepth 100000 in
set_option maxHeartbeats 4000000 in
theorem tg_117 (x0 : Int32) (x1 : Int32) (x2 : Int32) (M : im_M) : im_Go zR_I 0 fm_117 0 (im_en 0 [.inl x0, .inl x1, .inl x2]) [] (st_hR M) (gn_117 x0 x1 x2 M) := by
  unfold gn_117
  refine x_iload_n dm_117_0 rfl ?_
  refine x_bipush (12) dm_117_1 (by decide) ?_
  refine x_icmp_eq 25 dm_117_3 rfl (fun c1 => ?_) (fun c1 => ?_)
  · exact im_lsub [] im_sb_n (tg_117_25 M)
  · refine x_iload_n dm_117_6 rfl ?_
    refine x_bipush (10) dm_117_7 (by decide) ?_
    refine x_icmp_ne 20 dm_117_9 rfl (fun c2 => ?_) (fun c2 => ?_)
    · refine x_iload_n dm_117_12 rfl ?_
      refine x_iload_n dm_117_13 rfl ?_
      refine x_icmp_ne 29 dm_117_14 rfl (fun c3 => ?_) (fun c3 => ?_)
      · refine x_goto 25 dm_117_17 rfl ?_
        exact im_lsub [] im_sb_n (tg_117_25 M)
      · refine x_iconst (0) dm_117_29 (by decide) ?_
        exact x_zretR dm_117_30 rfl (by decide)
    · refine x_iload_n dm_117_20 rfl ?_
      refine x_iload_n dm_117_21 rfl ?_
      refine x_icmp_ge 29 dm_117_22 rfl (fun c4 => ?_) (fun c4 => ?_)
      · refine x_iconst (0) dm_117_29 (by decide) ?_
        exact x_zretR dm_117_30 rfl (by decide)
      · exact im_lsub [] im_sb_n (tg_117_25 M)
/-- FencedModulesModel.value(IIII)I -/
def gn_118 (x0 : Int32) (x1 : Int32) (x2 : Int32) (x3 : Int32) (M : im_M) : Option (Int32 × im_M) :=
  if x0 = 1 then (some (x3, M)) else (if x0 = 2 then (some ((x2 + x3), M)) else (if x0 = 3 then (some ((x1 + x2), M)) else (if x0 = 4 then (some ((x1 - x2), M)) else (if x0 = 5 then (some ((x1 ^^^ x2), M)) else (if x0 = 6 then (some ((x2 &&& x3), M)) else (some ((x2 ||| x3), M)))))))
set_option maxRecDepth 100000 in
set_option maxHeartbeats 4000000 in
theorem tg_118 (x0 : Int32) (x1 : Int32) (x2 : Int32) (x3 : Int32) (M : im_M) : im_Go zR_I 0 fm_118 0 (im_en 0 [.inl x0, .inl x1, .inl x2, .inl x3]) [] (st_hR M) (gn_118 x0 x1 x2 x3 M) := by
  unfold gn_118
  refine x_iload_n dm_118_0 rfl ?_
  refine im_test _ (fun c1 => ?_) (fun c1 => ?_)
  · refine x_tabIn 1 40 dm_118_1 c1 (by decide) (by decide) rfl rfl ?_
    refine x_iload_n dm_118_40 rfl ?_
    exact x_iretR dm_118_41 rfl
  refine im_test _ (fun c2 => ?_) (fun c2 => ?_)
  · refine x_tabIn 2 42 dm_118_1 c2 (by decide) (by decide) rfl rfl ?_
    refine x_iload_n dm_118_42 rfl ?_
    refine x_iload_n dm_118_43 rfl ?_
    refine x_iadd dm_118_44 ?_
    exact x_iretR dm_118_45 rfl
  refine im_test _ (fun c3 => ?_) (fun c3 => ?_)
  · refine x_tabIn 3 46 dm_118_1 c3 (by decide) (by decide) rfl rfl ?_
    refine x_iload_n dm_118_46 rfl ?_
    refine x_iload_n dm_118_47 rfl ?_
    refine x_iadd dm_118_48 ?_
    exact x_iretR dm_118_49 rfl
  refine im_test _ (fun c4 => ?_) (fun c4 => ?_)
  · refine x_tabIn 4 50 dm_118_1 c4 (by decide) (by decide) rfl rfl ?_
    refine x_iload_n dm_118_50 rfl ?_
    refine x_iload_n dm_118_51 rfl ?_
    refine x_isub dm_118_52 ?_
    exact x_iretR dm_118_53 rfl
  refine im_test _ (fun c5 => ?_) (fun c5 => ?_)
  · refine x_tabIn 5 54 dm_118_1 c5 (by decide) (by decide) rfl rfl ?_
    refine x_iload_n dm_118_54 rfl ?_
    refine x_iload_n dm_118_55 rfl ?_
    refine x_ixor dm_118_56 ?_
    exact x_iretR dm_118_57 rfl
  refine im_test _ (fun c6 => ?_) (fun c6 => ?_)
  · refine x_tabIn 6 58 dm_118_1 c6 (by decide) (by decide) rfl rfl ?_
    refine x_iload_n dm_118_58 rfl ?_
    refine x_iload_n dm_118_59 rfl ?_
    refine x_iand dm_118_60 ?_
    exact x_iretR dm_118_61 rfl
  refine x_tabOut 62 dm_118_1 (im_swout (1) 6 (by decide) (by decide) (fun i hi => match i, hi with | 0, _ => c1 | 1, _ => c2 | 2, _ => c3 | 3, _ => c4 | 4, _ => c5 | 5, _ => c6 | i + 6, hi => absurd hi (by omega))) rfl ?_
  refine x_iload_n dm_118_62 rfl ?_
  refine x_iload_n dm_118_63 rfl ?_
  refine x_ior dm_118_64 ?_
  exact x_iretR dm_118_65 rfl
def gn_119_19 (s0 : Int32) (M : im_M) : Option (im_M) :=
  let M1 : im_M := im_u M 0 14 s0; let M2 : im_M := im_u M1 0 15 (0 : Int32); some M2
set_option maxRecDepth 100000 in
set_option maxHeartbeats 4000000 in
theorem tg_119_19 (s0 : Int32) (M : im_M) : im_Go zR_V 0 fm_119 19 [(0, .inr (some 0))] [.inl s0, .inr (some 0)] (st_hR M) (gn_119_19 s0 M) := by
  unfold gn_119_19
  refine x_putIR dm_119_19 fl_8_138 rfl rfl rfl ?_
  refine x_aload_n dm_119_22 rfl ?_
  refine x_iconst (0) dm_119_23 (by decide) ?_
  refine x_putIR dm_119_24 fl_8_141 rfl rfl rfl ?_
  exact x_vretR dm_119_27 rfl
/-- FencedModulesModel.pass()V -/
def gn_119 (M : im_M) : Option (im_M) :=
  if (M 0 14) = (2 : Int32) then (gn_119_19 (0 : Int32) M) else (gn_119_19 ((M 0 14) + (1 : Int32)) M)
set_option maxRecDepth 100000 in
set_option maxHeartbeats 4000000 in
theorem tg_119 (M : im_M) : im_Go zR_V 0 fm_119 0 (im_en 0 [.inr (some 0)]) [] (st_hR M) (gn_119 M) := by
  unfold gn_119
  refine x_aload_n dm_119_0 rfl ?_
  refine x_aload_n dm_119_1 rfl ?_
  refine x_getI dm_119_2 fl_8_138 rfl rfl rfl ?_
  refine x_iconst (2) dm_119_5 (by decide) ?_
  refine x_icmp_ne 13 dm_119_6 rfl (fun c1 => ?_) (fun c1 => ?_)
  · refine x_iconst (0) dm_119_9 (by decide) ?_
    refine x_goto 19 dm_119_10 rfl ?_
    exact im_lsub [(0, .inr (some 0))] (im_sb_c rfl im_sb_n) (tg_119_19 (0 : Int32) M)
  · refine x_aload_n dm_119_13 rfl ?_
    refine x_getI dm_119_14 fl_8_138 rfl rfl rfl ?_
    refine x_iconst (1) dm_119_17 (by decide) ?_
    refine x_iadd dm_119_18 ?_
    exact im_lsub [(0, .inr (some 0))] (im_sb_c rfl im_sb_n) (tg_119_19 _ M)
def gn_121_30 (r5 : Int32 → Int32 → Int32 → im_M → Option (Int32 × im_M)) (y2 : Int32) (y4 : Int32) (s0 : Int32) (M : im_M) : Option (Int32 × im_M) :=
  let v1 : Int32 := (y4 + (1 : Int32)); r5 y2 s0 v1 M
set_option maxRecDepth 100000 in
set_option maxHeartbeats 4000000 in
theorem tg_121_30 (r5 : Int32 → Int32 → Int32 → im_M → Option (Int32 × im_M)) (hr5 : ∀ (y2 : Int32) (y3 : Int32) (y4 : Int32) (M : im_M), im_Go zR_I 0 fm_121 5 [(0, .inr (some 0)), (2, .inl y2), (3, .inl y3), (4, .inl y4)] [] (st_hR M) (r5 y2 y3 y4 M)) (y2 : Int32) (y4 : Int32) (s0 : Int32) (M : im_M) : im_Go zR_I 0 fm_121 30 [(0, .inr (some 0)), (2, .inl y2), (4, .inl y4)] [.inl s0] (st_hR M) (gn_121_30 r5 y2 y4 s0 M) := by
  unfold gn_121_30
  refine x_istore_n dm_121_30 (Nat.le_of_ble_eq_true rfl) ?_
  refine x_iinc (1) dm_121_31 rfl (by decide) (Nat.le_of_ble_eq_true rfl) ?_
  refine x_goto 5 dm_121_34 rfl ?_
  exact im_lsub [(0, .inr (some 0)), (2, .inl y2), (3, .inl s0), (4, .inl _)] (im_sb_c rfl (im_sb_c rfl (im_sb_c rfl (im_sb_c rfl im_sb_n)))) (hr5 y2 s0 _ M)
def gn_121_25 (r5 : Int32 → Int32 → Int32 → im_M → Option (Int32 × im_M)) (y2 : Int32) (y4 : Int32) (M : im_M) : Option (Int32 × im_M) :=
  gn_121_30 r5 y2 y4 (1 : Int32) M
set_option maxRecDepth 100000 in
set_option maxHeartbeats 4000000 in
theorem tg_121_25 (r5 : Int32 → Int32 → Int32 → im_M → Option (Int32 × im_M)) (hr5 : ∀ (y2 : Int32) (y3 : Int32) (y4 : Int32) (M : im_M), im_Go zR_I 0 fm_121 5 [(0, .inr (some 0)), (2, .inl y2), (3, .inl y3), (4, .inl y4)] [] (st_hR M) (r5 y2 y3 y4 M)) (y2 : Int32) (y4 : Int32) (M : im_M) : im_Go zR_I 0 fm_121 25 [(0, .inr (some 0)), (2, .inl y2), (4, .inl y4)] [] (st_hR M) (gn_121_25 r5 y2 y4 M) := by
  unfold gn_121_25
  refine x_iconst (1) dm_121_25 (by decide) ?_
  refine x_goto 30 dm_121_26 rfl ?_
  exact im_lsub [(0, .inr (some 0)), (2, .inl y2), (4, .inl y4)] (im_sb_c rfl (im_sb_c rfl (im_sb_c rfl im_sb_n))) (tg_121_30 r5 hr5 y2 y4 (1 : Int32) M)
def gn_121_5  : Nat → Int32 → Int32 → Int32 → im_M → Option (Int32 × im_M)
  | 0, _, _, _, _ => none
  | n + 1, y2, y3, y4, M =>
    if y2 ≤ y4 then (if y3 &&& 1 = y3 then some (y3, M) else none) else (if y3 = 0 then (if st_ib y4 24 then (if (M 23 (y4).toNatClampNeg) = 0 then (gn_121_30 (gn_121_5 n) y2 y4 (0 : Int32) M) else (gn_121_25 (gn_121_5 n) y2 y4 M)) else none) else (gn_121_25 (gn_121_5 n) y2 y4 M))
set_option maxRecDepth 100000 in
set_option maxHeartbeats 4000000 in
theorem tg_121_5  : ∀ (n : Nat) (y2 : Int32) (y3 : Int32) (y4 : Int32) (M : im_M), im_Go zR_I 0 fm_121 5 [(0, .inr (some 0)), (2, .inl y2), (3, .inl y3), (4, .inl y4)] [] (st_hR M) (gn_121_5  n y2 y3 y4 M)
  | 0, y2, y3, y4, M => im_none
  | n + 1, y2, y3, y4, M => by
    have ih := tg_121_5  n
    unfold gn_121_5
    refine x_iload dm_121_5 rfl ?_
    refine x_iload_n dm_121_7 rfl ?_
    refine x_icmp_ge 37 dm_121_8 rfl (fun c1 => ?_) (fun c1 => ?_)
    · refine x_iload_n dm_121_37 rfl ?_
      refine im_chk _ (fun hz2 => ?_)
      exact x_zretR dm_121_38 rfl hz2
    · refine x_iload_n dm_121_11 rfl ?_
      refine x_if_ne 25 dm_121_12 rfl (fun c3 => ?_) (fun c3 => ?_)
      · refine x_aload_n dm_121_15 rfl ?_
        refine x_getRC dm_121_16 fl_8_77 rfl rfl rfl rfl ?_
        refine x_iload dm_121_19 rfl ?_
        refine im_chk _ (fun hi4 => ?_)
        refine x_baloadX _ rfl dm_121_21 rfl (mk_in rfl hi4) ?_
        refine x_if_eq 29 dm_121_22 rfl (fun c5 => ?_) (fun c5 => ?_)
        · refine x_iconst (0) dm_121_29 (by decide) ?_
          exact im_lsub [(0, .inr (some 0)), (2, .inl y2), (4, .inl y4)] (im_sb_c rfl (im_sb_c rfl (im_sb_c rfl im_sb_n))) (tg_121_30 (gn_121_5 n) ih y2 y4 (0 : Int32) M)
        · exact im_lsub [(0, .inr (some 0)), (2, .inl y2), (4, .inl y4)] (im_sb_c rfl (im_sb_c rfl (im_sb_c rfl im_sb_n))) (tg_121_25 (gn_121_5 n) ih y2 y4 M)
      · exact im_lsub [(0, .inr (some 0)), (2, .inl y2), (4, .inl y4)] (im_sb_c rfl (im_sb_c rfl (im_sb_c rfl im_sb_n))) (tg_121_25 (gn_121_5 n) ih y2 y4 M)
/-- FencedModulesModel.anyNamed(II)Z -/
def gn_121 (x1 : Int32) (x2 : Int32) (M : im_M) : Option (Int32 × im_M) :=
  gn_121_5 1000 x2 (0 : Int32) x1 M
set_option maxRecDepth 100000 in
set_option maxHeartbeats 4000000 in
theorem tg_121 (x1 : Int32) (x2 : Int32) (M : im_M) : im_Go zR_I 0 fm_121 0 (im_en 0 [.inr (some 0), .inl x1, .inl x2]) [] (st_hR M) (gn_121 x1 x2 M) := by
  unfold gn_121
  refine x_iconst (0) dm_121_0 (by decide) ?_
  refine x_istore_n dm_121_1 (Nat.le_of_ble_eq_true rfl) ?_
  refine x_iload_n dm_121_2 rfl ?_
  refine x_istore dm_121_3 (Nat.le_of_ble_eq_true rfl) ?_
  exact im_lsub [(0, .inr (some 0)), (2, .inl x2), (3, .inl (0 : Int32)), (4, .inl x1)] (im_sb_c rfl (im_sb_c rfl (im_sb_c rfl (im_sb_c rfl im_sb_n)))) (tg_121_5 1000 x2 (0 : Int32) x1 M)
/-- FencedModulesModel.become(IIZ)V -/
def gn_122 (x1 : Int32) (x2 : Int32) (x3 : Int32) (M : im_M) : Option (im_M) :=
  if st_ib x1 24 then (let M2 : im_M := im_u M 22 (x1).toNatClampNeg x2; if st_ib x1 24 then (let M4 : im_M := im_u M2 23 (x1).toNatClampNeg (x3 &&& 1); some M4) else none) else none
set_option maxRecDepth 100000 in
set_option maxHeartbeats 4000000 in
theorem tg_122 (x1 : Int32) (x2 : Int32) (x3 : Int32) (M : im_M) : im_Go zR_V 0 fm_122 0 (im_en 0 [.inr (some 0), .inl x1, .inl x2, .inl x3]) [] (st_hR M) (gn_122 x1 x2 x3 M) := by
  unfold gn_122
  refine x_aload_n dm_122_0 rfl ?_
  refine x_getRC dm_122_1 fl_8_74 rfl rfl rfl rfl ?_
  refine x_iload_n dm_122_4 rfl ?_
  refine x_iload_n dm_122_5 rfl ?_
  refine im_chk _ (fun hi1 => ?_)
  refine x_iastoreR _ rfl dm_122_6 rfl (mk_in rfl hi1) ?_
  refine x_aload_n dm_122_7 rfl ?_
  refine x_getRC dm_122_8 fl_8_77 rfl rfl rfl rfl ?_
  refine x_iload_n dm_122_11 rfl ?_
  refine x_iload_n dm_122_12 rfl ?_
  refine im_chk _ (fun hi3 => ?_)
  refine x_bastoreR _ rfl dm_122_13 rfl (mk_in rfl hi3) ?_
  exact x_vretR dm_122_14 rfl
/-- FencedModulesModel.line(IIII)Z -/
def gn_93 (x1 : Int32) (x2 : Int32) (x3 : Int32) (x4 : Int32) (M : im_M) : Option (Int32 × im_M) :=
  (gn_92 x1 (0 : Int32) (15 : Int32) M).bind fun b1 => if b1.1 = 0 then (some ((0 : Int32), b1.2)) else ((gn_92 x2 (0 : Int32) (7 : Int32) b1.2).bind fun b3 => if b3.1 = 0 then (some ((0 : Int32), b3.2)) else ((gn_92 x3 (0 : Int32) (7 : Int32) b3.2).bind fun b5 => if b5.1 = 0 then (some ((0 : Int32), b5.2)) else ((gn_92 x4 (-2097152 : Int32) (2097151 : Int32) b5.2).bind fun b7 => if b7.1 = 0 then (some ((0 : Int32), b7.2)) else (if (b7.2 0 16) = (24 : Int32) then (some ((0 : Int32), b7.2)) else (if st_ib (b7.2 0 16) 24 then (let M11 : im_M := im_u b7.2 15 ((b7.2 0 16)).toNatClampNeg x1; if st_ib (M11 0 16) 24 then (let M13 : im_M := im_u M11 16 ((M11 0 16)).toNatClampNeg x2; if st_ib (M13 0 16) 24 then (let M15 : im_M := im_u M13 17 ((M13 0 16)).toNatClampNeg x3; if st_ib (M15 0 16) 24 then (let M17 : im_M := im_u M15 18 ((M15 0 16)).toNatClampNeg x4; let M18 : im_M := im_u M17 0 16 ((M17 0 16) + (1 : Int32)); some ((1 : Int32), M18)) else none) else none) else none) else none)))))
set_option maxRecDepth 100000 in
set_option maxHeartbeats 4000000 in
theorem tg_93 (x1 : Int32) (x2 : Int32) (x3 : Int32) (x4 : Int32) (M : im_M) : im_Go zR_I 1 fm_93 0 (im_en 0 [.inr (some 0), .inl x1, .inl x2, .inl x3, .inl x4]) [] (st_hR M) (gn_93 x1 x2 x3 x4 M) := by
  unfold gn_93
  refine x_iload_n dm_93_0 rfl ?_
  refine x_iconst (0) dm_93_1 (by decide) ?_
  refine x_bipush (15) dm_93_2 (by decide) ?_
  refine im_callRI mf_92 rfl (tg_92 x1 (0 : Int32) (15 : Int32) M) (im_runS (as := [.inl x1, .inl (0 : Int32), .inl (15 : Int32)]) (rest := []) dm_93_4 mf_92 (Nat.le_of_ble_eq_true rfl) ml_8_83 mi_92 mp_92 (Nat.le_of_ble_eq_true rfl)) rfl (fun b1 hb1 => ?_)
  refine x_if_eq 51 dm_93_7 rfl (fun c2 => ?_) (fun c2 => ?_)
  · refine x_iconst (0) dm_93_51 (by decide) ?_
    exact x_zretR dm_93_52 rfl (by decide)
  · refine x_iload_n dm_93_10 rfl ?_
    refine x_iconst (0) dm_93_11 (by decide) ?_
    refine x_bipush (7) dm_93_12 (by decide) ?_
    refine im_callRI mf_92 rfl (tg_92 x2 (0 : Int32) (7 : Int32) b1.2) (im_runS (as := [.inl x2, .inl (0 : Int32), .inl (7 : Int32)]) (rest := []) dm_93_14 mf_92 (Nat.le_of_ble_eq_true rfl) ml_8_83 mi_92 mp_92 (Nat.le_of_ble_eq_true rfl)) rfl (fun b3 hb3 => ?_)
    refine x_if_eq 51 dm_93_17 rfl (fun c4 => ?_) (fun c4 => ?_)
    · refine x_iconst (0) dm_93_51 (by decide) ?_
      exact x_zretR dm_93_52 rfl (by decide)
    · refine x_iload_n dm_93_20 rfl ?_
      refine x_iconst (0) dm_93_21 (by decide) ?_
      refine x_bipush (7) dm_93_22 (by decide) ?_
      refine im_callRI mf_92 rfl (tg_92 x3 (0 : Int32) (7 : Int32) b3.2) (im_runS (as := [.inl x3, .inl (0 : Int32), .inl (7 : Int32)]) (rest := []) dm_93_24 mf_92 (Nat.le_of_ble_eq_true rfl) ml_8_83 mi_92 mp_92 (Nat.le_of_ble_eq_true rfl)) rfl (fun b5 hb5 => ?_)
      refine x_if_eq 51 dm_93_27 rfl (fun c6 => ?_) (fun c6 => ?_)
      · refine x_iconst (0) dm_93_51 (by decide) ?_
        exact x_zretR dm_93_52 rfl (by decide)
      · refine x_iload dm_93_30 rfl ?_
        refine x_ldc (-2097152) dm_93_32 kc_8_87 ?_
        refine x_ldc (2097151) dm_93_34 kc_8_88 ?_
        refine im_callRI mf_92 rfl (tg_92 x4 (-2097152 : Int32) (2097151 : Int32) b5.2) (im_runS (as := [.inl x4, .inl (-2097152 : Int32), .inl (2097151 : Int32)]) (rest := []) dm_93_36 mf_92 (Nat.le_of_ble_eq_true rfl) ml_8_83 mi_92 mp_92 (Nat.le_of_ble_eq_true rfl)) rfl (fun b7 hb7 => ?_)
        refine x_if_eq 51 dm_93_39 rfl (fun c8 => ?_) (fun c8 => ?_)
        · refine x_iconst (0) dm_93_51 (by decide) ?_
          exact x_zretR dm_93_52 rfl (by decide)
        · refine x_aload_n dm_93_42 rfl ?_
          refine x_getI dm_93_43 fl_8_89 rfl rfl rfl ?_
          refine x_bipush (24) dm_93_46 (by decide) ?_
          refine x_icmp_ne 53 dm_93_48 rfl (fun c9 => ?_) (fun c9 => ?_)
          · refine x_iconst (0) dm_93_51 (by decide) ?_
            exact x_zretR dm_93_52 rfl (by decide)
          · refine x_aload_n dm_93_53 rfl ?_
            refine x_getRC dm_93_54 fl_8_52 rfl rfl rfl rfl ?_
            refine x_aload_n dm_93_57 rfl ?_
            refine x_getI dm_93_58 fl_8_89 rfl rfl rfl ?_
            refine x_iload_n dm_93_61 rfl ?_
            refine im_chk _ (fun hi10 => ?_)
            refine x_iastoreR _ rfl dm_93_62 rfl (mk_in rfl hi10) ?_
            refine x_aload_n dm_93_63 rfl ?_
            refine x_getRC dm_93_64 fl_8_55 rfl rfl rfl rfl ?_
            refine x_aload_n dm_93_67 rfl ?_
            refine x_getI dm_93_68 fl_8_89 rfl rfl rfl ?_
            refine x_iload_n dm_93_71 rfl ?_
            refine im_chk _ (fun hi12 => ?_)
            refine x_iastoreR _ rfl dm_93_72 rfl (mk_in rfl hi12) ?_
            refine x_aload_n dm_93_73 rfl ?_
            refine x_getRC dm_93_74 fl_8_58 rfl rfl rfl rfl ?_
            refine x_aload_n dm_93_77 rfl ?_
            refine x_getI dm_93_78 fl_8_89 rfl rfl rfl ?_
            refine x_iload_n dm_93_81 rfl ?_
            refine im_chk _ (fun hi14 => ?_)
            refine x_iastoreR _ rfl dm_93_82 rfl (mk_in rfl hi14) ?_
            refine x_aload_n dm_93_83 rfl ?_
            refine x_getRC dm_93_84 fl_8_61 rfl rfl rfl rfl ?_
            refine x_aload_n dm_93_87 rfl ?_
            refine x_getI dm_93_88 fl_8_89 rfl rfl rfl ?_
            refine x_iload dm_93_91 rfl ?_
            refine im_chk _ (fun hi16 => ?_)
            refine x_iastoreR _ rfl dm_93_93 rfl (mk_in rfl hi16) ?_
            refine x_aload_n dm_93_94 rfl ?_
            refine x_dup dm_93_95 ?_
            refine x_getI dm_93_96 fl_8_89 rfl rfl rfl ?_
            refine x_iconst (1) dm_93_99 (by decide) ?_
            refine x_iadd dm_93_100 ?_
            refine x_putIR dm_93_101 fl_8_89 rfl rfl rfl ?_
            refine x_iconst (1) dm_93_104 (by decide) ?_
            exact x_zretR dm_93_105 rfl (by decide)
/-- FencedModulesModel.mark(I)Z -/
def gn_94 (x1 : Int32) (M : im_M) : Option (Int32 × im_M) :=
  (gn_92 x1 (0 : Int32) (7 : Int32) M).bind fun b1 => if b1.1 = 0 then (some ((0 : Int32), b1.2)) else (if st_ib x1 8 then (if (b1.2 19 (x1).toNatClampNeg) = 0 then (let M5 : im_M := im_u b1.2 19 (x1).toNatClampNeg ((1 : Int32) &&& 1); if st_ib x1 8 then (let M7 : im_M := im_u M5 20 (x1).toNatClampNeg (M5 0 16); some ((1 : Int32), M7)) else none) else (some ((0 : Int32), b1.2))) else none)
set_option maxRecDepth 100000 in
set_option maxHeartbeats 4000000 in
theorem tg_94 (x1 : Int32) (M : im_M) : im_Go zR_I 1 fm_94 0 (im_en 0 [.inr (some 0), .inl x1]) [] (st_hR M) (gn_94 x1 M) := by
  unfold gn_94
  refine x_iload_n dm_94_0 rfl ?_
  refine x_iconst (0) dm_94_1 (by decide) ?_
  refine x_bipush (7) dm_94_2 (by decide) ?_
  refine im_callRI mf_92 rfl (tg_92 x1 (0 : Int32) (7 : Int32) M) (im_runS (as := [.inl x1, .inl (0 : Int32), .inl (7 : Int32)]) (rest := []) dm_94_4 mf_92 (Nat.le_of_ble_eq_true rfl) ml_8_83 mi_92 mp_92 (Nat.le_of_ble_eq_true rfl)) rfl (fun b1 hb1 => ?_)
  refine x_if_eq 19 dm_94_7 rfl (fun c2 => ?_) (fun c2 => ?_)
  · refine x_iconst (0) dm_94_19 (by decide) ?_
    exact x_zretR dm_94_20 rfl (by decide)
  · refine x_aload_n dm_94_10 rfl ?_
    refine x_getRC dm_94_11 fl_8_64 rfl rfl rfl rfl ?_
    refine x_iload_n dm_94_14 rfl ?_
    refine im_chk _ (fun hi3 => ?_)
    refine x_baloadX _ rfl dm_94_15 rfl (mk_in rfl hi3) ?_
    refine x_if_eq 21 dm_94_16 rfl (fun c4 => ?_) (fun c4 => ?_)
    · refine x_aload_n dm_94_21 rfl ?_
      refine x_getRC dm_94_22 fl_8_64 rfl rfl rfl rfl ?_
      refine x_iload_n dm_94_25 rfl ?_
      refine x_iconst (1) dm_94_26 (by decide) ?_
      refine x_bastoreR _ rfl dm_94_27 rfl (mk_in rfl hi3) ?_
      refine x_aload_n dm_94_28 rfl ?_
      refine x_getRC dm_94_29 fl_8_68 rfl rfl rfl rfl ?_
      refine x_iload_n dm_94_32 rfl ?_
      refine x_aload_n dm_94_33 rfl ?_
      refine x_getI dm_94_34 fl_8_89 rfl rfl rfl ?_
      refine im_chk _ (fun hi6 => ?_)
      refine x_iastoreR _ rfl dm_94_37 rfl (mk_in rfl hi6) ?_
      refine x_iconst (1) dm_94_38 (by decide) ?_
      exact x_zretR dm_94_39 rfl (by decide)
    · refine x_iconst (0) dm_94_19 (by decide) ?_
      exact x_zretR dm_94_20 rfl (by decide)
def gn_97_101 (y3 : Int32) (M : im_M) : Option (Int32 × im_M) :=
  (gn_92 y3 (0 : Int32) (7 : Int32) M).bind fun b1 => if b1.1 = 0 then (some ((0 : Int32), b1.2)) else (if st_ib y3 8 then (if (b1.2 19 (y3).toNatClampNeg) = 0 then (some ((0 : Int32), b1.2)) else (some ((1 : Int32), b1.2))) else none)
set_option maxRecDepth 100000 in
set_option maxHeartbeats 4000000 in
theorem tg_97_101 (y3 : Int32) (M : im_M) : im_Go zR_I 1 fm_97 101 [(0, .inr (some 0)), (3, .inl y3)] [] (st_hR M) (gn_97_101 y3 M) := by
  unfold gn_97_101
  refine x_iload_n dm_97_101 rfl ?_
  refine x_iconst (0) dm_97_102 (by decide) ?_
  refine x_bipush (7) dm_97_103 (by decide) ?_
  refine im_callRI mf_92 rfl (tg_92 y3 (0 : Int32) (7 : Int32) M) (im_runS (as := [.inl y3, .inl (0 : Int32), .inl (7 : Int32)]) (rest := []) dm_97_105 mf_92 (Nat.le_of_ble_eq_true rfl) ml_8_83 mi_92 mp_92 (Nat.le_of_ble_eq_true rfl)) rfl (fun b1 hb1 => ?_)
  refine x_if_eq 124 dm_97_108 rfl (fun c2 => ?_) (fun c2 => ?_)
  · refine x_iconst (0) dm_97_124 (by decide) ?_
    exact x_zretR dm_97_125 rfl (by decide)
  · refine x_aload_n dm_97_111 rfl ?_
    refine x_getRC dm_97_112 fl_8_64 rfl rfl rfl rfl ?_
    refine x_iload_n dm_97_115 rfl ?_
    refine im_chk _ (fun hi3 => ?_)
    refine x_baloadX _ rfl dm_97_116 rfl (mk_in rfl hi3) ?_
    refine x_if_eq 124 dm_97_117 rfl (fun c4 => ?_) (fun c4 => ?_)
    · refine x_iconst (0) dm_97_124 (by decide) ?_
      exact x_zretR dm_97_125 rfl (by decide)
    · refine x_iconst (1) dm_97_120 (by decide) ?_
      refine x_goto 125 dm_97_121 rfl ?_
      exact x_zretR dm_97_125 rfl (by decide)
def gn_97_142 (M : im_M) : Option (Int32 × im_M) :=
  some ((1 : Int32), M)
set_option maxRecDepth 100000 in
set_option maxHeartbeats 4000000 in
theorem tg_97_142 (M : im_M) : im_Go zR_I 1 fm_97 142 [] [] (st_hR M) (gn_97_142 M) := by
  unfold gn_97_142
  refine x_iconst (1) dm_97_142 (by decide) ?_
  refine x_goto 147 dm_97_143 rfl ?_
  exact x_zretR dm_97_147 rfl (by decide)
def gn_97_84 (y2 : Int32) (y3 : Int32) (M : im_M) : Option (Int32 × im_M) :=
  (gn_92 y2 (10 : Int32) (12 : Int32) M).bind fun b1 => if b1.1 = 0 then (if y2 = (15 : Int32) then (gn_97_101 y3 b1.2) else (if y2 = (14 : Int32) then ((gn_92 y3 (0 : Int32) (6 : Int32) b1.2).bind fun b5 => if b5.1 = 0 then (some ((0 : Int32), b5.2)) else (gn_97_142 b5.2)) else (gn_97_142 b1.2))) else (gn_97_101 y3 b1.2)
set_option maxRecDepth 100000 in
set_option maxHeartbeats 4000000 in
theorem tg_97_84 (y2 : Int32) (y3 : Int32) (M : im_M) : im_Go zR_I 1 fm_97 84 [(0, .inr (some 0)), (2, .inl y2), (3, .inl y3)] [] (st_hR M) (gn_97_84 y2 y3 M) := by
  unfold gn_97_84
  refine x_iload_n dm_97_84 rfl ?_
  refine x_bipush (10) dm_97_85 (by decide) ?_
  refine x_bipush (12) dm_97_87 (by decide) ?_
  refine im_callRI mf_92 rfl (tg_92 y2 (10 : Int32) (12 : Int32) M) (im_runS (as := [.inl y2, .inl (10 : Int32), .inl (12 : Int32)]) (rest := []) dm_97_89 mf_92 (Nat.le_of_ble_eq_true rfl) ml_8_83 mi_92 mp_92 (Nat.le_of_ble_eq_true rfl)) rfl (fun b1 hb1 => ?_)
  refine x_if_ne 101 dm_97_92 rfl (fun c2 => ?_) (fun c2 => ?_)
  · refine x_iload_n dm_97_95 rfl ?_
    refine x_bipush (15) dm_97_96 (by decide) ?_
    refine x_icmp_ne 126 dm_97_98 rfl (fun c3 => ?_) (fun c3 => ?_)
    · exact im_lsub [(0, .inr (some 0)), (3, .inl y3)] (im_sb_c rfl (im_sb_c rfl im_sb_n)) (tg_97_101 y3 b1.2)
    · refine x_iload_n dm_97_126 rfl ?_
      refine x_bipush (14) dm_97_127 (by decide) ?_
      refine x_icmp_ne 142 dm_97_129 rfl (fun c4 => ?_) (fun c4 => ?_)
      · refine x_iload_n dm_97_132 rfl ?_
        refine x_iconst (0) dm_97_133 (by decide) ?_
        refine x_bipush (6) dm_97_134 (by decide) ?_
        refine im_callRI mf_92 rfl (tg_92 y3 (0 : Int32) (6 : Int32) b1.2) (im_runS (as := [.inl y3, .inl (0 : Int32), .inl (6 : Int32)]) (rest := []) dm_97_136 mf_92 (Nat.le_of_ble_eq_true rfl) ml_8_83 mi_92 mp_92 (Nat.le_of_ble_eq_true rfl)) rfl (fun b5 hb5 => ?_)
        refine x_if_eq 146 dm_97_139 rfl (fun c6 => ?_) (fun c6 => ?_)
        · refine x_iconst (0) dm_97_146 (by decide) ?_
          exact x_zretR dm_97_147 rfl (by decide)
        · exact im_lsub [] im_sb_n (tg_97_142 b5.2)
      · exact im_lsub [] im_sb_n (tg_97_142 b1.2)
  · exact im_lsub [(0, .inr (some 0)), (3, .inl y3)] (im_sb_c rfl (im_sb_c rfl im_sb_n)) (tg_97_101 y3 b1.2)
def gn_97_67 (y1 : Int32) (y2 : Int32) (y3 : Int32) (y4 : Int32) (M : im_M) : Option (Int32 × im_M) :=
  if y4 = 0 then (gn_97_84 y2 y3 M) else (if st_ib y1 24 then (if (M 17 (y1).toNatClampNeg) ≤ (4 : Int32) then (gn_97_84 y2 y3 M) else (some ((0 : Int32), M))) else none)
set_option maxRecDepth 100000 in
set_option maxHeartbeats 4000000 in
theorem tg_97_67 (y1 : Int32) (y2 : Int32) (y3 : Int32) (y4 : Int32) (M : im_M) : im_Go zR_I 1 fm_97 67 [(0, .inr (some 0)), (1, .inl y1), (2, .inl y2), (3, .inl y3), (4, .inl y4)] [] (st_hR M) (gn_97_67 y1 y2 y3 y4 M) := by
  unfold gn_97_67
  refine x_iload dm_97_67 rfl ?_
  refine x_if_eq 84 dm_97_69 rfl (fun c1 => ?_) (fun c1 => ?_)
  · exact im_lsub [(0, .inr (some 0)), (2, .inl y2), (3, .inl y3)] (im_sb_c rfl (im_sb_c rfl (im_sb_c rfl im_sb_n))) (tg_97_84 y2 y3 M)
  · refine x_aload_n dm_97_72 rfl ?_
    refine x_getRC dm_97_73 fl_8_58 rfl rfl rfl rfl ?_
    refine x_iload_n dm_97_76 rfl ?_
    refine im_chk _ (fun hi2 => ?_)
    refine x_ialoadX _ rfl dm_97_77 rfl (mk_in rfl hi2) ?_
    refine x_iconst (4) dm_97_78 (by decide) ?_
    refine x_icmp_le 84 dm_97_79 rfl (fun c3 => ?_) (fun c3 => ?_)
    · exact im_lsub [(0, .inr (some 0)), (2, .inl y2), (3, .inl y3)] (im_sb_c rfl (im_sb_c rfl (im_sb_c rfl im_sb_n))) (tg_97_84 y2 y3 M)
    · refine x_iconst (0) dm_97_82 (by decide) ?_
      exact x_zretR dm_97_83 rfl (by decide)
def gn_97_50 (y1 : Int32) (y2 : Int32) (y3 : Int32) (y4 : Int32) (s0 : Int32) (M : im_M) : Option (Int32 × im_M) :=
  if s0 = 0 then (gn_97_67 y1 y2 y3 y4 M) else (if st_ib y1 24 then (if (4 : Int32) < (M 16 (y1).toNatClampNeg) then (some ((0 : Int32), M)) else (gn_97_67 y1 y2 y3 y4 M)) else none)
set_option maxRecDepth 100000 in
set_option maxHeartbeats 4000000 in
theorem tg_97_50 (y1 : Int32) (y2 : Int32) (y3 : Int32) (y4 : Int32) (s0 : Int32) (M : im_M) : im_Go zR_I 1 fm_97 50 [(0, .inr (some 0)), (1, .inl y1), (2, .inl y2), (3, .inl y3), (4, .inl y4)] [.inl s0] (st_hR M) (gn_97_50 y1 y2 y3 y4 s0 M) := by
  unfold gn_97_50
  refine x_istore dm_97_50 (Nat.le_of_ble_eq_true rfl) ?_
  refine x_iload dm_97_52 rfl ?_
  refine x_if_eq 67 dm_97_54 rfl (fun c1 => ?_) (fun c1 => ?_)
  · exact im_lsub [(0, .inr (some 0)), (1, .inl y1), (2, .inl y2), (3, .inl y3), (4, .inl y4)] (im_sb_c rfl (im_sb_c rfl (im_sb_c rfl (im_sb_c rfl (im_sb_c rfl im_sb_n))))) (tg_97_67 y1 y2 y3 y4 M)
  · refine x_aload_n dm_97_57 rfl ?_
    refine x_getRC dm_97_58 fl_8_55 rfl rfl rfl rfl ?_
    refine x_iload_n dm_97_61 rfl ?_
    refine im_chk _ (fun hi2 => ?_)
    refine x_ialoadX _ rfl dm_97_62 rfl (mk_in rfl hi2) ?_
    refine x_iconst (4) dm_97_63 (by decide) ?_
    refine x_icmp_gt 82 dm_97_64 rfl (fun c3 => ?_) (fun c3 => ?_)
    · refine x_iconst (0) dm_97_82 (by decide) ?_
      exact x_zretR dm_97_83 rfl (by decide)
    · exact im_lsub [(0, .inr (some 0)), (1, .inl y1), (2, .inl y2), (3, .inl y3), (4, .inl y4)] (im_sb_c rfl (im_sb_c rfl (im_sb_c rfl (im_sb_c rfl (im_sb_c rfl im_sb_n))))) (tg_97_67 y1 y2 y3 y4 M)
def gn_97_45 (y1 : Int32) (y2 : Int32) (y3 : Int32) (y4 : Int32) (M : im_M) : Option (Int32 × im_M) :=
  gn_97_50 y1 y2 y3 y4 (1 : Int32) M
set_option maxRecDepth 100000 in
set_option maxHeartbeats 4000000 in
theorem tg_97_45 (y1 : Int32) (y2 : Int32) (y3 : Int32) (y4 : Int32) (M : im_M) : im_Go zR_I 1 fm_97 45 [(0, .inr (some 0)), (1, .inl y1), (2, .inl y2), (3, .inl y3), (4, .inl y4)] [] (st_hR M) (gn_97_45 y1 y2 y3 y4 M) := by
  unfold gn_97_45
  refine x_iconst (1) dm_97_45 (by decide) ?_
  refine x_goto 50 dm_97_46 rfl ?_
  exact im_lsub [(0, .inr (some 0)), (1, .inl y1), (2, .inl y2), (3, .inl y3), (4, .inl y4)] (im_sb_c rfl (im_sb_c rfl (im_sb_c rfl (im_sb_c rfl (im_sb_c rfl im_sb_n))))) (tg_97_50 y1 y2 y3 y4 (1 : Int32) M)
/-- FencedModulesModel.fits(I)Z -/
def gn_97 (x1 : Int32) (M : im_M) : Option (Int32 × im_M) :=
  if st_ib x1 24 then (let v2 : Int32 := (M 15 (x1).toNatClampNeg); if st_ib x1 24 then (let v4 : Int32 := (M 18 (x1).toNatClampNeg); (gn_92 v2 (2 : Int32) (11 : Int32) M).bind fun b5 => if b5.1 = 0 then (if v2 = (1 : Int32) then (gn_97_45 x1 v2 v4 b5.1 b5.2) else (if v2 = (13 : Int32) then (gn_97_45 x1 v2 v4 b5.1 b5.2) else (if v2 = (15 : Int32) then (gn_97_45 x1 v2 v4 b5.1 b5.2) else (gn_97_50 x1 v2 v4 b5.1 (0 : Int32) b5.2)))) else (gn_97_45 x1 v2 v4 b5.1 b5.2)) else none) else none
set_option maxRecDepth 100000 in
set_option maxHeartbeats 4000000 in
theorem tg_97 (x1 : Int32) (M : im_M) : im_Go zR_I 1 fm_97 0 (im_en 0 [.inr (some 0), .inl x1]) [] (st_hR M) (gn_97 x1 M) := by
  unfold gn_97
  refine x_aload_n dm_97_0 rfl ?_
  refine x_getRC dm_97_1 fl_8_52 rfl rfl rfl rfl ?_
  refine x_iload_n dm_97_4 rfl ?_
  refine im_chk _ (fun hi1 => ?_)
  refine x_ialoadX _ rfl dm_97_5 rfl (mk_in rfl hi1) ?_
  refine x_istore_n dm_97_6 (Nat.le_of_ble_eq_true rfl) ?_
  refine x_aload_n dm_97_7 rfl ?_
  refine x_getRC dm_97_8 fl_8_61 rfl rfl rfl rfl ?_
  refine x_iload_n dm_97_11 rfl ?_
  refine im_chk _ (fun hi3 => ?_)
  refine x_ialoadX _ rfl dm_97_12 rfl (mk_in rfl hi3) ?_
  refine x_istore_n dm_97_13 (Nat.le_of_ble_eq_true rfl) ?_
  refine x_iload_n dm_97_14 rfl ?_
  refine x_iconst (2) dm_97_15 (by decide) ?_
  refine x_bipush (11) dm_97_16 (by decide) ?_
  refine im_callRI mf_92 rfl (tg_92 _ (2 : Int32) (11 : Int32) M) (im_runS (as := [.inl _, .inl (2 : Int32), .inl (11 : Int32)]) (rest := []) dm_97_18 mf_92 (Nat.le_of_ble_eq_true rfl) ml_8_83 mi_92 mp_92 (Nat.le_of_ble_eq_true rfl)) rfl (fun b5 hb5 => ?_)
  refine x_istore dm_97_21 (Nat.le_of_ble_eq_true rfl) ?_
  refine x_iload dm_97_23 rfl ?_
  refine x_if_ne 45 dm_97_25 rfl (fun c6 => ?_) (fun c6 => ?_)
  · refine x_iload_n dm_97_28 rfl ?_
    refine x_iconst (1) dm_97_29 (by decide) ?_
    refine x_icmp_eq 45 dm_97_30 rfl (fun c7 => ?_) (fun c7 => ?_)
    · exact im_lsub [(0, .inr (some 0)), (1, .inl x1), (2, .inl _), (3, .inl _), (4, .inl b5.1)] (im_sb_c rfl (im_sb_c rfl (im_sb_c rfl (im_sb_c rfl (im_sb_c rfl im_sb_n))))) (tg_97_45 x1 _ _ b5.1 b5.2)
    · refine x_iload_n dm_97_33 rfl ?_
      refine x_bipush (13) dm_97_34 (by decide) ?_
      refine x_icmp_eq 45 dm_97_36 rfl (fun c8 => ?_) (fun c8 => ?_)
      · exact im_lsub [(0, .inr (some 0)), (1, .inl x1), (2, .inl _), (3, .inl _), (4, .inl b5.1)] (im_sb_c rfl (im_sb_c rfl (im_sb_c rfl (im_sb_c rfl (im_sb_c rfl im_sb_n))))) (tg_97_45 x1 _ _ b5.1 b5.2)
      · refine x_iload_n dm_97_39 rfl ?_
        refine x_bipush (15) dm_97_40 (by decide) ?_
        refine x_icmp_ne 49 dm_97_42 rfl (fun c9 => ?_) (fun c9 => ?_)
        · exact im_lsub [(0, .inr (some 0)), (1, .inl x1), (2, .inl _), (3, .inl _), (4, .inl b5.1)] (im_sb_c rfl (im_sb_c rfl (im_sb_c rfl (im_sb_c rfl (im_sb_c rfl im_sb_n))))) (tg_97_45 x1 _ _ b5.1 b5.2)
        · refine x_iconst (0) dm_97_49 (by decide) ?_
          exact im_lsub [(0, .inr (some 0)), (1, .inl x1), (2, .inl _), (3, .inl _), (4, .inl b5.1)] (im_sb_c rfl (im_sb_c rfl (im_sb_c rfl (im_sb_c rfl (im_sb_c rfl im_sb_n))))) (tg_97_50 x1 _ _ b5.1 (0 : Int32) b5.2)
  · exact im_lsub [(0, .inr (some 0)), (1, .inl x1), (2, .inl _), (3, .inl _), (4, .inl b5.1)] (im_sb_c rfl (im_sb_c rfl (im_sb_c rfl (im_sb_c rfl (im_sb_c rfl im_sb_n))))) (tg_97_45 x1 _ _ b5.1 b5.2)
/-- FencedModulesModel.target(I)I -/
def gn_101 (x1 : Int32) (M : im_M) : Option (Int32 × im_M) :=
  if st_ib x1 8 then ((gn_96 (M 20 (x1).toNatClampNeg) M).bind fun b2 => some (b2.1, b2.2)) else none
set_option maxRecDepth 100000 in
set_option maxHeartbeats 4000000 in
theorem tg_101 (x1 : Int32) (M : im_M) : im_Go zR_I 1 fm_101 0 (im_en 0 [.inr (some 0), .inl x1]) [] (st_hR M) (gn_101 x1 M) := by
  unfold gn_101
  refine x_aload_n dm_101_0 rfl ?_
  refine x_aload_n dm_101_1 rfl ?_
  refine x_getRC dm_101_2 fl_8_68 rfl rfl rfl rfl ?_
  refine x_iload_n dm_101_5 rfl ?_
  refine im_chk _ (fun hi1 => ?_)
  refine x_ialoadX _ rfl dm_101_6 rfl (mk_in rfl hi1) ?_
  refine im_callRI mf_96 rfl (tg_96 _ M) (im_runV (as := [.inl _]) (rest := []) dm_101_7 mf_96 (Nat.le_of_ble_eq_true rfl) ml_8_100 mi_96 ms_96 mp_96 (Nat.le_of_ble_eq_true rfl) rfl rfl ⟨_, _, rfl⟩) rfl (fun b2 hb2 => ?_)
  exact x_iretR dm_101_10 rfl
/-- FencedModulesModel.word(I)Z -/
def gn_104 (x1 : Int32) (M : im_M) : Option (Int32 × im_M) :=
  if (M 0 23) = (31 : Int32) then (some ((0 : Int32), M)) else ((gn_100 x1 M).bind fun b2 => some ((1 : Int32), b2))
set_option maxRecDepth 100000 in
set_option maxHeartbeats 4000000 in
theorem tg_104 (x1 : Int32) (M : im_M) : im_Go zR_I 1 fm_104 0 (im_en 0 [.inr (some 0), .inl x1]) [] (st_hR M) (gn_104 x1 M) := by
  unfold gn_104
  refine x_aload_n dm_104_0 rfl ?_
  refine x_getI dm_104_1 fl_8_93 rfl rfl rfl ?_
  refine x_bipush (31) dm_104_4 (by decide) ?_
  refine x_icmp_ne 11 dm_104_6 rfl (fun c1 => ?_) (fun c1 => ?_)
  · refine x_iconst (0) dm_104_9 (by decide) ?_
    exact x_zretR dm_104_10 rfl (by decide)
  · refine x_aload_n dm_104_11 rfl ?_
    refine x_iload_n dm_104_12 rfl ?_
    refine im_callRV mf_100 rfl (tg_100 x1 M) (im_runV (as := [.inl x1]) (rest := []) dm_104_13 mf_100 (Nat.le_of_ble_eq_true rfl) ml_8_112 mi_100 ms_100 mp_100 (Nat.le_of_ble_eq_true rfl) rfl rfl ⟨_, _, rfl⟩) rfl (fun b2 hb2 => ?_)
    refine x_iconst (1) dm_104_16 (by decide) ?_
    exact x_zretR dm_104_17 rfl (by decide)
/-- FencedModulesModel.module(I)I -/
def gn_105 (x1 : Int32) (M : im_M) : Option (Int32 × im_M) :=
  if x1 = (-1 : Int32) then (some ((M 0 23), M)) else ((gn_92 x1 (0 : Int32) ((M 0 23) - (1 : Int32)) M).bind fun b2 => if b2.1 = 0 then (some ((0 : Int32), b2.2)) else (if st_ib x1 31 then (some ((b2.2 21 (x1).toNatClampNeg), b2.2)) else none))
set_option maxRecDepth 100000 in
set_option maxHeartbeats 4000000 in
theorem tg_105 (x1 : Int32) (M : im_M) : im_Go zR_I 1 fm_105 0 (im_en 0 [.inr (some 0), .inl x1]) [] (st_hR M) (gn_105 x1 M) := by
  unfold gn_105
  refine x_iload_n dm_105_0 rfl ?_
  refine x_iconst (-1) dm_105_1 (by decide) ?_
  refine x_icmp_ne 12 dm_105_2 rfl (fun c1 => ?_) (fun c1 => ?_)
  · refine x_aload_n dm_105_5 rfl ?_
    refine x_getI dm_105_6 fl_8_93 rfl rfl rfl ?_
    refine x_goto 36 dm_105_9 rfl ?_
    exact x_iretR dm_105_36 rfl
  · refine x_iload_n dm_105_12 rfl ?_
    refine x_iconst (0) dm_105_13 (by decide) ?_
    refine x_aload_n dm_105_14 rfl ?_
    refine x_getI dm_105_15 fl_8_93 rfl rfl rfl ?_
    refine x_iconst (1) dm_105_18 (by decide) ?_
    refine x_isub dm_105_19 ?_
    refine im_callRI mf_92 rfl (tg_92 x1 (0 : Int32) _ M) (im_runS (as := [.inl x1, .inl (0 : Int32), .inl _]) (rest := []) dm_105_20 mf_92 (Nat.le_of_ble_eq_true rfl) ml_8_83 mi_92 mp_92 (Nat.le_of_ble_eq_true rfl)) rfl (fun b2 hb2 => ?_)
    refine x_if_eq 35 dm_105_23 rfl (fun c3 => ?_) (fun c3 => ?_)
    · refine x_iconst (0) dm_105_35 (by decide) ?_
      exact x_iretR dm_105_36 rfl
    · refine x_aload_n dm_105_26 rfl ?_
      refine x_getRC dm_105_27 fl_8_71 rfl rfl rfl rfl ?_
      refine x_iload_n dm_105_30 rfl ?_
      refine im_chk _ (fun hi4 => ?_)
      refine x_ialoadX _ rfl dm_105_31 rfl (mk_in rfl hi4) ?_
      refine x_goto 36 dm_105_32 rfl ?_
      exact x_iretR dm_105_36 rfl
/-- FencedModulesModel.isWord(IIIII)Z -/
def gn_106 (x1 : Int32) (x2 : Int32) (x3 : Int32) (x4 : Int32) (x5 : Int32) (M : im_M) : Option (Int32 × im_M) :=
  if (M 0 23) ≤ x1 then (some ((0 : Int32), M)) else (if st_ib x1 31 then ((gn_99 x2 x3 x4 x5 M).bind fun b3 => if (M 21 (x1).toNatClampNeg) = b3.1 then (some ((1 : Int32), b3.2)) else (some ((0 : Int32), b3.2))) else none)
set_option maxRecDepth 100000 in
set_option maxHeartbeats 4000000 in
theorem tg_106 (x1 : Int32) (x2 : Int32) (x3 : Int32) (x4 : Int32) (x5 : Int32) (M : im_M) : im_Go zR_I 1 fm_106 0 (im_en 0 [.inr (some 0), .inl x1, .inl x2, .inl x3, .inl x4, .inl x5]) [] (st_hR M) (gn_106 x1 x2 x3 x4 x5 M) := by
  unfold gn_106
  refine x_iload_n dm_106_0 rfl ?_
  refine x_aload_n dm_106_1 rfl ?_
  refine x_getI dm_106_2 fl_8_93 rfl rfl rfl ?_
  refine x_icmp_ge 30 dm_106_5 rfl (fun c1 => ?_) (fun c1 => ?_)
  · refine x_iconst (0) dm_106_30 (by decide) ?_
    exact x_zretR dm_106_31 rfl (by decide)
  · refine x_aload_n dm_106_8 rfl ?_
    refine x_getRC dm_106_9 fl_8_71 rfl rfl rfl rfl ?_
    refine x_iload_n dm_106_12 rfl ?_
    refine im_chk _ (fun hi2 => ?_)
    refine x_ialoadX _ rfl dm_106_13 rfl (mk_in rfl hi2) ?_
    refine x_iload_n dm_106_14 rfl ?_
    refine x_iload_n dm_106_15 rfl ?_
    refine x_iload dm_106_16 rfl ?_
    refine x_iload dm_106_18 rfl ?_
    refine im_callRI mf_99 rfl (tg_99 x2 x3 x4 x5 M) (im_runS (as := [.inl x2, .inl x3, .inl x4, .inl x5]) (rest := [.inl _]) dm_106_20 mf_99 (Nat.le_of_ble_eq_true rfl) ml_8_116 mi_99 mp_99 (Nat.le_of_ble_eq_true rfl)) rfl (fun b3 hb3 => ?_)
    refine x_icmp_ne 30 dm_106_23 rfl (fun c4 => ?_) (fun c4 => ?_)
    · refine x_iconst (1) dm_106_26 (by decide) ?_
      refine x_goto 31 dm_106_27 rfl ?_
      exact x_zretR dm_106_31 rfl (by decide)
    · refine x_iconst (0) dm_106_30 (by decide) ?_
      exact x_zretR dm_106_31 rfl (by decide)
/-- FencedModulesModel.feed(II)Z -/
def gn_111 (x1 : Int32) (x2 : Int32) (M : im_M) : Option (Int32 × im_M) :=
  (gn_92 x1 (0 : Int32) (2 : Int32) M).bind fun b1 => if b1.1 = 0 then (some ((0 : Int32), b1.2)) else (if st_ib x1 3 then (if (b1.2 2 (x1).toNatClampNeg) = 0 then (some ((0 : Int32), b1.2)) else (if st_ib x1 3 then (if (b1.2 9 (x1).toNatClampNeg) = (12 : Int32) then (some ((0 : Int32), b1.2)) else (if st_ib (((12 : Int32) * x1) + (b1.2 9 (x1).toNatClampNeg)) 36 then (let M8 : im_M := im_u b1.2 8 ((((12 : Int32) * x1) + (b1.2 9 (x1).toNatClampNeg))).toNatClampNeg x2; let M9 : im_M := im_u M8 9 (x1).toNatClampNeg ((M8 9 (x1).toNatClampNeg) + (1 : Int32)); some ((1 : Int32), M9)) else none)) else none)) else none)
set_option maxRecDepth 100000 in
set_option maxHeartbeats 4000000 in
theorem tg_111 (x1 : Int32) (x2 : Int32) (M : im_M) : im_Go zR_I 1 fm_111 0 (im_en 0 [.inr (some 0), .inl x1, .inl x2]) [] (st_hR M) (gn_111 x1 x2 M) := by
  unfold gn_111
  refine x_iload_n dm_111_0 rfl ?_
  refine x_iconst (0) dm_111_1 (by decide) ?_
  refine x_iconst (2) dm_111_2 (by decide) ?_
  refine im_callRI mf_92 rfl (tg_92 x1 (0 : Int32) (2 : Int32) M) (im_runS (as := [.inl x1, .inl (0 : Int32), .inl (2 : Int32)]) (rest := []) dm_111_3 mf_92 (Nat.le_of_ble_eq_true rfl) ml_8_83 mi_92 mp_92 (Nat.le_of_ble_eq_true rfl)) rfl (fun b1 hb1 => ?_)
  refine x_if_eq 29 dm_111_6 rfl (fun c2 => ?_) (fun c2 => ?_)
  · refine x_iconst (0) dm_111_29 (by decide) ?_
    exact x_zretR dm_111_30 rfl (by decide)
  · refine x_aload_n dm_111_9 rfl ?_
    refine x_getRC dm_111_10 fl_8_13 rfl rfl rfl rfl ?_
    refine x_iload_n dm_111_13 rfl ?_
    refine im_chk _ (fun hi3 => ?_)
    refine x_ialoadX _ rfl dm_111_14 rfl (mk_in rfl hi3) ?_
    refine x_if_eq 29 dm_111_15 rfl (fun c4 => ?_) (fun c4 => ?_)
    · refine x_iconst (0) dm_111_29 (by decide) ?_
      exact x_zretR dm_111_30 rfl (by decide)
    · refine x_aload_n dm_111_18 rfl ?_
      refine x_getRC dm_111_19 fl_8_34 rfl rfl rfl rfl ?_
      refine x_iload_n dm_111_22 rfl ?_
      refine im_chk _ (fun hi5 => ?_)
      refine x_ialoadX _ rfl dm_111_23 rfl (mk_in rfl hi5) ?_
      refine x_bipush (12) dm_111_24 (by decide) ?_
      refine x_icmp_ne 31 dm_111_26 rfl (fun c6 => ?_) (fun c6 => ?_)
      · refine x_iconst (0) dm_111_29 (by decide) ?_
        exact x_zretR dm_111_30 rfl (by decide)
      · refine x_aload_n dm_111_31 rfl ?_
        refine x_getRC dm_111_32 fl_8_31 rfl rfl rfl rfl ?_
        refine x_bipush (12) dm_111_35 (by decide) ?_
        refine x_iload_n dm_111_37 rfl ?_
        refine x_imul dm_111_38 ?_
        refine x_aload_n dm_111_39 rfl ?_
        refine x_getRC dm_111_40 fl_8_34 rfl rfl rfl rfl ?_
        refine x_iload_n dm_111_43 rfl ?_
        refine x_ialoadX _ rfl dm_111_44 rfl (mk_in rfl hi5) ?_
        refine x_iadd dm_111_45 ?_
        refine x_iload_n dm_111_46 rfl ?_
        refine im_chk _ (fun hi7 => ?_)
        refine x_iastoreR _ rfl dm_111_47 rfl (mk_in rfl hi7) ?_
        refine x_aload_n dm_111_48 rfl ?_
        refine x_getRC dm_111_49 fl_8_34 rfl rfl rfl rfl ?_
        refine x_iload_n dm_111_52 rfl ?_
        refine x_dup2 dm_111_53 ?_
        refine x_ialoadX _ rfl dm_111_54 rfl (mk_in rfl hi5) ?_
        refine x_iconst (1) dm_111_55 (by decide) ?_
        refine x_iadd dm_111_56 ?_
        refine x_iastoreR _ rfl dm_111_57 rfl (mk_in rfl hi5) ?_
        refine x_iconst (1) dm_111_58 (by decide) ?_
        exact x_zretR dm_111_59 rfl (by decide)
