/-- FencedModulesModel.in(III)Z -/
def fn_92 (x0 : Int32) (x1 : Int32) (x2 : Int32) (h : im_H) : Option (Int32 × im_H) :=
  if x0 < x1 then (some ((0 : Int32), h)) else (if x2 < x0 then (some ((0 : Int32), h)) else (some ((1 : Int32), h)))
set_option maxRecDepth 100000 in
set_option maxHeartbeats 4000000 in
theorem tn_92 (x0 : Int32) (x1 : Int32) (x2 : Int32) (h : im_H) : im_Go im_zI 0 fm_92 0 (im_en 0 [.inl x0, .inl x1, .inl x2]) [] h (fn_92 x0 x1 x2 h) := by
  unfold fn_92
  refine x_iload_n dm_92_0 rfl ?_
  refine x_iload_n dm_92_1 rfl ?_
  refine x_icmp_lt 14 dm_92_2 rfl (fun c1 => ?_) (fun c1 => ?_)
  · refine x_iconst (0) dm_92_14 (by decide) ?_
    exact x_zreturn dm_92_15 rfl (by decide)
  · refine x_iload_n dm_92_5 rfl ?_
    refine x_iload_n dm_92_6 rfl ?_
    refine x_icmp_gt 14 dm_92_7 rfl (fun c2 => ?_) (fun c2 => ?_)
    · refine x_iconst (0) dm_92_14 (by decide) ?_
      exact x_zreturn dm_92_15 rfl (by decide)
    · refine x_iconst (1) dm_92_10 (by decide) ?_
      refine x_goto 15 dm_92_11 rfl ?_
      exact x_zreturn dm_92_15 rfl (by decide)
def fn_95_12 (j : Nat) : Nat → Int32 → im_H → Option (im_H)
  | 0, _, _ => none
  | n + 1, y1, h =>
    if (8 : Int32) ≤ y1 then (some h) else (if h.2.1 j = (0, 8) then (((im_gR h j 21)).bind fun q3 => if im_in h 2 q3 y1 then (let h5 : im_H := im_pI h q3 (y1).toNatClampNeg ((0 : Int32) &&& 1); let v6 : Int32 := (y1 + (1 : Int32)); fn_95_12 j n v6 h5) else none) else none)
set_option maxRecDepth 100000 in
set_option maxHeartbeats 4000000 in
theorem tn_95_12 (j : Nat) : ∀ (n : Nat) (y1 : Int32) (h : im_H), im_Go im_zV 0 fm_95 12 [(0, .inr (some j)), (1, .inl y1)] [] h (fn_95_12 j n y1 h)
  | 0, y1, h => im_none
  | n + 1, y1, h => by
    have ih := tn_95_12 j n
    unfold fn_95_12
    refine x_iload_n dm_95_12 rfl ?_
    refine x_bipush (8) dm_95_13 (by decide) ?_
    refine x_icmp_ge 31 dm_95_15 rfl (fun c1 => ?_) (fun c1 => ?_)
    · exact x_return dm_95_31 rfl
    · refine x_aload_n dm_95_18 rfl ?_
      refine im_chk _ (fun hk2 => ?_)
      refine x_getR dm_95_19 fl_8_64 rfl rfl hk2 ?_
      refine x_iload_n dm_95_22 rfl ?_
      refine x_iconst (0) dm_95_23 (by decide) ?_
      refine im_bind (fun q3 hq3 => ?_)
      refine im_chk _ (fun hi4 => ?_)
      refine x_bastore dm_95_24 hq3 hi4 ?_
      refine x_iinc (1) dm_95_25 rfl (by decide) (Nat.le_of_ble_eq_true rfl) ?_
      refine x_goto 12 dm_95_28 rfl ?_
      exact im_lsub [(0, .inr (some j)), (1, .inl _)] (im_sb_c rfl (im_sb_c rfl im_sb_n)) (ih _ _)
/-- FencedModulesModel.clear()V -/
def fn_95 (j : Nat) (h : im_H) : Option (im_H) :=
  if h.2.1 j = (0, 8) then (let h2 : im_H := im_pI h j 16 (0 : Int32); let h3 : im_H := im_pI h2 j 23 (0 : Int32); fn_95_12 j 1000 (0 : Int32) h3) else none
set_option maxRecDepth 100000 in
set_option maxHeartbeats 4000000 in
theorem tn_95 (j : Nat) (h : im_H) : im_Go im_zV 0 fm_95 0 (im_en 0 [.inr (some j)]) [] h (fn_95 j h) := by
  unfold fn_95
  refine x_aload_n dm_95_0 rfl ?_
  refine x_iconst (0) dm_95_1 (by decide) ?_
  refine im_chk _ (fun hk1 => ?_)
  refine x_putI dm_95_2 fl_8_89 rfl rfl hk1 ?_
  refine x_aload_n dm_95_5 rfl ?_
  refine x_iconst (0) dm_95_6 (by decide) ?_
  refine x_putI dm_95_7 fl_8_93 rfl rfl hk1 ?_
  refine x_iconst (0) dm_95_10 (by decide) ?_
  refine x_istore_n dm_95_11 (Nat.le_of_ble_eq_true rfl) ?_
  exact im_lsub [(0, .inr (some j)), (1, .inl (0 : Int32))] (im_sb_c rfl (im_sb_c rfl im_sb_n)) (tn_95_12 j 1000 (0 : Int32) _)
def fn_96_52 (r4 : Int32 → Int32 → Int32 → im_H → Option (Int32 × im_H)) (j : Nat) (y1 : Int32) (y3 : Int32) (s0 : Int32) (s1 : Int32) (h : im_H) : Option (Int32 × im_H) :=
  let v1 : Int32 := (s1 + s0); let v2 : Int32 := (y3 + (1 : Int32)); r4 y1 v1 v2 h
set_option maxRecDepth 100000 in
set_option maxHeartbeats 4000000 in
theorem tn_96_52 (j : Nat) (r4 : Int32 → Int32 → Int32 → im_H → Option (Int32 × im_H)) (hr4 : ∀ (y1 : Int32) (y2 : Int32) (y3 : Int32) (h : im_H), im_Go im_zI 0 fm_96 4 [(0, .inr (some j)), (1, .inl y1), (2, .inl y2), (3, .inl y3)] [] h (r4 y1 y2 y3 h)) (y1 : Int32) (y3 : Int32) (s0 : Int32) (s1 : Int32) (h : im_H) : im_Go im_zI 0 fm_96 52 [(0, .inr (some j)), (1, .inl y1), (3, .inl y3)] [.inl s0, .inl s1] h (fn_96_52 r4 j y1 y3 s0 s1 h) := by
  unfold fn_96_52
  refine x_iadd dm_96_52 ?_
  refine x_istore_n dm_96_53 (Nat.le_of_ble_eq_true rfl) ?_
  refine x_iinc (1) dm_96_54 rfl (by decide) (Nat.le_of_ble_eq_true rfl) ?_
  refine x_goto 4 dm_96_57 rfl ?_
  exact im_lsub [(0, .inr (some j)), (1, .inl y1), (2, .inl _), (3, .inl _)] (im_sb_c rfl (im_sb_c rfl (im_sb_c rfl (im_sb_c rfl im_sb_n)))) (hr4 y1 _ _ h)
def fn_96_32 (r4 : Int32 → Int32 → Int32 → im_H → Option (Int32 × im_H)) (j : Nat) (y1 : Int32) (y3 : Int32) (s0 : Int32) (h : im_H) : Option (Int32 × im_H) :=
  fn_96_52 r4 j y1 y3 (4 : Int32) s0 h
set_option maxRecDepth 100000 in
set_option maxHeartbeats 4000000 in
theorem tn_96_32 (j : Nat) (r4 : Int32 → Int32 → Int32 → im_H → Option (Int32 × im_H)) (hr4 : ∀ (y1 : Int32) (y2 : Int32) (y3 : Int32) (h : im_H), im_Go im_zI 0 fm_96 4 [(0, .inr (some j)), (1, .inl y1), (2, .inl y2), (3, .inl y3)] [] h (r4 y1 y2 y3 h)) (y1 : Int32) (y3 : Int32) (s0 : Int32) (h : im_H) : im_Go im_zI 0 fm_96 32 [(0, .inr (some j)), (1, .inl y1), (3, .inl y3)] [.inl s0] h (fn_96_32 r4 j y1 y3 s0 h) := by
  unfold fn_96_32
  refine x_iconst (4) dm_96_32 (by decide) ?_
  refine x_goto 52 dm_96_33 rfl ?_
  exact im_lsub [(0, .inr (some j)), (1, .inl y1), (3, .inl y3)] (im_sb_c rfl (im_sb_c rfl (im_sb_c rfl im_sb_n))) (tn_96_52 j r4 hr4 y1 y3 (4 : Int32) s0 h)
def fn_96_4 (j : Nat) : Nat → Int32 → Int32 → Int32 → im_H → Option (Int32 × im_H)
  | 0, _, _, _, _ => none
  | n + 1, y1, y2, y3, h =>
    if y1 ≤ y3 then (some (y2, h)) else (if h.2.1 j = (0, 8) then (((im_gR h j 17)).bind fun q3 => if im_in h 1 q3 y3 then (if (im_gI h q3 (y3).toNatClampNeg) = (8 : Int32) then (fn_96_32 (fn_96_4 j n) j y1 y3 y2 h) else (if (im_gI h q3 (y3).toNatClampNeg) = (9 : Int32) then (fn_96_32 (fn_96_4 j n) j y1 y3 y2 h) else (if (im_gI h q3 (y3).toNatClampNeg) = (13 : Int32) then (fn_96_52 (fn_96_4 j n) j y1 y3 (3 : Int32) y2 h) else (fn_96_52 (fn_96_4 j n) j y1 y3 (1 : Int32) y2 h)))) else none) else none)
set_option maxRecDepth 100000 in
set_option maxHeartbeats 4000000 in
theorem tn_96_4 (j : Nat) : ∀ (n : Nat) (y1 : Int32) (y2 : Int32) (y3 : Int32) (h : im_H), im_Go im_zI 0 fm_96 4 [(0, .inr (some j)), (1, .inl y1), (2, .inl y2), (3, .inl y3)] [] h (fn_96_4 j n y1 y2 y3 h)
  | 0, y1, y2, y3, h => im_none
  | n + 1, y1, y2, y3, h => by
    have ih := tn_96_4 j n
    unfold fn_96_4
    refine x_iload_n dm_96_4 rfl ?_
    refine x_iload_n dm_96_5 rfl ?_
    refine x_icmp_ge 60 dm_96_6 rfl (fun c1 => ?_) (fun c1 => ?_)
    · refine x_iload_n dm_96_60 rfl ?_
      exact x_ireturn dm_96_61 rfl
    · refine x_iload_n dm_96_9 rfl ?_
      refine x_aload_n dm_96_10 rfl ?_
      refine im_chk _ (fun hk2 => ?_)
      refine x_getR dm_96_11 fl_8_52 rfl rfl hk2 ?_
      refine x_iload_n dm_96_14 rfl ?_
      refine im_bind (fun q3 hq3 => ?_)
      refine im_chk _ (fun hi4 => ?_)
      refine x_iaload dm_96_15 hq3 hi4 ?_
      refine x_bipush (8) dm_96_16 (by decide) ?_
      refine x_icmp_eq 32 dm_96_18 rfl (fun c5 => ?_) (fun c5 => ?_)
      · exact im_lsub [(0, .inr (some j)), (1, .inl y1), (3, .inl y3)] (im_sb_c rfl (im_sb_c rfl (im_sb_c rfl im_sb_n))) (tn_96_32 j (fn_96_4 j n) ih y1 y3 y2 h)
      · refine x_aload_n dm_96_21 rfl ?_
        refine x_getR dm_96_22 fl_8_52 rfl rfl hk2 ?_
        refine x_iload_n dm_96_25 rfl ?_
        refine x_iaload dm_96_26 hq3 hi4 ?_
        refine x_bipush (9) dm_96_27 (by decide) ?_
        refine x_icmp_ne 36 dm_96_29 rfl (fun c6 => ?_) (fun c6 => ?_)
        · exact im_lsub [(0, .inr (some j)), (1, .inl y1), (3, .inl y3)] (im_sb_c rfl (im_sb_c rfl (im_sb_c rfl im_sb_n))) (tn_96_32 j (fn_96_4 j n) ih y1 y3 y2 h)
        · refine x_aload_n dm_96_36 rfl ?_
          refine x_getR dm_96_37 fl_8_52 rfl rfl hk2 ?_
          refine x_iload_n dm_96_40 rfl ?_
          refine x_iaload dm_96_41 hq3 hi4 ?_
          refine x_bipush (13) dm_96_42 (by decide) ?_
          refine x_icmp_ne 51 dm_96_44 rfl (fun c7 => ?_) (fun c7 => ?_)
          · refine x_iconst (3) dm_96_47 (by decide) ?_
            refine x_goto 52 dm_96_48 rfl ?_
            exact im_lsub [(0, .inr (some j)), (1, .inl y1), (3, .inl y3)] (im_sb_c rfl (im_sb_c rfl (im_sb_c rfl im_sb_n))) (tn_96_52 j (fn_96_4 j n) ih y1 y3 (3 : Int32) y2 h)
          · refine x_iconst (1) dm_96_51 (by decide) ?_
            exact im_lsub [(0, .inr (some j)), (1, .inl y1), (3, .inl y3)] (im_sb_c rfl (im_sb_c rfl (im_sb_c rfl im_sb_n))) (tn_96_52 j (fn_96_4 j n) ih y1 y3 (1 : Int32) y2 h)
/-- FencedModulesModel.first(I)I -/
def fn_96 (j : Nat) (x1 : Int32) (h : im_H) : Option (Int32 × im_H) :=
  fn_96_4 j 1000 x1 (0 : Int32) (0 : Int32) h
set_option maxRecDepth 100000 in
set_option maxHeartbeats 4000000 in
theorem tn_96 (j : Nat) (x1 : Int32) (h : im_H) : im_Go im_zI 0 fm_96 0 (im_en 0 [.inr (some j), .inl x1]) [] h (fn_96 j x1 h) := by
  unfold fn_96
  refine x_iconst (0) dm_96_0 (by decide) ?_
  refine x_istore_n dm_96_1 (Nat.le_of_ble_eq_true rfl) ?_
  refine x_iconst (0) dm_96_2 (by decide) ?_
  refine x_istore_n dm_96_3 (Nat.le_of_ble_eq_true rfl) ?_
  exact im_lsub [(0, .inr (some j)), (1, .inl x1), (2, .inl (0 : Int32)), (3, .inl (0 : Int32))] (im_sb_c rfl (im_sb_c rfl (im_sb_c rfl (im_sb_c rfl im_sb_n)))) (tn_96_4 j 1000 x1 (0 : Int32) (0 : Int32) h)
/-- FencedModulesModel.code(IIII)I -/
def fn_99 (x0 : Int32) (x1 : Int32) (x2 : Int32) (x3 : Int32) (h : im_H) : Option (Int32 × im_H) :=
  some ((((x0 ||| (x1 <<< ((4 : Int32) &&& 31))) ||| (x2 <<< ((7 : Int32) &&& 31))) ||| (x3 <<< ((10 : Int32) &&& 31))), h)
set_option maxRecDepth 100000 in
set_option maxHeartbeats 4000000 in
theorem tn_99 (x0 : Int32) (x1 : Int32) (x2 : Int32) (x3 : Int32) (h : im_H) : im_Go im_zI 0 fm_99 0 (im_en 0 [.inl x0, .inl x1, .inl x2, .inl x3]) [] h (fn_99 x0 x1 x2 x3 h) := by
  unfold fn_99
  refine x_iload_n dm_99_0 rfl ?_
  refine x_iload_n dm_99_1 rfl ?_
  refine x_iconst (4) dm_99_2 (by decide) ?_
  refine x_ishl dm_99_3 ?_
  refine x_ior dm_99_4 ?_
  refine x_iload_n dm_99_5 rfl ?_
  refine x_bipush (7) dm_99_6 (by decide) ?_
  refine x_ishl dm_99_8 ?_
  refine x_ior dm_99_9 ?_
  refine x_iload_n dm_99_10 rfl ?_
  refine x_bipush (10) dm_99_11 (by decide) ?_
  refine x_ishl dm_99_13 ?_
  refine x_ior dm_99_14 ?_
  exact x_ireturn dm_99_15 rfl
/-- FencedModulesModel.add(I)V -/
def fn_100 (j : Nat) (x1 : Int32) (h : im_H) : Option (im_H) :=
  if h.2.1 j = (0, 8) then (((im_gR h j 24)).bind fun q2 => if im_in h 1 q2 (im_gI h j 23) then (let h4 : im_H := im_pI h q2 ((im_gI h j 23)).toNatClampNeg x1; let h5 : im_H := im_pI h4 j 23 ((im_gI h4 j 23) + (1 : Int32)); some h5) else none) else none
set_option maxRecDepth 100000 in
set_option maxHeartbeats 4000000 in
theorem tn_100 (j : Nat) (x1 : Int32) (h : im_H) : im_Go im_zV 0 fm_100 0 (im_en 0 [.inr (some j), .inl x1]) [] h (fn_100 j x1 h) := by
  unfold fn_100
  refine x_aload_n dm_100_0 rfl ?_
  refine im_chk _ (fun hk1 => ?_)
  refine x_getR dm_100_1 fl_8_71 rfl rfl hk1 ?_
  refine x_aload_n dm_100_4 rfl ?_
  refine x_getI dm_100_5 fl_8_93 rfl rfl hk1 ?_
  refine x_iload_n dm_100_8 rfl ?_
  refine im_bind (fun q2 hq2 => ?_)
  refine im_chk _ (fun hi3 => ?_)
  refine x_iastore dm_100_9 hq2 hi3 ?_
  refine x_aload_n dm_100_10 rfl ?_
  refine x_dup dm_100_11 ?_
  refine x_getI dm_100_12 fl_8_93 rfl rfl hk1 ?_
  refine x_iconst (1) dm_100_15 (by decide) ?_
  refine x_iadd dm_100_16 ?_
  refine x_putI dm_100_17 fl_8_93 rfl rfl hk1 ?_
  exact x_return dm_100_20 rfl
/-- FencedModulesModel.put(II)V -/
def fn_112 (j : Nat) (x1 : Int32) (x2 : Int32) (h : im_H) : Option (im_H) :=
  if h.2.1 j = (0, 8) then (((im_gR h j 11)).bind fun q2 => if im_in h 1 q2 x1 then (((im_gR h j 10)).bind fun q4 => if im_in h 1 q4 (((8 : Int32) * x1) + ((im_gI h q2 (x1).toNatClampNeg) &&& (7 : Int32))) then (let h6 : im_H := im_pI h q4 ((((8 : Int32) * x1) + ((im_gI h q2 (x1).toNatClampNeg) &&& (7 : Int32)))).toNatClampNeg x2; let h7 : im_H := im_pI h6 q2 (x1).toNatClampNeg ((im_gI h6 q2 (x1).toNatClampNeg) + (1 : Int32)); some h7) else none) else none) else none
set_option maxRecDepth 100000 in
set_option maxHeartbeats 4000000 in
theorem tn_112 (j : Nat) (x1 : Int32) (x2 : Int32) (h : im_H) : im_Go im_zV 0 fm_112 0 (im_en 0 [.inr (some j), .inl x1, .inl x2]) [] h (fn_112 j x1 x2 h) := by
  unfold fn_112
  refine x_aload_n dm_112_0 rfl ?_
  refine im_chk _ (fun hk1 => ?_)
  refine x_getR dm_112_1 fl_8_40 rfl rfl hk1 ?_
  refine x_bipush (8) dm_112_4 (by decide) ?_
  refine x_iload_n dm_112_6 rfl ?_
  refine x_imul dm_112_7 ?_
  refine x_aload_n dm_112_8 rfl ?_
  refine x_getR dm_112_9 fl_8_43 rfl rfl hk1 ?_
  refine x_iload_n dm_112_12 rfl ?_
  refine im_bind (fun q2 hq2 => ?_)
  refine im_chk _ (fun hi3 => ?_)
  refine x_iaload dm_112_13 hq2 hi3 ?_
  refine x_bipush (7) dm_112_14 (by decide) ?_
  refine x_iand dm_112_16 ?_
  refine x_iadd dm_112_17 ?_
  refine x_iload_n dm_112_18 rfl ?_
  refine im_bind (fun q4 hq4 => ?_)
  refine im_chk _ (fun hi5 => ?_)
  refine x_iastore dm_112_19 hq4 hi5 ?_
  refine x_aload_n dm_112_20 rfl ?_
  refine x_getR dm_112_21 fl_8_43 rfl rfl hk1 ?_
  refine x_iload_n dm_112_24 rfl ?_
  refine x_dup2 dm_112_25 ?_
  refine x_iaload dm_112_26 hq2 hi3 ?_
  refine x_iconst (1) dm_112_27 (by decide) ?_
  refine x_iadd dm_112_28 ?_
  refine x_iastore dm_112_29 hq2 hi3 ?_
  exact x_return dm_112_30 rfl
def fn_113_55 (j : Nat) (y1 : Int32) (h : im_H) : Option (im_H) :=
  if h.2.1 j = (0, 8) then (((im_gR h j 12)).bind fun q2 => if im_in h 1 q2 y1 then (let h4 : im_H := im_pI h q2 (y1).toNatClampNeg ((im_gI h q2 (y1).toNatClampNeg) + (1 : Int32)); some h4) else none) else none
set_option maxRecDepth 100000 in
set_option maxHeartbeats 4000000 in
theorem tn_113_55 (j : Nat) (y1 : Int32) (h : im_H) : im_Go im_zV 0 fm_113 55 [(0, .inr (some j)), (1, .inl y1)] [] h (fn_113_55 j y1 h) := by
  unfold fn_113_55
  refine x_aload_n dm_113_55 rfl ?_
  refine im_chk _ (fun hk1 => ?_)
  refine x_getR dm_113_56 fl_8_46 rfl rfl hk1 ?_
  refine x_iload_n dm_113_59 rfl ?_
  refine x_dup2 dm_113_60 ?_
  refine im_bind (fun q2 hq2 => ?_)
  refine im_chk _ (fun hi3 => ?_)
  refine x_iaload dm_113_61 hq2 hi3 ?_
  refine x_iconst (1) dm_113_62 (by decide) ?_
  refine x_iadd dm_113_63 ?_
  refine x_iastore dm_113_64 hq2 hi3 ?_
  exact x_return dm_113_65 rfl
/-- FencedModulesModel.note(IIII)V -/
def fn_113 (j : Nat) (x1 : Int32) (x2 : Int32) (x3 : Int32) (x4 : Int32) (h : im_H) : Option (im_H) :=
  if h.2.1 j = (0, 8) then (((im_gR h j 12)).bind fun q2 => if im_in h 1 q2 x1 then (if (16 : Int32) ≤ (im_gI h q2 (x1).toNatClampNeg) then (fn_113_55 j x1 h) else (let v5 : Int32 := (((48 : Int32) * x1) + ((3 : Int32) * (im_gI h q2 (x1).toNatClampNeg))); ((im_gR h j 13)).bind fun q6 => if im_in h 1 q6 v5 then (let h8 : im_H := im_pI h q6 (v5).toNatClampNeg x2; if im_in h 1 q6 (v5 + (1 : Int32)) then (let h10 : im_H := im_pI h8 q6 ((v5 + (1 : Int32))).toNatClampNeg x3; if im_in h 1 q6 (v5 + (2 : Int32)) then (let h12 : im_H := im_pI h10 q6 ((v5 + (2 : Int32))).toNatClampNeg x4; fn_113_55 j x1 h12) else none) else none) else none)) else none) else none
set_option maxRecDepth 100000 in
set_option maxHeartbeats 4000000 in
theorem tn_113 (j : Nat) (x1 : Int32) (x2 : Int32) (x3 : Int32) (x4 : Int32) (h : im_H) : im_Go im_zV 0 fm_113 0 (im_en 0 [.inr (some j), .inl x1, .inl x2, .inl x3, .inl x4]) [] h (fn_113 j x1 x2 x3 x4 h) := by
  unfold fn_113
  refine x_aload_n dm_113_0 rfl ?_
  refine im_chk _ (fun hk1 => ?_)
  refine x_getR dm_113_1 fl_8_46 rfl rfl hk1 ?_
  refine x_iload_n dm_113_4 rfl ?_
  refine im_bind (fun q2 hq2 => ?_)
  refine im_chk _ (fun hi3 => ?_)
  refine x_iaload dm_113_5 hq2 hi3 ?_
  refine x_bipush (16) dm_113_6 (by decide) ?_
  refine x_icmp_ge 55 dm_113_8 rfl (fun c4 => ?_) (fun c4 => ?_)
  · exact im_lsub [(0, .inr (some j)), (1, .inl x1)] (im_sb_c rfl (im_sb_c rfl im_sb_n)) (tn_113_55 j x1 h)
  · refine x_bipush (48) dm_113_11 (by decide) ?_
    refine x_iload_n dm_113_13 rfl ?_
    refine x_imul dm_113_14 ?_
    refine x_iconst (3) dm_113_15 (by decide) ?_
    refine x_aload_n dm_113_16 rfl ?_
    refine x_getR dm_113_17 fl_8_46 rfl rfl hk1 ?_
    refine x_iload_n dm_113_20 rfl ?_
    refine x_iaload dm_113_21 hq2 hi3 ?_
    refine x_imul dm_113_22 ?_
    refine x_iadd dm_113_23 ?_
    refine x_istore dm_113_24 (Nat.le_of_ble_eq_true rfl) ?_
    refine x_aload_n dm_113_26 rfl ?_
    refine x_getR dm_113_27 fl_8_49 rfl rfl hk1 ?_
    refine x_iload dm_113_30 rfl ?_
    refine x_iload_n dm_113_32 rfl ?_
    refine im_bind (fun q6 hq6 => ?_)
    refine im_chk _ (fun hi7 => ?_)
    refine x_iastore dm_113_33 hq6 hi7 ?_
    refine x_aload_n dm_113_34 rfl ?_
    refine x_getR dm_113_35 fl_8_49 rfl rfl hk1 ?_
    refine x_iload dm_113_38 rfl ?_
    refine x_iconst (1) dm_113_40 (by decide) ?_
    refine x_iadd dm_113_41 ?_
    refine x_iload_n dm_113_42 rfl ?_
    refine im_chk _ (fun hi9 => ?_)
    refine x_iastore dm_113_43 hq6 hi9 ?_
    refine x_aload_n dm_113_44 rfl ?_
    refine x_getR dm_113_45 fl_8_49 rfl rfl hk1 ?_
    refine x_iload dm_113_48 rfl ?_
    refine x_iconst (2) dm_113_50 (by decide) ?_
    refine x_iadd dm_113_51 ?_
    refine x_iload dm_113_52 rfl ?_
    refine im_chk _ (fun hi11 => ?_)
    refine x_iastore dm_113_54 hq6 hi11 ?_
    exact im_lsub [(0, .inr (some j)), (1, .inl x1)] (im_sb_c rfl (im_sb_c rfl im_sb_n)) (tn_113_55 j x1 _)
def fn_117_25 (h : im_H) : Option (Int32 × im_H) :=
  some ((1 : Int32), h)
set_option maxRecDepth 100000 in
set_option maxHeartbeats 4000000 in
theorem tn_117_25 (h : im_H) : im_Go im_zI 0 fm_117 25 [] [] h (fn_117_25 h) := by
  unfold fn_117_25
  refine x_iconst (1) dm_117_25 (by decide) ?_
  refine x_goto 30 dm_117_26 rfl ?_
  exact x_zreturn dm_117_30 rfl (by decide)
/-- FencedModulesModel.goes(III)Z -/
def fn_117 (x0 : Int32) (x1 : Int32) (x2 : Int32) (h : im_H) : Option (Int32 × im_H) :=
  if x0 = (12 : Int32) then (fn_117_25 h) else (if x0 = (10 : Int32) then (if x1 = x2 then (fn_117_25 h) else (some ((0 : Int32), h))) else (if x2 ≤ x1 then (some ((0 : Int32), h)) else (fn_117_25 h)))
set_option maxRecDepth 100000 in
set_option maxHeartbeats 4000000 in
theorem tn_117 (x0 : Int32) (x1 : Int32) (x2 : Int32) (h : im_H) : im_Go im_zI 0 fm_117 0 (im_en 0 [.inl x0, .inl x1, .inl x2]) [] h (fn_117 x0 x1 x2 h) := by
  unfold fn_117
  refine x_iload_n dm_117_0 rfl ?_
  refine x_bipush (12) dm_117_1 (by decide) ?_
  refine x_icmp_eq 25 dm_117_3 rfl (fun c1 => ?_) (fun c1 => ?_)
  · exact im_lsub [] im_sb_n (tn_117_25 h)
  · refine x_iload_n dm_117_6 rfl ?_
    refine x_bipush (10) dm_117_7 (by decide) ?_
    refine x_icmp_ne 20 dm_117_9 rfl (fun c2 => ?_) (fun c2 => ?_)
    · refine x_iload_n dm_117_12 rfl ?_
      refine x_iload_n dm_117_13 rfl ?_
      refine x_icmp_ne 29 dm_117_14 rfl (fun c3 => ?_) (fun c3 => ?_)
      · refine x_goto 25 dm_117_17 rfl ?_
        exact im_lsub [] im_sb_n (tn_117_25 h)
      · refine x_iconst (0) dm_117_29 (by decide) ?_
        exact x_zreturn dm_117_30 rfl (by decide)
    · refine x_iload_n dm_117_20 rfl ?_
      refine x_iload_n dm_117_21 rfl ?_
      refine x_icmp_ge 29 dm_117_22 rfl (fun c4 => ?_) (fun c4 => ?_)
      · refine x_iconst (0) dm_117_29 (by decide) ?_
        exact x_zreturn dm_117_30 rfl (by decide)
      · exact im_lsub [] im_sb_n (tn_117_25 h)
/-- FencedModulesModel.value(IIII)I -/
def fn_118 (x0 : Int32) (x1 : Int32) (x2 : Int32) (x3 : Int32) (h : im_H) : Option (Int32 × im_H) :=
  if x0 = 1 then (some (x3, h)) else (if x0 = 2 then (some ((x2 + x3), h)) else (if x0 = 3 then (some ((x1 + x2), h)) else (if x0 = 4 then (some ((x1 - x2), h)) else (if x0 = 5 then (some ((x1 ^^^ x2), h)) else (if x0 = 6 then (some ((x2 &&& x3), h)) else (some ((x2 ||| x3), h)))))))
set_option maxRecDepth 100000 in
set_option maxHeartbeats 4000000 in
theorem tn_118 (x0 : Int32) (x1 : Int32) (x2 : Int32) (x3 : Int32) (h : im_H) : im_Go im_zI 0 fm_118 0 (im_en 0 [.inl x0, .inl x1, .inl x2, .inl x3]) [] h (fn_118 x0 x1 x2 x3 h) := by
  unfold fn_118
  refine x_iload_n dm_118_0 rfl ?_
  refine im_test _ (fun c1 => ?_) (fun c1 => ?_)
  · refine x_tabIn 1 40 dm_118_1 c1 (by decide) (by decide) rfl rfl ?_
    refine x_iload_n dm_118_40 rfl ?_
    exact x_ireturn dm_118_41 rfl
  refine im_test _ (fun c2 => ?_) (fun c2 => ?_)
  · refine x_tabIn 2 42 dm_118_1 c2 (by decide) (by decide) rfl rfl ?_
    refine x_iload_n dm_118_42 rfl ?_
    refine x_iload_n dm_118_43 rfl ?_
    refine x_iadd dm_118_44 ?_
    exact x_ireturn dm_118_45 rfl
  refine im_test _ (fun c3 => ?_) (fun c3 => ?_)
  · refine x_tabIn 3 46 dm_118_1 c3 (by decide) (by decide) rfl rfl ?_
    refine x_iload_n dm_118_46 rfl ?_
    refine x_iload_n dm_118_47 rfl ?_
    refine x_iadd dm_118_48 ?_
    exact x_ireturn dm_118_49 rfl
  refine im_test _ (fun c4 => ?_) (fun c4 => ?_)
  · refine x_tabIn 4 50 dm_118_1 c4 (by decide) (by decide) rfl rfl ?_
    refine x_iload_n dm_118_50 rfl ?_
    refine x_iload_n dm_118_51 rfl ?_
    refine x_isub dm_118_52 ?_
    exact x_ireturn dm_118_53 rfl
  refine im_test _ (fun c5 => ?_) (fun c5 => ?_)
  · refine x_tabIn 5 54 dm_118_1 c5 (by decide) (by decide) rfl rfl ?_
    refine x_iload_n dm_118_54 rfl ?_
    refine x_iload_n dm_118_55 rfl ?_
    refine x_ixor dm_118_56 ?_
    exact x_ireturn dm_118_57 rfl
  refine im_test _ (fun c6 => ?_) (fun c6 => ?_)
  · refine x_tabIn 6 58 dm_118_1 c6 (by decide) (by decide) rfl rfl ?_
    refine x_iload_n dm_118_58 rfl ?_
    refine x_iload_n dm_118_59 rfl ?_
    refine x_iand dm_118_60 ?_
    exact x_ireturn dm_118_61 rfl
  refine x_tabOut 62 dm_118_1 (im_swout (1) 6 (by decide) (by decide) (fun i hi => match i, hi with | 0, _ => c1 | 1, _ => c2 | 2, _ => c3 | 3, _ => c4 | 4, _ => c5 | 5, _ => c6 | i + 6, hi => absurd hi (by omega))) rfl ?_
  refine x_iload_n dm_118_62 rfl ?_
  refine x_iload_n dm_118_63 rfl ?_
  refine x_ior dm_118_64 ?_
  exact x_ireturn dm_118_65 rfl
def fn_119_19 (j : Nat) (s0 : Int32) (s1 : Option Nat) (h : im_H) : Option (im_H) :=
  (s1).bind fun q1 => if h.2.1 q1 = (0, 8) then (let h3 : im_H := im_pI h q1 14 s0; if h.2.1 j = (0, 8) then (let h5 : im_H := im_pI h3 j 15 (0 : Int32); some h5) else none) else none
set_option maxRecDepth 100000 in
set_option maxHeartbeats 4000000 in
theorem tn_119_19 (j : Nat) (s0 : Int32) (s1 : Option Nat) (h : im_H) : im_Go im_zV 0 fm_119 19 [(0, .inr (some j))] [.inl s0, .inr s1] h (fn_119_19 j s0 s1 h) := by
  unfold fn_119_19
  refine im_bind (fun q1 hq1 => ?_)
  refine im_chk _ (fun hk2 => ?_)
  refine x_putI dm_119_19 fl_8_138 rfl hq1 hk2 ?_
  refine x_aload_n dm_119_22 rfl ?_
  refine x_iconst (0) dm_119_23 (by decide) ?_
  refine im_chk _ (fun hk4 => ?_)
  refine x_putI dm_119_24 fl_8_141 rfl rfl hk4 ?_
  exact x_return dm_119_27 rfl
/-- FencedModulesModel.pass()V -/
def fn_119 (j : Nat) (h : im_H) : Option (im_H) :=
  if h.2.1 j = (0, 8) then (if (im_gI h j 14) = (2 : Int32) then (fn_119_19 j (0 : Int32) (some j) h) else (fn_119_19 j ((im_gI h j 14) + (1 : Int32)) (some j) h)) else none
set_option maxRecDepth 100000 in
set_option maxHeartbeats 4000000 in
theorem tn_119 (j : Nat) (h : im_H) : im_Go im_zV 0 fm_119 0 (im_en 0 [.inr (some j)]) [] h (fn_119 j h) := by
  unfold fn_119
  refine x_aload_n dm_119_0 rfl ?_
  refine x_aload_n dm_119_1 rfl ?_
  refine im_chk _ (fun hk1 => ?_)
  refine x_getI dm_119_2 fl_8_138 rfl rfl hk1 ?_
  refine x_iconst (2) dm_119_5 (by decide) ?_
  refine x_icmp_ne 13 dm_119_6 rfl (fun c2 => ?_) (fun c2 => ?_)
  · refine x_iconst (0) dm_119_9 (by decide) ?_
    refine x_goto 19 dm_119_10 rfl ?_
    exact im_lsub [(0, .inr (some j))] (im_sb_c rfl im_sb_n) (tn_119_19 j (0 : Int32) (some j) h)
  · refine x_aload_n dm_119_13 rfl ?_
    refine x_getI dm_119_14 fl_8_138 rfl rfl hk1 ?_
    refine x_iconst (1) dm_119_17 (by decide) ?_
    refine x_iadd dm_119_18 ?_
    exact im_lsub [(0, .inr (some j))] (im_sb_c rfl im_sb_n) (tn_119_19 j _ (some j) h)
def fn_121_30 (r5 : Int32 → Int32 → Int32 → im_H → Option (Int32 × im_H)) (j : Nat) (y2 : Int32) (y4 : Int32) (s0 : Int32) (h : im_H) : Option (Int32 × im_H) :=
  let v1 : Int32 := (y4 + (1 : Int32)); r5 y2 s0 v1 h
set_option maxRecDepth 100000 in
set_option maxHeartbeats 4000000 in
theorem tn_121_30 (j : Nat) (r5 : Int32 → Int32 → Int32 → im_H → Option (Int32 × im_H)) (hr5 : ∀ (y2 : Int32) (y3 : Int32) (y4 : Int32) (h : im_H), im_Go im_zI 0 fm_121 5 [(0, .inr (some j)), (2, .inl y2), (3, .inl y3), (4, .inl y4)] [] h (r5 y2 y3 y4 h)) (y2 : Int32) (y4 : Int32) (s0 : Int32) (h : im_H) : im_Go im_zI 0 fm_121 30 [(0, .inr (some j)), (2, .inl y2), (4, .inl y4)] [.inl s0] h (fn_121_30 r5 j y2 y4 s0 h) := by
  unfold fn_121_30
  refine x_istore_n dm_121_30 (Nat.le_of_ble_eq_true rfl) ?_
  refine x_iinc (1) dm_121_31 rfl (by decide) (Nat.le_of_ble_eq_true rfl) ?_
  refine x_goto 5 dm_121_34 rfl ?_
  exact im_lsub [(0, .inr (some j)), (2, .inl y2), (3, .inl s0), (4, .inl _)] (im_sb_c rfl (im_sb_c rfl (im_sb_c rfl (im_sb_c rfl im_sb_n)))) (hr5 y2 s0 _ h)
def fn_121_25 (r5 : Int32 → Int32 → Int32 → im_H → Option (Int32 × im_H)) (j : Nat) (y2 : Int32) (y4 : Int32) (h : im_H) : Option (Int32 × im_H) :=
  fn_121_30 r5 j y2 y4 (1 : Int32) h
set_option maxRecDepth 100000 in
set_option maxHeartbeats 4000000 in
theorem tn_121_25 (j : Nat) (r5 : Int32 → Int32 → Int32 → im_H → Option (Int32 × im_H)) (hr5 : ∀ (y2 : Int32) (y3 : Int32) (y4 : Int32) (h : im_H), im_Go im_zI 0 fm_121 5 [(0, .inr (some j)), (2, .inl y2), (3, .inl y3), (4, .inl y4)] [] h (r5 y2 y3 y4 h)) (y2 : Int32) (y4 : Int32) (h : im_H) : im_Go im_zI 0 fm_121 25 [(0, .inr (some j)), (2, .inl y2), (4, .inl y4)] [] h (fn_121_25 r5 j y2 y4 h) := by
  unfold fn_121_25
  refine x_iconst (1) dm_121_25 (by decide) ?_
  refine x_goto 30 dm_121_26 rfl ?_
  exact im_lsub [(0, .inr (some j)), (2, .inl y2), (4, .inl y4)] (im_sb_c rfl (im_sb_c rfl (im_sb_c rfl im_sb_n))) (tn_121_30 j r5 hr5 y2 y4 (1 : Int32) h)
def fn_121_5 (j : Nat) : Nat → Int32 → Int32 → Int32 → im_H → Option (Int32 × im_H)
  | 0, _, _, _, _ => none
  | n + 1, y2, y3, y4, h =>
    if y2 ≤ y4 then (if y3 &&& 1 = y3 then some (y3, h) else none) else (if y3 = 0 then (if h.2.1 j = (0, 8) then (((im_gR h j 26)).bind fun q5 => if im_in h 2 q5 y4 then (if (im_gI h q5 (y4).toNatClampNeg) = 0 then (fn_121_30 (fn_121_5 j n) j y2 y4 (0 : Int32) h) else (fn_121_25 (fn_121_5 j n) j y2 y4 h)) else none) else none) else (fn_121_25 (fn_121_5 j n) j y2 y4 h))
set_option maxRecDepth 100000 in
set_option maxHeartbeats 4000000 in
theorem tn_121_5 (j : Nat) : ∀ (n : Nat) (y2 : Int32) (y3 : Int32) (y4 : Int32) (h : im_H), im_Go im_zI 0 fm_121 5 [(0, .inr (some j)), (2, .inl y2), (3, .inl y3), (4, .inl y4)] [] h (fn_121_5 j n y2 y3 y4 h)
  | 0, y2, y3, y4, h => im_none
  | n + 1, y2, y3, y4, h => by
    have ih := tn_121_5 j n
    unfold fn_121_5
    refine x_iload dm_121_5 rfl ?_
    refine x_iload_n dm_121_7 rfl ?_
    refine x_icmp_ge 37 dm_121_8 rfl (fun c1 => ?_) (fun c1 => ?_)
    · refine x_iload_n dm_121_37 rfl ?_
      refine im_chk _ (fun hz2 => ?_)
      exact x_zreturn dm_121_38 rfl hz2
    · refine x_iload_n dm_121_11 rfl ?_
      refine x_if_ne 25 dm_121_12 rfl (fun c3 => ?_) (fun c3 => ?_)
      · refine x_aload_n dm_121_15 rfl ?_
        refine im_chk _ (fun hk4 => ?_)
        refine x_getR dm_121_16 fl_8_77 rfl rfl hk4 ?_
        refine x_iload dm_121_19 rfl ?_
        refine im_bind (fun q5 hq5 => ?_)
        refine im_chk _ (fun hi6 => ?_)
        refine x_baload dm_121_21 hq5 hi6 ?_
        refine x_if_eq 29 dm_121_22 rfl (fun c7 => ?_) (fun c7 => ?_)
        · refine x_iconst (0) dm_121_29 (by decide) ?_
          exact im_lsub [(0, .inr (some j)), (2, .inl y2), (4, .inl y4)] (im_sb_c rfl (im_sb_c rfl (im_sb_c rfl im_sb_n))) (tn_121_30 j (fn_121_5 j n) ih y2 y4 (0 : Int32) h)
        · exact im_lsub [(0, .inr (some j)), (2, .inl y2), (4, .inl y4)] (im_sb_c rfl (im_sb_c rfl (im_sb_c rfl im_sb_n))) (tn_121_25 j (fn_121_5 j n) ih y2 y4 h)
      · exact im_lsub [(0, .inr (some j)), (2, .inl y2), (4, .inl y4)] (im_sb_c rfl (im_sb_c rfl (im_sb_c rfl im_sb_n))) (tn_121_25 j (fn_121_5 j n) ih y2 y4 h)
/-- FencedModulesModel.anyNamed(II)Z -/
def fn_121 (j : Nat) (x1 : Int32) (x2 : Int32) (h : im_H) : Option (Int32 × im_H) :=
  fn_121_5 j 1000 x2 (0 : Int32) x1 h
set_option maxRecDepth 100000 in
set_option maxHeartbeats 4000000 in
theorem tn_121 (j : Nat) (x1 : Int32) (x2 : Int32) (h : im_H) : im_Go im_zI 0 fm_121 0 (im_en 0 [.inr (some j), .inl x1, .inl x2]) [] h (fn_121 j x1 x2 h) := by
  unfold fn_121
  refine x_iconst (0) dm_121_0 (by decide) ?_
  refine x_istore_n dm_121_1 (Nat.le_of_ble_eq_true rfl) ?_
  refine x_iload_n dm_121_2 rfl ?_
  refine x_istore dm_121_3 (Nat.le_of_ble_eq_true rfl) ?_
  exact im_lsub [(0, .inr (some j)), (2, .inl x2), (3, .inl (0 : Int32)), (4, .inl x1)] (im_sb_c rfl (im_sb_c rfl (im_sb_c rfl (im_sb_c rfl im_sb_n)))) (tn_121_5 j 1000 x2 (0 : Int32) x1 h)
/-- FencedModulesModel.become(IIZ)V -/
def fn_122 (j : Nat) (x1 : Int32) (x2 : Int32) (x3 : Int32) (h : im_H) : Option (im_H) :=
  if h.2.1 j = (0, 8) then (((im_gR h j 25)).bind fun q2 => if im_in h 1 q2 x1 then (let h4 : im_H := im_pI h q2 (x1).toNatClampNeg x2; ((im_gR h j 26)).bind fun q5 => if im_in h 2 q5 x1 then (let h7 : im_H := im_pI h4 q5 (x1).toNatClampNeg (x3 &&& 1); some h7) else none) else none) else none
set_option maxRecDepth 100000 in
set_option maxHeartbeats 4000000 in
theorem tn_122 (j : Nat) (x1 : Int32) (x2 : Int32) (x3 : Int32) (h : im_H) : im_Go im_zV 0 fm_122 0 (im_en 0 [.inr (some j), .inl x1, .inl x2, .inl x3]) [] h (fn_122 j x1 x2 x3 h) := by
  unfold fn_122
  refine x_aload_n dm_122_0 rfl ?_
  refine im_chk _ (fun hk1 => ?_)
  refine x_getR dm_122_1 fl_8_74 rfl rfl hk1 ?_
  refine x_iload_n dm_122_4 rfl ?_
  refine x_iload_n dm_122_5 rfl ?_
  refine im_bind (fun q2 hq2 => ?_)
  refine im_chk _ (fun hi3 => ?_)
  refine x_iastore dm_122_6 hq2 hi3 ?_
  refine x_aload_n dm_122_7 rfl ?_
  refine x_getR dm_122_8 fl_8_77 rfl rfl hk1 ?_
  refine x_iload_n dm_122_11 rfl ?_
  refine x_iload_n dm_122_12 rfl ?_
  refine im_bind (fun q5 hq5 => ?_)
  refine im_chk _ (fun hi6 => ?_)
  refine x_bastore dm_122_13 hq5 hi6 ?_
  exact x_return dm_122_14 rfl
/-- FencedModulesModel.<init>()V -/
def fn_91 (j : Nat) (h : im_H) : Option (im_H) :=
  if im_oa h [(0, .inr (some j))] [.inr (some j)] = true then (let h2 : im_H := im_nw h (1, 256) 256; if h2.2.1 j = (0, 8) then (let h4 : im_H := im_pR h2 j 0 (some h.1.1); if im_oa h4 [(0, .inr (some j))] [.inr (some j)] = true then (let h6 : im_H := im_nw h4 (1, 3) 3; if h6.2.1 j = (0, 8) then (let h8 : im_H := im_pR h6 j 1 (some h4.1.1); if im_oa h8 [(0, .inr (some j))] [.inr (some j)] = true then (let h10 : im_H := im_nw h8 (1, 24) 24; if h10.2.1 j = (0, 8) then (let h12 : im_H := im_pR h10 j 2 (some h8.1.1); if im_oa h12 [(0, .inr (some j))] [.inr (some j)] = true then (let h14 : im_H := im_nw h12 (1, 3) 3; if h14.2.1 j = (0, 8) then (let h16 : im_H := im_pR h14 j 3 (some h12.1.1); if im_oa h16 [(0, .inr (some j))] [.inr (some j)] = true then (let h18 : im_H := im_nw h16 (1, 3) 3; if h18.2.1 j = (0, 8) then (let h20 : im_H := im_pR h18 j 4 (some h16.1.1); if im_oa h20 [(0, .inr (some j))] [.inr (some j)] = true then (let h22 : im_H := im_nw h20 (1, 12) 12; if h22.2.1 j = (0, 8) then (let h24 : im_H := im_pR h22 j 5 (some h20.1.1); if im_oa h24 [(0, .inr (some j))] [.inr (some j)] = true then (let h26 : im_H := im_nw h24 (1, 3) 3; if h26.2.1 j = (0, 8) then (let h28 : im_H := im_pR h26 j 6 (some h24.1.1); if im_oa h28 [(0, .inr (some j))] [.inr (some j)] = true then (let h30 : im_H := im_nw h28 (1, 36) 36; if h30.2.1 j = (0, 8) then (let h32 : im_H := im_pR h30 j 7 (some h28.1.1); if im_oa h32 [(0, .inr (some j))] [.inr (some j)] = true then (let h34 : im_H := im_nw h32 (1, 3) 3; if h34.2.1 j = (0, 8) then (let h36 : im_H := im_pR h34 j 8 (some h32.1.1); if im_oa h36 [(0, .inr (some j))] [.inr (some j)] = true then (let h38 : im_H := im_nw h36 (1, 3) 3; if h38.2.1 j = (0, 8) then (let h40 : im_H := im_pR h38 j 9 (some h36.1.1); if im_oa h40 [(0, .inr (some j))] [.inr (some j)] = true then (let h42 : im_H := im_nw h40 (1, 24) 24; if h42.2.1 j = (0, 8) then (let h44 : im_H := im_pR h42 j 10 (some h40.1.1); if im_oa h44 [(0, .inr (some j))] [.inr (some j)] = true then (let h46 : im_H := im_nw h44 (1, 3) 3; if h46.2.1 j = (0, 8) then (let h48 : im_H := im_pR h46 j 11 (some h44.1.1); if im_oa h48 [(0, .inr (some j))] [.inr (some j)] = true then (let h50 : im_H := im_nw h48 (1, 3) 3; if h50.2.1 j = (0, 8) then (let h52 : im_H := im_pR h50 j 12 (some h48.1.1); if im_oa h52 [(0, .inr (some j))] [.inr (some j)] = true then (let h54 : im_H := im_nw h52 (1, 144) 144; if h54.2.1 j = (0, 8) then (let h56 : im_H := im_pR h54 j 13 (some h52.1.1); if im_oa h56 [(0, .inr (some j))] [.inr (some j)] = true then (let h58 : im_H := im_nw h56 (1, 24) 24; if h58.2.1 j = (0, 8) then (let h60 : im_H := im_pR h58 j 17 (some h56.1.1); if im_oa h60 [(0, .inr (some j))] [.inr (some j)] = true then (let h62 : im_H := im_nw h60 (1, 24) 24; if h62.2.1 j = (0, 8) then (let h64 : im_H := im_pR h62 j 18 (some h60.1.1); if im_oa h64 [(0, .inr (some j))] [.inr (some j)] = true then (let h66 : im_H := im_nw h64 (1, 24) 24; if h66.2.1 j = (0, 8) then (let h68 : im_H := im_pR h66 j 19 (some h64.1.1); if im_oa h68 [(0, .inr (some j))] [.inr (some j)] = true then (let h70 : im_H := im_nw h68 (1, 24) 24; if h70.2.1 j = (0, 8) then (let h72 : im_H := im_pR h70 j 20 (some h68.1.1); if im_oa h72 [(0, .inr (some j))] [.inr (some j)] = true then (let h74 : im_H := im_nw h72 (2, 8) 8; if h74.2.1 j = (0, 8) then (let h76 : im_H := im_pR h74 j 21 (some h72.1.1); if im_oa h76 [(0, .inr (some j))] [.inr (some j)] = true then (let h78 : im_H := im_nw h76 (1, 8) 8; if h78.2.1 j = (0, 8) then (let h80 : im_H := im_pR h78 j 22 (some h76.1.1); if im_oa h80 [(0, .inr (some j))] [.inr (some j)] = true then (let h82 : im_H := im_nw h80 (1, 31) 31; if h82.2.1 j = (0, 8) then (let h84 : im_H := im_pR h82 j 24 (some h80.1.1); if im_oa h84 [(0, .inr (some j))] [.inr (some j)] = true then (let h86 : im_H := im_nw h84 (1, 24) 24; if h86.2.1 j = (0, 8) then (let h88 : im_H := im_pR h86 j 25 (some h84.1.1); if im_oa h88 [(0, .inr (some j))] [.inr (some j)] = true then (let h90 : im_H := im_nw h88 (2, 24) 24; if h90.2.1 j = (0, 8) then (let h92 : im_H := im_pR h90 j 26 (some h88.1.1); if im_oa h92 [(0, .inr (some j))] [.inr (some j)] = true then (let h94 : im_H := im_nw h92 (1, 48) 48; if h94.2.1 j = (0, 8) then (let h96 : im_H := im_pR h94 j 31 (some h92.1.1); some h96) else none) else none) else none) else none) else none) else none) else none) else none) else none) else none) else none) else none) else none) else none) else none) else none) else none) else none) else none) else none) else none) else none) else none) else none) else none) else none) else none) else none) else none) else none) else none) else none) else none) else none) else none) else none) else none) else none) else none) else none) else none) else none) else none) else none) else none) else none) else none) else none
set_option maxRecDepth 100000 in
set_option maxHeartbeats 4000000 in
theorem tn_91 (j : Nat) (h : im_H) : im_Go im_zV 1 fm_91 0 (im_en 0 [.inr (some j)]) [] h (fn_91 j h) := by
  unfold fn_91
  refine x_aload_n dm_91_0 rfl ?_
  refine x_objinit dm_91_1 ml_8_1 mo_i mo_c (Nat.le_of_ble_eq_true rfl) (Nat.le_of_ble_eq_true rfl) rfl ?_
  refine x_aload_n dm_91_4 rfl ?_
  refine x_sipush (256) dm_91_5 (by decide) ?_
  refine im_chk _ (fun ho1 => ?_)
  refine x_newI 256 dm_91_8 ma_I rfl (by decide) rfl (Nat.le_of_ble_eq_true rfl) ho1 ?_
  refine im_chk _ (fun hk3 => ?_)
  refine x_putFR dm_91_10 fl_8_7 rfl rfl rfl rfl hk3 ?_
  refine x_aload_n dm_91_13 rfl ?_
  refine x_iconst (3) dm_91_14 (by decide) ?_
  refine im_chk _ (fun ho5 => ?_)
  refine x_newI 3 dm_91_15 ma_I rfl (by decide) rfl (Nat.le_of_ble_eq_true rfl) ho5 ?_
  refine im_chk _ (fun hk7 => ?_)
  refine x_putFR dm_91_17 fl_8_13 rfl rfl rfl rfl hk7 ?_
  refine x_aload_n dm_91_20 rfl ?_
  refine x_bipush (24) dm_91_21 (by decide) ?_
  refine im_chk _ (fun ho9 => ?_)
  refine x_newI 24 dm_91_23 ma_I rfl (by decide) rfl (Nat.le_of_ble_eq_true rfl) ho9 ?_
  refine im_chk _ (fun hk11 => ?_)
  refine x_putFR dm_91_25 fl_8_16 rfl rfl rfl rfl hk11 ?_
  refine x_aload_n dm_91_28 rfl ?_
  refine x_iconst (3) dm_91_29 (by decide) ?_
  refine im_chk _ (fun ho13 => ?_)
  refine x_newI 3 dm_91_30 ma_I rfl (by decide) rfl (Nat.le_of_ble_eq_true rfl) ho13 ?_
  refine im_chk _ (fun hk15 => ?_)
  refine x_putFR dm_91_32 fl_8_19 rfl rfl rfl rfl hk15 ?_
  refine x_aload_n dm_91_35 rfl ?_
  refine x_iconst (3) dm_91_36 (by decide) ?_
  refine im_chk _ (fun ho17 => ?_)
  refine x_newI 3 dm_91_37 ma_I rfl (by decide) rfl (Nat.le_of_ble_eq_true rfl) ho17 ?_
  refine im_chk _ (fun hk19 => ?_)
  refine x_putFR dm_91_39 fl_8_22 rfl rfl rfl rfl hk19 ?_
  refine x_aload_n dm_91_42 rfl ?_
  refine x_bipush (12) dm_91_43 (by decide) ?_
  refine im_chk _ (fun ho21 => ?_)
  refine x_newI 12 dm_91_45 ma_I rfl (by decide) rfl (Nat.le_of_ble_eq_true rfl) ho21 ?_
  refine im_chk _ (fun hk23 => ?_)
  refine x_putFR dm_91_47 fl_8_25 rfl rfl rfl rfl hk23 ?_
  refine x_aload_n dm_91_50 rfl ?_
  refine x_iconst (3) dm_91_51 (by decide) ?_
  refine im_chk _ (fun ho25 => ?_)
  refine x_newI 3 dm_91_52 ma_I rfl (by decide) rfl (Nat.le_of_ble_eq_true rfl) ho25 ?_
  refine im_chk _ (fun hk27 => ?_)
  refine x_putFR dm_91_54 fl_8_28 rfl rfl rfl rfl hk27 ?_
  refine x_aload_n dm_91_57 rfl ?_
  refine x_bipush (36) dm_91_58 (by decide) ?_
  refine im_chk _ (fun ho29 => ?_)
  refine x_newI 36 dm_91_60 ma_I rfl (by decide) rfl (Nat.le_of_ble_eq_true rfl) ho29 ?_
  refine im_chk _ (fun hk31 => ?_)
  refine x_putFR dm_91_62 fl_8_31 rfl rfl rfl rfl hk31 ?_
  refine x_aload_n dm_91_65 rfl ?_
  refine x_iconst (3) dm_91_66 (by decide) ?_
  refine im_chk _ (fun ho33 => ?_)
  refine x_newI 3 dm_91_67 ma_I rfl (by decide) rfl (Nat.le_of_ble_eq_true rfl) ho33 ?_
  refine im_chk _ (fun hk35 => ?_)
  refine x_putFR dm_91_69 fl_8_34 rfl rfl rfl rfl hk35 ?_
  refine x_aload_n dm_91_72 rfl ?_
  refine x_iconst (3) dm_91_73 (by decide) ?_
  refine im_chk _ (fun ho37 => ?_)
  refine x_newI 3 dm_91_74 ma_I rfl (by decide) rfl (Nat.le_of_ble_eq_true rfl) ho37 ?_
  refine im_chk _ (fun hk39 => ?_)
  refine x_putFR dm_91_76 fl_8_37 rfl rfl rfl rfl hk39 ?_
  refine x_aload_n dm_91_79 rfl ?_
  refine x_bipush (24) dm_91_80 (by decide) ?_
  refine im_chk _ (fun ho41 => ?_)
  refine x_newI 24 dm_91_82 ma_I rfl (by decide) rfl (Nat.le_of_ble_eq_true rfl) ho41 ?_
  refine im_chk _ (fun hk43 => ?_)
  refine x_putFR dm_91_84 fl_8_40 rfl rfl rfl rfl hk43 ?_
  refine x_aload_n dm_91_87 rfl ?_
  refine x_iconst (3) dm_91_88 (by decide) ?_
  refine im_chk _ (fun ho45 => ?_)
  refine x_newI 3 dm_91_89 ma_I rfl (by decide) rfl (Nat.le_of_ble_eq_true rfl) ho45 ?_
  refine im_chk _ (fun hk47 => ?_)
  refine x_putFR dm_91_91 fl_8_43 rfl rfl rfl rfl hk47 ?_
  refine x_aload_n dm_91_94 rfl ?_
  refine x_iconst (3) dm_91_95 (by decide) ?_
  refine im_chk _ (fun ho49 => ?_)
  refine x_newI 3 dm_91_96 ma_I rfl (by decide) rfl (Nat.le_of_ble_eq_true rfl) ho49 ?_
  refine im_chk _ (fun hk51 => ?_)
  refine x_putFR dm_91_98 fl_8_46 rfl rfl rfl rfl hk51 ?_
  refine x_aload_n dm_91_101 rfl ?_
  refine x_sipush (144) dm_91_102 (by decide) ?_
  refine im_chk _ (fun ho53 => ?_)
  refine x_newI 144 dm_91_105 ma_I rfl (by decide) rfl (Nat.le_of_ble_eq_true rfl) ho53 ?_
  refine im_chk _ (fun hk55 => ?_)
  refine x_putFR dm_91_107 fl_8_49 rfl rfl rfl rfl hk55 ?_
  refine x_aload_n dm_91_110 rfl ?_
  refine x_bipush (24) dm_91_111 (by decide) ?_
  refine im_chk _ (fun ho57 => ?_)
  refine x_newI 24 dm_91_113 ma_I rfl (by decide) rfl (Nat.le_of_ble_eq_true rfl) ho57 ?_
  refine im_chk _ (fun hk59 => ?_)
  refine x_putFR dm_91_115 fl_8_52 rfl rfl rfl rfl hk59 ?_
  refine x_aload_n dm_91_118 rfl ?_
  refine x_bipush (24) dm_91_119 (by decide) ?_
  refine im_chk _ (fun ho61 => ?_)
  refine x_newI 24 dm_91_121 ma_I rfl (by decide) rfl (Nat.le_of_ble_eq_true rfl) ho61 ?_
  refine im_chk _ (fun hk63 => ?_)
  refine x_putFR dm_91_123 fl_8_55 rfl rfl rfl rfl hk63 ?_
  refine x_aload_n dm_91_126 rfl ?_
  refine x_bipush (24) dm_91_127 (by decide) ?_
  refine im_chk _ (fun ho65 => ?_)
  refine x_newI 24 dm_91_129 ma_I rfl (by decide) rfl (Nat.le_of_ble_eq_true rfl) ho65 ?_
  refine im_chk _ (fun hk67 => ?_)
  refine x_putFR dm_91_131 fl_8_58 rfl rfl rfl rfl hk67 ?_
  refine x_aload_n dm_91_134 rfl ?_
  refine x_bipush (24) dm_91_135 (by decide) ?_
  refine im_chk _ (fun ho69 => ?_)
  refine x_newI 24 dm_91_137 ma_I rfl (by decide) rfl (Nat.le_of_ble_eq_true rfl) ho69 ?_
  refine im_chk _ (fun hk71 => ?_)
  refine x_putFR dm_91_139 fl_8_61 rfl rfl rfl rfl hk71 ?_
  refine x_aload_n dm_91_142 rfl ?_
  refine x_bipush (8) dm_91_143 (by decide) ?_
  refine im_chk _ (fun ho73 => ?_)
  refine x_newZ 8 dm_91_145 ma_Z rfl (by decide) rfl (Nat.le_of_ble_eq_true rfl) ho73 ?_
  refine im_chk _ (fun hk75 => ?_)
  refine x_putFR dm_91_147 fl_8_64 rfl rfl rfl rfl hk75 ?_
  refine x_aload_n dm_91_150 rfl ?_
  refine x_bipush (8) dm_91_151 (by decide) ?_
  refine im_chk _ (fun ho77 => ?_)
  refine x_newI 8 dm_91_153 ma_I rfl (by decide) rfl (Nat.le_of_ble_eq_true rfl) ho77 ?_
  refine im_chk _ (fun hk79 => ?_)
  refine x_putFR dm_91_155 fl_8_68 rfl rfl rfl rfl hk79 ?_
  refine x_aload_n dm_91_158 rfl ?_
  refine x_bipush (31) dm_91_159 (by decide) ?_
  refine im_chk _ (fun ho81 => ?_)
  refine x_newI 31 dm_91_161 ma_I rfl (by decide) rfl (Nat.le_of_ble_eq_true rfl) ho81 ?_
  refine im_chk _ (fun hk83 => ?_)
  refine x_putFR dm_91_163 fl_8_71 rfl rfl rfl rfl hk83 ?_
  refine x_aload_n dm_91_166 rfl ?_
  refine x_bipush (24) dm_91_167 (by decide) ?_
  refine im_chk _ (fun ho85 => ?_)
  refine x_newI 24 dm_91_169 ma_I rfl (by decide) rfl (Nat.le_of_ble_eq_true rfl) ho85 ?_
  refine im_chk _ (fun hk87 => ?_)
  refine x_putFR dm_91_171 fl_8_74 rfl rfl rfl rfl hk87 ?_
  refine x_aload_n dm_91_174 rfl ?_
  refine x_bipush (24) dm_91_175 (by decide) ?_
  refine im_chk _ (fun ho89 => ?_)
  refine x_newZ 24 dm_91_177 ma_Z rfl (by decide) rfl (Nat.le_of_ble_eq_true rfl) ho89 ?_
  refine im_chk _ (fun hk91 => ?_)
  refine x_putFR dm_91_179 fl_8_77 rfl rfl rfl rfl hk91 ?_
  refine x_aload_n dm_91_182 rfl ?_
  refine x_bipush (48) dm_91_183 (by decide) ?_
  refine im_chk _ (fun ho93 => ?_)
  refine x_newI 48 dm_91_185 ma_I rfl (by decide) rfl (Nat.le_of_ble_eq_true rfl) ho93 ?_
  refine im_chk _ (fun hk95 => ?_)
  refine x_putFR dm_91_187 fl_8_80 rfl rfl rfl rfl hk95 ?_
  exact x_return dm_91_190 rfl
