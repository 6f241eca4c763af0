def fn_22_12 (j : Nat) : Nat → Int32 → Int32 → Int32 → im_H → Option (Int32 × im_H)
  | 0, _, _, _, _ => none
  | n + 1, y1, y2, y3, h =>
    if y2 ≤ y3 then (some ((0 : Int32), h)) else (if h.2.1 j = (0, 3) then ((fn_23 j (((5 : Int32) + y1) + y3) h).bind fun b3 => if b3.1 = 0 then (let v5 : Int32 := (y3 + (1 : Int32)); fn_22_12 j n y1 y2 v5 b3.2) else (some ((1 : Int32), b3.2))) else none)
set_option maxRecDepth 100000 in
set_option maxHeartbeats 4000000 in
theorem tn_22_12 (j : Nat) : ∀ (n : Nat) (y1 : Int32) (y2 : Int32) (y3 : Int32) (h : im_H), im_Go im_zI 1 fm_22 12 [(0, .inr (some j)), (1, .inl y1), (2, .inl y2), (3, .inl y3)] [] h (fn_22_12 j n y1 y2 y3 h)
  | 0, y1, y2, y3, h => im_none
  | n + 1, y1, y2, y3, h => by
    have ih := tn_22_12 j n
    unfold fn_22_12
    refine x_iload_n dm_22_12 rfl ?_
    refine x_iload_n dm_22_13 rfl ?_
    refine x_icmp_ge 37 dm_22_14 rfl (fun c1 => ?_) (fun c1 => ?_)
    · refine x_iconst (0) dm_22_37 (by decide) ?_
      exact x_zreturn dm_22_38 rfl (by decide)
    · refine x_aload_n dm_22_17 rfl ?_
      refine x_iconst (5) dm_22_18 (by decide) ?_
      refine x_iload_n dm_22_19 rfl ?_
      refine x_iadd dm_22_20 ?_
      refine x_iload_n dm_22_21 rfl ?_
      refine x_iadd dm_22_22 ?_
      refine im_chk _ (fun hk2 => ?_)
      refine im_callI mf_23 rfl (tn_23 j _ h) (im_runV (as := [.inl _]) (rest := []) dm_22_23 mf_23 (Nat.le_of_ble_eq_true rfl) ml_3_67 mi_23 ms_23 mp_23 (Nat.le_of_ble_eq_true rfl) rfl hk2 ⟨_, _, rfl⟩) rfl (fun b3 hb3 => ?_)
      refine x_if_eq 31 dm_22_26 rfl (fun c4 => ?_) (fun c4 => ?_)
      · refine x_iinc (1) dm_22_31 rfl (by decide) (Nat.le_of_ble_eq_true rfl) ?_
        refine x_goto 12 dm_22_34 rfl ?_
        exact im_lsub [(0, .inr (some j)), (1, .inl y1), (2, .inl y2), (3, .inl _)] (im_sb_c rfl (im_sb_c rfl (im_sb_c rfl (im_sb_c rfl im_sb_n)))) (ih y1 y2 _ b3.2)
      · refine x_iconst (1) dm_22_29 (by decide) ?_
        exact x_zreturn dm_22_30 rfl (by decide)
/-- FencedModules$Follower.wouldPrintLabel(II)Z -/
def fn_22 (j : Nat) (x1 : Int32) (x2 : Int32) (h : im_H) : Option (Int32 × im_H) :=
  (fn_12 x1 x2 h).bind fun b1 => if b1.1 = 0 then (some ((0 : Int32), b1.2)) else (fn_22_12 j 1000 x1 x2 (0 : Int32) b1.2)
set_option maxRecDepth 100000 in
set_option maxHeartbeats 4000000 in
theorem tn_22 (j : Nat) (x1 : Int32) (x2 : Int32) (h : im_H) : im_Go im_zI 1 fm_22 0 (im_en 0 [.inr (some j), .inl x1, .inl x2]) [] h (fn_22 j x1 x2 h) := by
  unfold fn_22
  refine x_iload_n dm_22_0 rfl ?_
  refine x_iload_n dm_22_1 rfl ?_
  refine im_callI mf_12 rfl (tn_12 x1 x2 h) (im_runS (as := [.inl x1, .inl x2]) (rest := []) dm_22_2 mf_12 (Nat.le_of_ble_eq_true rfl) ml_3_84 mi_12 mp_12 (Nat.le_of_ble_eq_true rfl)) rfl (fun b1 hb1 => ?_)
  refine x_if_ne 10 dm_22_5 rfl (fun c2 => ?_) (fun c2 => ?_)
  · refine x_iconst (0) dm_22_8 (by decide) ?_
    exact x_zreturn dm_22_9 rfl (by decide)
  · refine x_iconst (0) dm_22_10 (by decide) ?_
    refine x_istore_n dm_22_11 (Nat.le_of_ble_eq_true rfl) ?_
    exact im_lsub [(0, .inr (some j)), (1, .inl x1), (2, .inl x2), (3, .inl (0 : Int32))] (im_sb_c rfl (im_sb_c rfl (im_sb_c rfl (im_sb_c rfl im_sb_n)))) (tn_22_12 j 1000 x1 x2 (0 : Int32) b1.2)
def fn_28_22 (j : Nat) (y1 : Int32) (y2 : Int32) (y3 : Int32) (y4 : Int32) (h : im_H) : Option (im_H) :=
  if h.2.1 j = (0, 3) then (((im_gR h j 1)).bind fun q2 => if im_in h 1 q2 y2 then (if im_in h 1 q2 y3 then ((fn_148 y1 (im_gI h q2 (y2).toNatClampNeg) (im_gI h q2 (y3).toNatClampNeg) y4 h).bind fun b5 => if b5.2.2.1 j = (0, 3) then ((fn_27 j y2 b5.1 b5.2).bind fun b7 => some b7) else none) else none) else none) else none
set_option maxRecDepth 100000 in
set_option maxHeartbeats 4000000 in
theorem tn_28_22 (j : Nat) (y1 : Int32) (y2 : Int32) (y3 : Int32) (y4 : Int32) (h : im_H) : im_Go im_zV 1 fm_28 22 [(0, .inr (some j)), (1, .inl y1), (2, .inl y2), (3, .inl y3), (4, .inl y4)] [] h (fn_28_22 j y1 y2 y3 y4 h) := by
  unfold fn_28_22
  refine x_aload_n dm_28_22 rfl ?_
  refine x_iload_n dm_28_23 rfl ?_
  refine x_iload_n dm_28_24 rfl ?_
  refine x_aload_n dm_28_25 rfl ?_
  refine im_chk _ (fun hk1 => ?_)
  refine x_getR dm_28_26 fl_3_20 rfl rfl hk1 ?_
  refine x_iload_n dm_28_29 rfl ?_
  refine im_bind (fun q2 hq2 => ?_)
  refine im_chk _ (fun hi3 => ?_)
  refine x_iaload dm_28_30 hq2 hi3 ?_
  refine x_aload_n dm_28_31 rfl ?_
  refine x_getR dm_28_32 fl_3_20 rfl rfl hk1 ?_
  refine x_iload_n dm_28_35 rfl ?_
  refine im_chk _ (fun hi4 => ?_)
  refine x_iaload dm_28_36 hq2 hi4 ?_
  refine x_iload dm_28_37 rfl ?_
  refine im_callI mf_148 rfl (tn_148 y1 _ _ y4 h) (im_runS (as := [.inl y1, .inl _, .inl _, .inl y4]) (rest := [.inl y2, .inr (some j)]) dm_28_39 mf_148 (Nat.le_of_ble_eq_true rfl) ml_3_106 mi_148 mp_148 (Nat.le_of_ble_eq_true rfl)) rfl (fun b5 hb5 => ?_)
  refine im_chk _ (fun hk6 => ?_)
  refine im_callV mf_27 rfl (tn_27 j y2 b5.1 b5.2) (im_runV (as := [.inl y2, .inl b5.1]) (rest := []) dm_28_42 mf_27 (Nat.le_of_ble_eq_true rfl) ml_3_110 mi_27 ms_27 mp_27 (Nat.le_of_ble_eq_true rfl) rfl hk6 ⟨_, _, rfl⟩) rfl (fun b7 hb7 => ?_)
  exact x_return dm_28_45 rfl
/-- FencedModules$Follower.compute(IIII)V -/
def fn_28 (j : Nat) (x1 : Int32) (x2 : Int32) (x3 : Int32) (x4 : Int32) (h : im_H) : Option (im_H) :=
  if x1 = (2 : Int32) then (if h.2.1 j = (0, 3) then ((fn_23 j x3 h).bind fun b3 => if b3.1 = 0 then (fn_28_22 j x1 x2 x3 x4 b3.2) else (if b3.2.2.1 j = (0, 3) then ((fn_26 j x3 x2 b3.2).bind fun b6 => some b6) else none)) else none) else (fn_28_22 j x1 x2 x3 x4 h)
set_option maxRecDepth 100000 in
set_option maxHeartbeats 4000000 in
theorem tn_28 (j : Nat) (x1 : Int32) (x2 : Int32) (x3 : Int32) (x4 : Int32) (h : im_H) : im_Go im_zV 1 fm_28 0 (im_en 0 [.inr (some j), .inl x1, .inl x2, .inl x3, .inl x4]) [] h (fn_28 j x1 x2 x3 x4 h) := by
  unfold fn_28
  refine x_iload_n dm_28_0 rfl ?_
  refine x_iconst (2) dm_28_1 (by decide) ?_
  refine x_icmp_ne 22 dm_28_2 rfl (fun c1 => ?_) (fun c1 => ?_)
  · refine x_aload_n dm_28_5 rfl ?_
    refine x_iload_n dm_28_6 rfl ?_
    refine im_chk _ (fun hk2 => ?_)
    refine im_callI mf_23 rfl (tn_23 j x3 h) (im_runV (as := [.inl x3]) (rest := []) dm_28_7 mf_23 (Nat.le_of_ble_eq_true rfl) ml_3_67 mi_23 ms_23 mp_23 (Nat.le_of_ble_eq_true rfl) rfl hk2 ⟨_, _, rfl⟩) rfl (fun b3 hb3 => ?_)
    refine x_if_eq 22 dm_28_10 rfl (fun c4 => ?_) (fun c4 => ?_)
    · exact im_lsub [(0, .inr (some j)), (1, .inl x1), (2, .inl x2), (3, .inl x3), (4, .inl x4)] (im_sb_c rfl (im_sb_c rfl (im_sb_c rfl (im_sb_c rfl (im_sb_c rfl im_sb_n))))) (tn_28_22 j x1 x2 x3 x4 b3.2)
    · refine x_aload_n dm_28_13 rfl ?_
      refine x_iload_n dm_28_14 rfl ?_
      refine x_iload_n dm_28_15 rfl ?_
      refine im_chk _ (fun hk5 => ?_)
      refine im_callV mf_26 rfl (tn_26 j x3 x2 b3.2) (im_runV (as := [.inl x3, .inl x2]) (rest := []) dm_28_16 mf_26 (Nat.le_of_ble_eq_true rfl) ml_3_87 mi_26 ms_26 mp_26 (Nat.le_of_ble_eq_true rfl) rfl hk5 ⟨_, _, rfl⟩) rfl (fun b6 hb6 => ?_)
      refine x_goto 45 dm_28_19 rfl ?_
      exact x_return dm_28_45 rfl
  · exact im_lsub [(0, .inr (some j)), (1, .inl x1), (2, .inl x2), (3, .inl x3), (4, .inl x4)] (im_sb_c rfl (im_sb_c rfl (im_sb_c rfl (im_sb_c rfl (im_sb_c rfl im_sb_n))))) (tn_28_22 j x1 x2 x3 x4 h)
/-- FencedModules$Machine.sandboxAt(I)LFencedModules$Sandbox; -/
def fn_31 (j : Nat) (x1 : Int32) (h : im_H) : Option (Option Nat × im_H) :=
  (fn_45 x1 h).bind fun b1 => if b1.1 = 0 then (some (none, b1.2)) else (if b1.2.2.1 j = (0, 4) then (((im_gR b1.2 j 1)).bind fun q4 => if im_in b1.2 3 q4 x1 ∧ (b1.2.2.1 q4).2 ≤ 32 then (some ((im_gR b1.2 q4 (x1).toNatClampNeg), b1.2)) else none) else none)
set_option maxRecDepth 100000 in
set_option maxHeartbeats 4000000 in
theorem tn_31 (j : Nat) (x1 : Int32) (h : im_H) : im_Go im_zR 1 fm_31 0 (im_en 0 [.inr (some j), .inl x1]) [] h (fn_31 j x1 h) := by
  unfold fn_31
  refine x_iload_n dm_31_0 rfl ?_
  refine im_callI mf_45 rfl (tn_45 x1 h) (im_runS (as := [.inl x1]) (rest := []) dm_31_1 mf_45 (Nat.le_of_ble_eq_true rfl) ml_4_22 mi_45 mp_45 (Nat.le_of_ble_eq_true rfl)) rfl (fun b1 hb1 => ?_)
  refine x_if_eq 16 dm_31_4 rfl (fun c2 => ?_) (fun c2 => ?_)
  · refine x_null dm_31_16 ?_
    exact x_areturn dm_31_17 rfl
  · refine x_aload_n dm_31_7 rfl ?_
    refine im_chk _ (fun hk3 => ?_)
    refine x_getR dm_31_8 fl_4_15 rfl rfl hk3 ?_
    refine x_iload_n dm_31_11 rfl ?_
    refine im_bind (fun q4 hq4 => ?_)
    refine im_chk _ (fun hi5 => ?_)
    refine x_aaload dm_31_12 hq4 hi5 ?_
    refine x_goto 17 dm_31_13 rfl ?_
    exact x_areturn dm_31_17 rfl
def fn_37_26 (j : Nat) (h : im_H) : Option (im_H) :=
  if h.2.1 j = (0, 4) then ((fn_39 (im_gI h j 2) h).bind fun b2 => if b2.2.2.1 j = (0, 4) then ((fn_38 j b2.1 b2.2).bind fun b4 => some b4) else none) else none
set_option maxRecDepth 100000 in
set_option maxHeartbeats 4000000 in
theorem tn_37_26 (j : Nat) (h : im_H) : im_Go im_zV 1 fm_37 26 [(0, .inr (some j))] [] h (fn_37_26 j h) := by
  unfold fn_37_26
  refine x_aload_n dm_37_26 rfl ?_
  refine x_aload_n dm_37_27 rfl ?_
  refine im_chk _ (fun hk1 => ?_)
  refine x_getI dm_37_28 fl_4_49 rfl rfl hk1 ?_
  refine im_callI mf_39 rfl (tn_39 _ h) (im_runS (as := [.inl _]) (rest := [.inr (some j)]) dm_37_31 mf_39 (Nat.le_of_ble_eq_true rfl) ml_4_73 mi_39 mp_39 (Nat.le_of_ble_eq_true rfl)) rfl (fun b2 hb2 => ?_)
  refine im_chk _ (fun hk3 => ?_)
  refine im_callV mf_38 rfl (tn_38 j b2.1 b2.2) (im_runV (as := [.inl b2.1]) (rest := []) dm_37_34 mf_38 (Nat.le_of_ble_eq_true rfl) ml_4_70 mi_38 ms_38 mp_38 (Nat.le_of_ble_eq_true rfl) rfl hk3 ⟨_, _, rfl⟩) rfl (fun b4 hb4 => ?_)
  exact x_return dm_37_37 rfl
/-- FencedModules$Machine.countStep(LFencedModules$Sandbox;)V -/
def fn_37 (j : Nat) (x1 : Option Nat) (h : im_H) : Option (im_H) :=
  if h.2.1 j = (0, 4) then (let h2 : im_H := im_pI h j 3 ((im_gI h j 3) + (1 : Int32)); if (3 : Int32) ≤ (im_gI h2 j 3) then (fn_37_26 j h2) else ((x1).bind fun q4 => if h.2.1 q4 = (0, 5) then (if (im_gI h2 q4 6) = (1 : Int32) then (some h2) else (fn_37_26 j h2)) else none)) else none
set_option maxRecDepth 100000 in
set_option maxHeartbeats 4000000 in
theorem tn_37 (j : Nat) (x1 : Option Nat) (h : im_H) : im_Go im_zV 1 fm_37 0 (im_en 0 [.inr (some j), .inr x1]) [] h (fn_37 j x1 h) := by
  unfold fn_37
  refine x_aload_n dm_37_0 rfl ?_
  refine x_dup dm_37_1 ?_
  refine im_chk _ (fun hk1 => ?_)
  refine x_getI dm_37_2 fl_4_53 rfl rfl hk1 ?_
  refine x_iconst (1) dm_37_5 (by decide) ?_
  refine x_iadd dm_37_6 ?_
  refine x_putI dm_37_7 fl_4_53 rfl rfl hk1 ?_
  refine x_aload_n dm_37_10 rfl ?_
  refine x_getI dm_37_11 fl_4_53 rfl rfl hk1 ?_
  refine x_iconst (3) dm_37_14 (by decide) ?_
  refine x_icmp_ge 26 dm_37_15 rfl (fun c3 => ?_) (fun c3 => ?_)
  · exact im_lsub [(0, .inr (some j))] (im_sb_c rfl im_sb_n) (tn_37_26 j _)
  · refine x_aload_n dm_37_18 rfl ?_
    refine im_bind (fun q4 hq4 => ?_)
    refine im_chk _ (fun hk5 => ?_)
    refine x_getI dm_37_19 fl_4_67 rfl hq4 hk5 ?_
    refine x_iconst (1) dm_37_22 (by decide) ?_
    refine x_icmp_eq 37 dm_37_23 rfl (fun c6 => ?_) (fun c6 => ?_)
    · exact x_return dm_37_37 rfl
    · exact im_lsub [(0, .inr (some j))] (im_sb_c rfl im_sb_n) (tn_37_26 j _)
def fn_42_13 (j : Nat) : Nat → Option Nat → Int32 → Int32 → Int32 → im_H → Option (Int32 × im_H)
  | 0, _, _, _, _, _ => none
  | n + 1, y1, y2, y3, y4, h =>
    if y3 ≤ y4 then (some (y3, h)) else ((y1).bind fun q2 => if h.2.1 q2 = (0, 5) then ((fn_46 (im_gI h q2 0) h).bind fun b4 => if b4.2.2.1 j = (0, 4) then ((fn_32 j ((b4.1 + y2) + y4) b4.2).bind fun b6 => if b6.2.2.1 q2 = (0, 5) then ((fn_53 q2 b6.1 b6.2).bind fun b8 => let v9 : Int32 := (y4 + (1 : Int32)); fn_42_13 j n y1 y2 y3 v9 b8) else none) else none) else none)
set_option maxRecDepth 100000 in
set_option maxHeartbeats 4000000 in
theorem tn_42_13 (j : Nat) : ∀ (n : Nat) (y1 : Option Nat) (y2 : Int32) (y3 : Int32) (y4 : Int32) (h : im_H), im_Go im_zI 1 fm_42 13 [(0, .inr (some j)), (1, .inr y1), (2, .inl y2), (3, .inl y3), (4, .inl y4)] [] h (fn_42_13 j n y1 y2 y3 y4 h)
  | 0, y1, y2, y3, y4, h => im_none
  | n + 1, y1, y2, y3, y4, h => by
    have ih := tn_42_13 j n
    unfold fn_42_13
    refine x_iload dm_42_13 rfl ?_
    refine x_iload_n dm_42_15 rfl ?_
    refine x_icmp_ge 45 dm_42_16 rfl (fun c1 => ?_) (fun c1 => ?_)
    · refine x_iload_n dm_42_45 rfl ?_
      exact x_ireturn dm_42_46 rfl
    · refine x_aload_n dm_42_19 rfl ?_
      refine x_aload_n dm_42_20 rfl ?_
      refine x_aload_n dm_42_21 rfl ?_
      refine im_bind (fun q2 hq2 => ?_)
      refine im_chk _ (fun hk3 => ?_)
      refine x_getI dm_42_22 fl_4_150 rfl hq2 hk3 ?_
      refine im_callI mf_46 rfl (tn_46 _ h) (im_runS (as := [.inl _]) (rest := [.inr (some j), .inr y1]) dm_42_25 mf_46 (Nat.le_of_ble_eq_true rfl) ml_4_43 mi_46 mp_46 (Nat.le_of_ble_eq_true rfl)) rfl (fun b4 hb4 => ?_)
      refine x_iload_n dm_42_28 rfl ?_
      refine x_iadd dm_42_29 ?_
      refine x_iload dm_42_30 rfl ?_
      refine x_iadd dm_42_32 ?_
      refine im_chk _ (fun hk5 => ?_)
      refine im_callI mf_32 rfl (tn_32 j _ b4.2) (im_runV (as := [.inl _]) (rest := [.inr y1]) dm_42_33 mf_32 (Nat.le_of_ble_eq_true rfl) ml_4_79 mi_32 ms_32 mp_32 (Nat.le_of_ble_eq_true rfl) rfl hk5 ⟨_, _, rfl⟩) rfl (fun b6 hb6 => ?_)
      refine im_chk _ (fun hk7 => ?_)
      refine im_callV mf_53 rfl (im_eqo hq2 (tn_53 q2 b6.1 b6.2)) (im_runV (as := [.inl b6.1]) (rest := []) dm_42_36 mf_53 (Nat.le_of_ble_eq_true rfl) ml_4_124 mi_53 ms_53 mp_53 (Nat.le_of_ble_eq_true rfl) hq2 hk7 ⟨_, _, rfl⟩) rfl (fun b8 hb8 => ?_)
      refine x_iinc (1) dm_42_39 rfl (by decide) (Nat.le_of_ble_eq_true rfl) ?_
      refine x_goto 13 dm_42_42 rfl ?_
      exact im_lsub [(0, .inr (some j)), (1, .inr y1), (2, .inl y2), (3, .inl y3), (4, .inl _)] (im_sb_c rfl (im_sb_c rfl (im_sb_c rfl (im_sb_c rfl (im_sb_c rfl im_sb_n))))) (ih y1 y2 y3 _ b8)
/-- FencedModules$Machine.print(LFencedModules$Sandbox;II)I -/
def fn_42 (j : Nat) (x1 : Option Nat) (x2 : Int32) (x3 : Int32) (h : im_H) : Option (Int32 × im_H) :=
  (fn_12 x2 x3 h).bind fun b1 => if b1.1 = 0 then (some ((-1 : Int32), b1.2)) else (fn_42_13 j 1000 x1 x2 x3 (0 : Int32) b1.2)
set_option maxRecDepth 100000 in
set_option maxHeartbeats 4000000 in
theorem tn_42 (j : Nat) (x1 : Option Nat) (x2 : Int32) (x3 : Int32) (h : im_H) : im_Go im_zI 1 fm_42 0 (im_en 0 [.inr (some j), .inr x1, .inl x2, .inl x3]) [] h (fn_42 j x1 x2 x3 h) := by
  unfold fn_42
  refine x_iload_n dm_42_0 rfl ?_
  refine x_iload_n dm_42_1 rfl ?_
  refine im_callI mf_12 rfl (tn_12 x2 x3 h) (im_runS (as := [.inl x2, .inl x3]) (rest := []) dm_42_2 mf_12 (Nat.le_of_ble_eq_true rfl) ml_4_146 mi_12 mp_12 (Nat.le_of_ble_eq_true rfl)) rfl (fun b1 hb1 => ?_)
  refine x_if_ne 10 dm_42_5 rfl (fun c2 => ?_) (fun c2 => ?_)
  · refine x_iconst (-1) dm_42_8 (by decide) ?_
    exact x_ireturn dm_42_9 rfl
  · refine x_iconst (0) dm_42_10 (by decide) ?_
    refine x_istore dm_42_11 (Nat.le_of_ble_eq_true rfl) ?_
    exact im_lsub [(0, .inr (some j)), (1, .inr x1), (2, .inl x2), (3, .inl x3), (4, .inl (0 : Int32))] (im_sb_c rfl (im_sb_c rfl (im_sb_c rfl (im_sb_c rfl (im_sb_c rfl im_sb_n))))) (tn_42_13 j 1000 x1 x2 x3 (0 : Int32) b1.2)
/-- FencedModules$Source.<init>()V -/
def fn_55 (j : Nat) (h : im_H) : Option (im_H) :=
  if im_oa h [(0, .inr (some j))] [.inr (some j)] = true then (let h2 : im_H := im_nw h (1, 24) 24; if h2.2.1 j = (0, 6) then (let h4 : im_H := im_pR h2 j 0 (some h.1.1); if im_oa h4 [(0, .inr (some j))] [.inr (some j)] = true then (let h6 : im_H := im_nw h4 (1, 24) 24; if h6.2.1 j = (0, 6) then (let h8 : im_H := im_pR h6 j 1 (some h4.1.1); if im_oa h8 [(0, .inr (some j))] [.inr (some j)] = true then (let h10 : im_H := im_nw h8 (1, 24) 24; if h10.2.1 j = (0, 6) then (let h12 : im_H := im_pR h10 j 2 (some h8.1.1); if im_oa h12 [(0, .inr (some j))] [.inr (some j)] = true then (let h14 : im_H := im_nw h12 (1, 24) 24; if h14.2.1 j = (0, 6) then (let h16 : im_H := im_pR h14 j 3 (some h12.1.1); if im_oa h16 [(0, .inr (some j))] [.inr (some j)] = true then (let h18 : im_H := im_nw h16 (1, 8) 8; if h18.2.1 j = (0, 6) then (let h20 : im_H := im_pR h18 j 4 (some h16.1.1); if h20.2.1 j = (0, 6) then ((fn_150 (im_gR h20 j 4) (-1 : Int32) h20).bind fun b22 => some b22) else none) else none) else none) else none) else none) else none) else none) else none) else none) else none) else none
set_option maxRecDepth 100000 in
set_option maxHeartbeats 4000000 in
theorem tn_55 (j : Nat) (h : im_H) : im_Go im_zV 1 fm_55 0 (im_en 0 [.inr (some j)]) [] h (fn_55 j h) := by
  unfold fn_55
  refine x_aload_n dm_55_0 rfl ?_
  refine x_objinit dm_55_1 ml_6_1 mo_i mo_c (Nat.le_of_ble_eq_true rfl) (Nat.le_of_ble_eq_true rfl) rfl ?_
  refine x_aload_n dm_55_4 rfl ?_
  refine x_bipush (24) dm_55_5 (by decide) ?_
  refine im_chk _ (fun ho1 => ?_)
  refine x_newI 24 dm_55_7 ma_I rfl (by decide) rfl (Nat.le_of_ble_eq_true rfl) ho1 ?_
  refine im_chk _ (fun hk3 => ?_)
  refine x_putFR dm_55_9 fl_6_9 rfl rfl rfl rfl hk3 ?_
  refine x_aload_n dm_55_12 rfl ?_
  refine x_bipush (24) dm_55_13 (by decide) ?_
  refine im_chk _ (fun ho5 => ?_)
  refine x_newI 24 dm_55_15 ma_I rfl (by decide) rfl (Nat.le_of_ble_eq_true rfl) ho5 ?_
  refine im_chk _ (fun hk7 => ?_)
  refine x_putFR dm_55_17 fl_6_13 rfl rfl rfl rfl hk7 ?_
  refine x_aload_n dm_55_20 rfl ?_
  refine x_bipush (24) dm_55_21 (by decide) ?_
  refine im_chk _ (fun ho9 => ?_)
  refine x_newI 24 dm_55_23 ma_I rfl (by decide) rfl (Nat.le_of_ble_eq_true rfl) ho9 ?_
  refine im_chk _ (fun hk11 => ?_)
  refine x_putFR dm_55_25 fl_6_16 rfl rfl rfl rfl hk11 ?_
  refine x_aload_n dm_55_28 rfl ?_
  refine x_bipush (24) dm_55_29 (by decide) ?_
  refine im_chk _ (fun ho13 => ?_)
  refine x_newI 24 dm_55_31 ma_I rfl (by decide) rfl (Nat.le_of_ble_eq_true rfl) ho13 ?_
  refine im_chk _ (fun hk15 => ?_)
  refine x_putFR dm_55_33 fl_6_19 rfl rfl rfl rfl hk15 ?_
  refine x_aload_n dm_55_36 rfl ?_
  refine x_bipush (8) dm_55_37 (by decide) ?_
  refine im_chk _ (fun ho17 => ?_)
  refine x_newI 8 dm_55_39 ma_I rfl (by decide) rfl (Nat.le_of_ble_eq_true rfl) ho17 ?_
  refine im_chk _ (fun hk19 => ?_)
  refine x_putFR dm_55_41 fl_6_22 rfl rfl rfl rfl hk19 ?_
  refine x_aload_n dm_55_44 rfl ?_
  refine im_chk _ (fun hk21 => ?_)
  refine x_getR dm_55_45 fl_6_22 rfl rfl hk21 ?_
  refine x_iconst (-1) dm_55_48 (by decide) ?_
  refine im_callV mf_150 rfl (tn_150 _ (-1 : Int32) _) (im_runS (as := [.inr _, .inl (-1 : Int32)]) (rest := []) dm_55_49 mf_150 (Nat.le_of_ble_eq_true rfl) ml_6_25 mi_150 mp_150 (Nat.le_of_ble_eq_true rfl)) rfl (fun b22 hb22 => ?_)
  exact x_return dm_55_52 rfl
/-- FencedModules$Source.empty()V -/
def fn_56 (j : Nat) (h : im_H) : Option (im_H) :=
  if h.2.1 j = (0, 6) then (let h2 : im_H := im_pI h j 5 (0 : Int32); (fn_150 (im_gR h j 4) (-1 : Int32) h2).bind fun b3 => some b3) else none
set_option maxRecDepth 100000 in
set_option maxHeartbeats 4000000 in
theorem tn_56 (j : Nat) (h : im_H) : im_Go im_zV 1 fm_56 0 (im_en 0 [.inr (some j)]) [] h (fn_56 j h) := by
  unfold fn_56
  refine x_aload_n dm_56_0 rfl ?_
  refine x_iconst (0) dm_56_1 (by decide) ?_
  refine im_chk _ (fun hk1 => ?_)
  refine x_putI dm_56_2 fl_6_31 rfl rfl hk1 ?_
  refine x_aload_n dm_56_5 rfl ?_
  refine x_getR dm_56_6 fl_6_22 rfl rfl hk1 ?_
  refine x_iconst (-1) dm_56_9 (by decide) ?_
  refine im_callV mf_150 rfl (tn_150 _ (-1 : Int32) _) (im_runS (as := [.inr _, .inl (-1 : Int32)]) (rest := []) dm_56_10 mf_150 (Nat.le_of_ble_eq_true rfl) ml_6_25 mi_150 mp_150 (Nat.le_of_ble_eq_true rfl)) rfl (fun b3 hb3 => ?_)
  exact x_return dm_56_13 rfl
/-- FencedModules$Source.opAt(I)I -/
def fn_61 (j : Nat) (x1 : Int32) (h : im_H) : Option (Int32 × im_H) :=
  if h.2.1 j = (0, 6) then ((fn_60 j x1 h).bind fun b2 => if b2.1 = 0 then (some ((0 : Int32), b2.2)) else (if b2.2.2.1 j = (0, 6) then (((im_gR b2.2 j 0)).bind fun q5 => if im_in b2.2 1 q5 x1 then (some ((im_gI b2.2 q5 (x1).toNatClampNeg), b2.2)) else none) else none)) else none
set_option maxRecDepth 100000 in
set_option maxHeartbeats 4000000 in
theorem tn_61 (j : Nat) (x1 : Int32) (h : im_H) : im_Go im_zI 1 fm_61 0 (im_en 0 [.inr (some j), .inl x1]) [] h (fn_61 j x1 h) := by
  unfold fn_61
  refine x_aload_n dm_61_0 rfl ?_
  refine x_iload_n dm_61_1 rfl ?_
  refine im_chk _ (fun hk1 => ?_)
  refine im_callI mf_60 rfl (tn_60 j x1 h) (im_runV (as := [.inl x1]) (rest := []) dm_61_2 mf_60 (Nat.le_of_ble_eq_true rfl) ml_6_39 mi_60 ms_60 mp_60 (Nat.le_of_ble_eq_true rfl) rfl hk1 ⟨_, _, rfl⟩) rfl (fun b2 hb2 => ?_)
  refine x_if_eq 17 dm_61_5 rfl (fun c3 => ?_) (fun c3 => ?_)
  · refine x_iconst (0) dm_61_17 (by decide) ?_
    exact x_ireturn dm_61_18 rfl
  · refine x_aload_n dm_61_8 rfl ?_
    refine im_chk _ (fun hk4 => ?_)
    refine x_getR dm_61_9 fl_6_9 rfl rfl hk4 ?_
    refine x_iload_n dm_61_12 rfl ?_
    refine im_bind (fun q5 hq5 => ?_)
    refine im_chk _ (fun hi6 => ?_)
    refine x_iaload dm_61_13 hq5 hi6 ?_
    refine x_goto 18 dm_61_14 rfl ?_
    exact x_ireturn dm_61_18 rfl
/-- FencedModules$Source.aAt(I)I -/
def fn_62 (j : Nat) (x1 : Int32) (h : im_H) : Option (Int32 × im_H) :=
  if h.2.1 j = (0, 6) then ((fn_60 j x1 h).bind fun b2 => if b2.1 = 0 then (some ((0 : Int32), b2.2)) else (if b2.2.2.1 j = (0, 6) then (((im_gR b2.2 j 1)).bind fun q5 => if im_in b2.2 1 q5 x1 then (some ((im_gI b2.2 q5 (x1).toNatClampNeg), b2.2)) else none) else none)) else none
set_option maxRecDepth 100000 in
set_option maxHeartbeats 4000000 in
theorem tn_62 (j : Nat) (x1 : Int32) (h : im_H) : im_Go im_zI 1 fm_62 0 (im_en 0 [.inr (some j), .inl x1]) [] h (fn_62 j x1 h) := by
  unfold fn_62
  refine x_aload_n dm_62_0 rfl ?_
  refine x_iload_n dm_62_1 rfl ?_
  refine im_chk _ (fun hk1 => ?_)
  refine im_callI mf_60 rfl (tn_60 j x1 h) (im_runV (as := [.inl x1]) (rest := []) dm_62_2 mf_60 (Nat.le_of_ble_eq_true rfl) ml_6_39 mi_60 ms_60 mp_60 (Nat.le_of_ble_eq_true rfl) rfl hk1 ⟨_, _, rfl⟩) rfl (fun b2 hb2 => ?_)
  refine x_if_eq 17 dm_62_5 rfl (fun c3 => ?_) (fun c3 => ?_)
  · refine x_iconst (0) dm_62_17 (by decide) ?_
    exact x_ireturn dm_62_18 rfl
  · refine x_aload_n dm_62_8 rfl ?_
    refine im_chk _ (fun hk4 => ?_)
    refine x_getR dm_62_9 fl_6_13 rfl rfl hk4 ?_
    refine x_iload_n dm_62_12 rfl ?_
    refine im_bind (fun q5 hq5 => ?_)
    refine im_chk _ (fun hi6 => ?_)
    refine x_iaload dm_62_13 hq5 hi6 ?_
    refine x_goto 18 dm_62_14 rfl ?_
    exact x_ireturn dm_62_18 rfl
/-- FencedModules$Source.bAt(I)I -/
def fn_63 (j : Nat) (x1 : Int32) (h : im_H) : Option (Int32 × im_H) :=
  if h.2.1 j = (0, 6) then ((fn_60 j x1 h).bind fun b2 => if b2.1 = 0 then (some ((0 : Int32), b2.2)) else (if b2.2.2.1 j = (0, 6) then (((im_gR b2.2 j 2)).bind fun q5 => if im_in b2.2 1 q5 x1 then (some ((im_gI b2.2 q5 (x1).toNatClampNeg), b2.2)) else none) else none)) else none
set_option maxRecDepth 100000 in
set_option maxHeartbeats 4000000 in
theorem tn_63 (j : Nat) (x1 : Int32) (h : im_H) : im_Go im_zI 1 fm_63 0 (im_en 0 [.inr (some j), .inl x1]) [] h (fn_63 j x1 h) := by
  unfold fn_63
  refine x_aload_n dm_63_0 rfl ?_
  refine x_iload_n dm_63_1 rfl ?_
  refine im_chk _ (fun hk1 => ?_)
  refine im_callI mf_60 rfl (tn_60 j x1 h) (im_runV (as := [.inl x1]) (rest := []) dm_63_2 mf_60 (Nat.le_of_ble_eq_true rfl) ml_6_39 mi_60 ms_60 mp_60 (Nat.le_of_ble_eq_true rfl) rfl hk1 ⟨_, _, rfl⟩) rfl (fun b2 hb2 => ?_)
  refine x_if_eq 17 dm_63_5 rfl (fun c3 => ?_) (fun c3 => ?_)
  · refine x_iconst (0) dm_63_17 (by decide) ?_
    exact x_ireturn dm_63_18 rfl
  · refine x_aload_n dm_63_8 rfl ?_
    refine im_chk _ (fun hk4 => ?_)
    refine x_getR dm_63_9 fl_6_16 rfl rfl hk4 ?_
    refine x_iload_n dm_63_12 rfl ?_
    refine im_bind (fun q5 hq5 => ?_)
    refine im_chk _ (fun hi6 => ?_)
    refine x_iaload dm_63_13 hq5 hi6 ?_
    refine x_goto 18 dm_63_14 rfl ?_
    exact x_ireturn dm_63_18 rfl
/-- FencedModules$Source.iAt(I)I -/
def fn_64 (j : Nat) (x1 : Int32) (h : im_H) : Option (Int32 × im_H) :=
  if h.2.1 j = (0, 6) then ((fn_60 j x1 h).bind fun b2 => if b2.1 = 0 then (some ((0 : Int32), b2.2)) else (if b2.2.2.1 j = (0, 6) then (((im_gR b2.2 j 3)).bind fun q5 => if im_in b2.2 1 q5 x1 then (some ((im_gI b2.2 q5 (x1).toNatClampNeg), b2.2)) else none) else none)) else none
set_option maxRecDepth 100000 in
set_option maxHeartbeats 4000000 in
theorem tn_64 (j : Nat) (x1 : Int32) (h : im_H) : im_Go im_zI 1 fm_64 0 (im_en 0 [.inr (some j), .inl x1]) [] h (fn_64 j x1 h) := by
  unfold fn_64
  refine x_aload_n dm_64_0 rfl ?_
  refine x_iload_n dm_64_1 rfl ?_
  refine im_chk _ (fun hk1 => ?_)
  refine im_callI mf_60 rfl (tn_60 j x1 h) (im_runV (as := [.inl x1]) (rest := []) dm_64_2 mf_60 (Nat.le_of_ble_eq_true rfl) ml_6_39 mi_60 ms_60 mp_60 (Nat.le_of_ble_eq_true rfl) rfl hk1 ⟨_, _, rfl⟩) rfl (fun b2 hb2 => ?_)
  refine x_if_eq 17 dm_64_5 rfl (fun c3 => ?_) (fun c3 => ?_)
  · refine x_iconst (0) dm_64_17 (by decide) ?_
    exact x_ireturn dm_64_18 rfl
  · refine x_aload_n dm_64_8 rfl ?_
    refine im_chk _ (fun hk4 => ?_)
    refine x_getR dm_64_9 fl_6_19 rfl rfl hk4 ?_
    refine x_iload_n dm_64_12 rfl ?_
    refine im_bind (fun q5 hq5 => ?_)
    refine im_chk _ (fun hi6 => ?_)
    refine x_iaload dm_64_13 hq5 hi6 ?_
    refine x_goto 18 dm_64_14 rfl ?_
    exact x_ireturn dm_64_18 rfl
/-- FencedModules$Source.placeOf(I)I -/
def fn_66 (j : Nat) (x1 : Int32) (h : im_H) : Option (Int32 × im_H) :=
  if h.2.1 j = (0, 6) then ((fn_65 j x1 h).bind fun b2 => if b2.1 = 0 then (if b2.2.2.1 j = (0, 6) then (some ((im_gI b2.2 j 5), b2.2)) else none) else (if b2.2.2.1 j = (0, 6) then (((im_gR b2.2 j 4)).bind fun q6 => if im_in b2.2 1 q6 x1 then (some ((im_gI b2.2 q6 (x1).toNatClampNeg), b2.2)) else none) else none)) else none
set_option maxRecDepth 100000 in
set_option maxHeartbeats 4000000 in
theorem tn_66 (j : Nat) (x1 : Int32) (h : im_H) : im_Go im_zI 1 fm_66 0 (im_en 0 [.inr (some j), .inl x1]) [] h (fn_66 j x1 h) := by
  unfold fn_66
  refine x_aload_n dm_66_0 rfl ?_
  refine x_iload_n dm_66_1 rfl ?_
  refine im_chk _ (fun hk1 => ?_)
  refine im_callI mf_65 rfl (tn_65 j x1 h) (im_runV (as := [.inl x1]) (rest := []) dm_66_2 mf_65 (Nat.le_of_ble_eq_true rfl) ml_6_43 mi_65 ms_65 mp_65 (Nat.le_of_ble_eq_true rfl) rfl hk1 ⟨_, _, rfl⟩) rfl (fun b2 hb2 => ?_)
  refine x_if_eq 17 dm_66_5 rfl (fun c3 => ?_) (fun c3 => ?_)
  · refine x_aload_n dm_66_17 rfl ?_
    refine im_chk _ (fun hk4 => ?_)
    refine x_getI dm_66_18 fl_6_31 rfl rfl hk4 ?_
    exact x_ireturn dm_66_21 rfl
  · refine x_aload_n dm_66_8 rfl ?_
    refine im_chk _ (fun hk5 => ?_)
    refine x_getR dm_66_9 fl_6_22 rfl rfl hk5 ?_
    refine x_iload_n dm_66_12 rfl ?_
    refine im_bind (fun q6 hq6 => ?_)
    refine im_chk _ (fun hi7 => ?_)
    refine x_iaload dm_66_13 hq6 hi7 ?_
    refine x_goto 21 dm_66_14 rfl ?_
    exact x_ireturn dm_66_21 rfl
def fn_68_4 (j : Nat) : Nat → Int32 → Int32 → Int32 → im_H → Option (Int32 × im_H)
  | 0, _, _, _, _ => none
  | n + 1, y1, y2, y3, h =>
    if y1 ≤ y3 then (some (y2, h)) else (if h.2.1 j = (0, 6) then (if (im_gI h j 5) ≤ y3 then (some (y2, h)) else (((im_gR h j 0)).bind fun q4 => if im_in h 1 q4 y3 then ((fn_69 (im_gI h q4 (y3).toNatClampNeg) h).bind fun b6 => let v7 : Int32 := (y2 + b6.1); let v8 : Int32 := (y3 + (1 : Int32)); fn_68_4 j n y1 v7 v8 b6.2) else none)) else none)
set_option maxRecDepth 100000 in
set_option maxHeartbeats 4000000 in
theorem tn_68_4 (j : Nat) : ∀ (n : Nat) (y1 : Int32) (y2 : Int32) (y3 : Int32) (h : im_H), im_Go im_zI 1 fm_68 4 [(0, .inr (some j)), (1, .inl y1), (2, .inl y2), (3, .inl y3)] [] h (fn_68_4 j n y1 y2 y3 h)
  | 0, y1, y2, y3, h => im_none
  | n + 1, y1, y2, y3, h => by
    have ih := tn_68_4 j n
    unfold fn_68_4
    refine x_iload_n dm_68_4 rfl ?_
    refine x_iload_n dm_68_5 rfl ?_
    refine x_icmp_ge 35 dm_68_6 rfl (fun c1 => ?_) (fun c1 => ?_)
    · refine x_iload_n dm_68_35 rfl ?_
      exact x_ireturn dm_68_36 rfl
    · refine x_iload_n dm_68_9 rfl ?_
      refine x_aload_n dm_68_10 rfl ?_
      refine im_chk _ (fun hk2 => ?_)
      refine x_getI dm_68_11 fl_6_31 rfl rfl hk2 ?_
      refine x_icmp_ge 35 dm_68_14 rfl (fun c3 => ?_) (fun c3 => ?_)
      · refine x_iload_n dm_68_35 rfl ?_
        exact x_ireturn dm_68_36 rfl
      · refine x_iload_n dm_68_17 rfl ?_
        refine x_aload_n dm_68_18 rfl ?_
        refine x_getR dm_68_19 fl_6_9 rfl rfl hk2 ?_
        refine x_iload_n dm_68_22 rfl ?_
        refine im_bind (fun q4 hq4 => ?_)
        refine im_chk _ (fun hi5 => ?_)
        refine x_iaload dm_68_23 hq4 hi5 ?_
        refine im_callI mf_69 rfl (tn_69 _ h) (im_runS (as := [.inl _]) (rest := [.inl y2]) dm_68_24 mf_69 (Nat.le_of_ble_eq_true rfl) ml_6_58 mi_69 mp_69 (Nat.le_of_ble_eq_true rfl)) rfl (fun b6 hb6 => ?_)
        refine x_iadd dm_68_27 ?_
        refine x_istore_n dm_68_28 (Nat.le_of_ble_eq_true rfl) ?_
        refine x_iinc (1) dm_68_29 rfl (by decide) (Nat.le_of_ble_eq_true rfl) ?_
        refine x_goto 4 dm_68_32 rfl ?_
        exact im_lsub [(0, .inr (some j)), (1, .inl y1), (2, .inl _), (3, .inl _)] (im_sb_c rfl (im_sb_c rfl (im_sb_c rfl (im_sb_c rfl im_sb_n)))) (ih y1 _ _ b6.2)
/-- FencedModules$Source.wordsBefore(I)I -/
def fn_68 (j : Nat) (x1 : Int32) (h : im_H) : Option (Int32 × im_H) :=
  fn_68_4 j 1000 x1 (0 : Int32) (0 : Int32) h
set_option maxRecDepth 100000 in
set_option maxHeartbeats 4000000 in
theorem tn_68 (j : Nat) (x1 : Int32) (h : im_H) : im_Go im_zI 1 fm_68 0 (im_en 0 [.inr (some j), .inl x1]) [] h (fn_68 j x1 h) := by
  unfold fn_68
  refine x_iconst (0) dm_68_0 (by decide) ?_
  refine x_istore_n dm_68_1 (Nat.le_of_ble_eq_true rfl) ?_
  refine x_iconst (0) dm_68_2 (by decide) ?_
  refine x_istore_n dm_68_3 (Nat.le_of_ble_eq_true rfl) ?_
  exact im_lsub [(0, .inr (some j)), (1, .inl x1), (2, .inl (0 : Int32)), (3, .inl (0 : Int32))] (im_sb_c rfl (im_sb_c rfl (im_sb_c rfl (im_sb_c rfl im_sb_n)))) (tn_68_4 j 1000 x1 (0 : Int32) (0 : Int32) h)
/-- FencedModules.line(IIII)Z -/
def fn_73 (j : Nat) (x1 : Int32) (x2 : Int32) (x3 : Int32) (x4 : Int32) (h : im_H) : Option (Int32 × im_H) :=
  if h.2.1 j = (0, 7) then (((im_gR h j 0)).bind fun q2 => if h.2.1 q2 = (0, 6) then ((fn_57 q2 x1 x2 x3 x4 h).bind fun b4 => if b4.1 &&& 1 = b4.1 then some (b4.1, b4.2) else none) else none) else none
set_option maxRecDepth 100000 in
set_option maxHeartbeats 4000000 in
theorem tn_73 (j : Nat) (x1 : Int32) (x2 : Int32) (x3 : Int32) (x4 : Int32) (h : im_H) : im_Go im_zI 1 fm_73 0 (im_en 0 [.inr (some j), .inl x1, .inl x2, .inl x3, .inl x4]) [] h (fn_73 j x1 x2 x3 x4 h) := by
  unfold fn_73
  refine x_aload_n dm_73_0 rfl ?_
  refine im_chk _ (fun hk1 => ?_)
  refine x_getR dm_73_1 fl_7_10 rfl rfl hk1 ?_
  refine x_iload_n dm_73_4 rfl ?_
  refine x_iload_n dm_73_5 rfl ?_
  refine x_iload_n dm_73_6 rfl ?_
  refine x_iload dm_73_7 rfl ?_
  refine im_bind (fun q2 hq2 => ?_)
  refine im_chk _ (fun hk3 => ?_)
  refine im_callI mf_57 rfl (im_eqo hq2 (tn_57 q2 x1 x2 x3 x4 h)) (im_runV (as := [.inl x1, .inl x2, .inl x3, .inl x4]) (rest := []) dm_73_9 mf_57 (Nat.le_of_ble_eq_true rfl) ml_7_37 mi_57 ms_57 mp_57 (Nat.le_of_ble_eq_true rfl) hq2 hk3 ⟨_, _, rfl⟩) rfl (fun b4 hb4 => ?_)
  refine im_chk _ (fun hz5 => ?_)
  exact x_zreturn dm_73_12 rfl hz5
/-- FencedModules.mark(I)Z -/
def fn_74 (j : Nat) (x1 : Int32) (h : im_H) : Option (Int32 × im_H) :=
  if h.2.1 j = (0, 7) then (((im_gR h j 0)).bind fun q2 => if h.2.1 q2 = (0, 6) then ((fn_58 q2 x1 h).bind fun b4 => if b4.1 &&& 1 = b4.1 then some (b4.1, b4.2) else none) else none) else none
set_option maxRecDepth 100000 in
set_option maxHeartbeats 4000000 in
theorem tn_74 (j : Nat) (x1 : Int32) (h : im_H) : im_Go im_zI 1 fm_74 0 (im_en 0 [.inr (some j), .inl x1]) [] h (fn_74 j x1 h) := by
  unfold fn_74
  refine x_aload_n dm_74_0 rfl ?_
  refine im_chk _ (fun hk1 => ?_)
  refine x_getR dm_74_1 fl_7_10 rfl rfl hk1 ?_
  refine x_iload_n dm_74_4 rfl ?_
  refine im_bind (fun q2 hq2 => ?_)
  refine im_chk _ (fun hk3 => ?_)
  refine im_callI mf_58 rfl (im_eqo hq2 (tn_58 q2 x1 h)) (im_runV (as := [.inl x1]) (rest := []) dm_74_5 mf_58 (Nat.le_of_ble_eq_true rfl) ml_7_41 mi_58 ms_58 mp_58 (Nat.le_of_ble_eq_true rfl) hq2 hk3 ⟨_, _, rfl⟩) rfl (fun b4 hb4 => ?_)
  refine im_chk _ (fun hz5 => ?_)
  exact x_zreturn dm_74_8 rfl hz5
/-- FencedModules.word(I)Z -/
def fn_77 (j : Nat) (x1 : Int32) (h : im_H) : Option (Int32 × im_H) :=
  if h.2.1 j = (0, 7) then (((im_gR h j 1)).bind fun q2 => if h.2.1 q2 = (0, 1) then ((fn_6 q2 x1 h).bind fun b4 => if b4.1 &&& 1 = b4.1 then some (b4.1, b4.2) else none) else none) else none
set_option maxRecDepth 100000 in
set_option maxHeartbeats 4000000 in
theorem tn_77 (j : Nat) (x1 : Int32) (h : im_H) : im_Go im_zI 1 fm_77 0 (im_en 0 [.inr (some j), .inl x1]) [] h (fn_77 j x1 h) := by
  unfold fn_77
  refine x_aload_n dm_77_0 rfl ?_
  refine im_chk _ (fun hk1 => ?_)
  refine x_getR dm_77_1 fl_7_19 rfl rfl hk1 ?_
  refine x_iload_n dm_77_4 rfl ?_
  refine im_bind (fun q2 hq2 => ?_)
  refine im_chk _ (fun hk3 => ?_)
  refine im_callI mf_6 rfl (im_eqo hq2 (tn_6 q2 x1 h)) (im_runV (as := [.inl x1]) (rest := []) dm_77_5 mf_6 (Nat.le_of_ble_eq_true rfl) ml_7_68 mi_6 ms_6 mp_6 (Nat.le_of_ble_eq_true rfl) hq2 hk3 ⟨_, _, rfl⟩) rfl (fun b4 hb4 => ?_)
  refine im_chk _ (fun hz5 => ?_)
  exact x_zreturn dm_77_8 rfl hz5
/-- FencedModules.module(I)I -/
def fn_78 (j : Nat) (x1 : Int32) (h : im_H) : Option (Int32 × im_H) :=
  if x1 = (-1 : Int32) then (if h.2.1 j = (0, 7) then (((im_gR h j 1)).bind fun q3 => if h.2.1 q3 = (0, 1) then ((fn_7 q3 h).bind fun b5 => some (b5.1, b5.2)) else none) else none) else (if h.2.1 j = (0, 7) then (((im_gR h j 1)).bind fun q7 => if h.2.1 q7 = (0, 1) then ((fn_8 q7 x1 h).bind fun b9 => some (b9.1, b9.2)) else none) else none)
set_option maxRecDepth 100000 in
set_option maxHeartbeats 4000000 in
theorem tn_78 (j : Nat) (x1 : Int32) (h : im_H) : im_Go im_zI 1 fm_78 0 (im_en 0 [.inr (some j), .inl x1]) [] h (fn_78 j x1 h) := by
  unfold fn_78
  refine x_iload_n dm_78_0 rfl ?_
  refine x_iconst (-1) dm_78_1 (by decide) ?_
  refine x_icmp_ne 15 dm_78_2 rfl (fun c1 => ?_) (fun c1 => ?_)
  · refine x_aload_n dm_78_5 rfl ?_
    refine im_chk _ (fun hk2 => ?_)
    refine x_getR dm_78_6 fl_7_19 rfl rfl hk2 ?_
    refine im_bind (fun q3 hq3 => ?_)
    refine im_chk _ (fun hk4 => ?_)
    refine im_callI mf_7 rfl (im_eqo hq3 (tn_7 q3 h)) (im_runV (as := []) (rest := []) dm_78_9 mf_7 (Nat.le_of_ble_eq_true rfl) ml_7_64 mi_7 ms_7 mp_7 (Nat.le_of_ble_eq_true rfl) hq3 hk4 ⟨_, _, rfl⟩) rfl (fun b5 hb5 => ?_)
    refine x_goto 23 dm_78_12 rfl ?_
    exact x_ireturn dm_78_23 rfl
  · refine x_aload_n dm_78_15 rfl ?_
    refine im_chk _ (fun hk6 => ?_)
    refine x_getR dm_78_16 fl_7_19 rfl rfl hk6 ?_
    refine x_iload_n dm_78_19 rfl ?_
    refine im_bind (fun q7 hq7 => ?_)
    refine im_chk _ (fun hk8 => ?_)
    refine im_callI mf_8 rfl (im_eqo hq7 (tn_8 q7 x1 h)) (im_runV (as := [.inl x1]) (rest := []) dm_78_20 mf_8 (Nat.le_of_ble_eq_true rfl) ml_7_71 mi_8 ms_8 mp_8 (Nat.le_of_ble_eq_true rfl) hq7 hk8 ⟨_, _, rfl⟩) rfl (fun b9 hb9 => ?_)
    exact x_ireturn dm_78_23 rfl
/-- FencedModules.peek(I)I -/
def fn_86 (j : Nat) (x1 : Int32) (h : im_H) : Option (Int32 × im_H) :=
  if h.2.1 j = (0, 7) then (((im_gR h j 2)).bind fun q2 => if h.2.1 q2 = (0, 4) then ((fn_32 q2 x1 h).bind fun b4 => some (b4.1, b4.2)) else none) else none
set_option maxRecDepth 100000 in
set_option maxHeartbeats 4000000 in
theorem tn_86 (j : Nat) (x1 : Int32) (h : im_H) : im_Go im_zI 1 fm_86 0 (im_en 0 [.inr (some j), .inl x1]) [] h (fn_86 j x1 h) := by
  unfold fn_86
  refine x_aload_n dm_86_0 rfl ?_
  refine im_chk _ (fun hk1 => ?_)
  refine x_getR dm_86_1 fl_7_26 rfl rfl hk1 ?_
  refine x_iload_n dm_86_4 rfl ?_
  refine im_bind (fun q2 hq2 => ?_)
  refine im_chk _ (fun hk3 => ?_)
  refine im_callI mf_32 rfl (im_eqo hq2 (tn_32 q2 x1 h)) (im_runV (as := [.inl x1]) (rest := []) dm_86_5 mf_32 (Nat.le_of_ble_eq_true rfl) ml_7_106 mi_32 ms_32 mp_32 (Nat.le_of_ble_eq_true rfl) hq2 hk3 ⟨_, _, rfl⟩) rfl (fun b4 hb4 => ?_)
  exact x_ireturn dm_86_8 rfl
/-- FencedModules.trace(II)I -/
def fn_90 (j : Nat) (x1 : Int32) (x2 : Int32) (h : im_H) : Option (Int32 × im_H) :=
  if h.2.1 j = (0, 7) then (((im_gR h j 3)).bind fun q2 => if h.2.1 q2 = (0, 3) then (((im_gR h q2 0)).bind fun q4 => if h.2.1 q4 = (0, 2) then (((im_gR h q4 0)).bind fun q6 => if h.2.1 q6 = (0, 0) then ((fn_3 q6 x1 x2 h).bind fun b8 => some (b8.1, b8.2)) else none) else none) else none) else none
set_option maxRecDepth 100000 in
set_option maxHeartbeats 4000000 in
theorem tn_90 (j : Nat) (x1 : Int32) (x2 : Int32) (h : im_H) : im_Go im_zI 1 fm_90 0 (im_en 0 [.inr (some j), .inl x1, .inl x2]) [] h (fn_90 j x1 x2 h) := by
  unfold fn_90
  refine x_aload_n dm_90_0 rfl ?_
  refine im_chk _ (fun hk1 => ?_)
  refine x_getR dm_90_1 fl_7_33 rfl rfl hk1 ?_
  refine im_bind (fun q2 hq2 => ?_)
  refine im_chk _ (fun hk3 => ?_)
  refine x_getR dm_90_4 fl_7_132 rfl hq2 hk3 ?_
  refine im_bind (fun q4 hq4 => ?_)
  refine im_chk _ (fun hk5 => ?_)
  refine x_getR dm_90_7 fl_7_116 rfl hq4 hk5 ?_
  refine x_iload_n dm_90_10 rfl ?_
  refine x_iload_n dm_90_11 rfl ?_
  refine im_bind (fun q6 hq6 => ?_)
  refine im_chk _ (fun hk7 => ?_)
  refine im_callI mf_3 rfl (im_eqo hq6 (tn_3 q6 x1 x2 h)) (im_runV (as := [.inl x1, .inl x2]) (rest := []) dm_90_12 mf_3 (Nat.le_of_ble_eq_true rfl) ml_7_122 mi_3 ms_3 mp_3 (Nat.le_of_ble_eq_true rfl) hq6 hk7 ⟨_, _, rfl⟩) rfl (fun b8 hb8 => ?_)
  exact x_ireturn dm_90_15 rfl
/-- FencedModules$Rewriter.addFence(LFencedModules$Code;IIII)V -/
def fn_135 (x0 : Option Nat) (x1 : Int32) (x2 : Int32) (x3 : Int32) (x4 : Int32) (h : im_H) : Option (im_H) :=
  (fn_147 (6 : Int32) x1 x2 x3 h).bind fun b1 => (x0).bind fun q2 => if b1.2.2.1 q2 = (0, 1) then ((fn_6 q2 b1.1 b1.2).bind fun b4 => (fn_147 (7 : Int32) x1 x1 x4 b4.2).bind fun b5 => if b5.2.2.1 q2 = (0, 1) then ((fn_6 q2 b5.1 b5.2).bind fun b7 => some b7.2) else none) else none
set_option maxRecDepth 100000 in
set_option maxHeartbeats 4000000 in
theorem tn_135 (x0 : Option Nat) (x1 : Int32) (x2 : Int32) (x3 : Int32) (x4 : Int32) (h : im_H) : im_Go im_zV 1 fm_135 0 (im_en 0 [.inr x0, .inl x1, .inl x2, .inl x3, .inl x4]) [] h (fn_135 x0 x1 x2 x3 x4 h) := by
  unfold fn_135
  refine x_aload_n dm_135_0 rfl ?_
  refine x_bipush (6) dm_135_1 (by decide) ?_
  refine x_iload_n dm_135_3 rfl ?_
  refine x_iload_n dm_135_4 rfl ?_
  refine x_iload_n dm_135_5 rfl ?_
  refine im_callI mf_147 rfl (tn_147 (6 : Int32) x1 x2 x3 h) (im_runS (as := [.inl (6 : Int32), .inl x1, .inl x2, .inl x3]) (rest := [.inr x0]) dm_135_6 mf_147 (Nat.le_of_ble_eq_true rfl) ml_9_26 mi_147 mp_147 (Nat.le_of_ble_eq_true rfl)) rfl (fun b1 hb1 => ?_)
  refine im_bind (fun q2 hq2 => ?_)
  refine im_chk _ (fun hk3 => ?_)
  refine im_callI mf_6 rfl (im_eqo hq2 (tn_6 q2 b1.1 b1.2)) (im_runV (as := [.inl b1.1]) (rest := []) dm_135_9 mf_6 (Nat.le_of_ble_eq_true rfl) ml_9_30 mi_6 ms_6 mp_6 (Nat.le_of_ble_eq_true rfl) hq2 hk3 ⟨_, _, rfl⟩) rfl (fun b4 hb4 => ?_)
  refine x_pop dm_135_12 ?_
  refine x_aload_n dm_135_13 rfl ?_
  refine x_bipush (7) dm_135_14 (by decide) ?_
  refine x_iload_n dm_135_16 rfl ?_
  refine x_iload_n dm_135_17 rfl ?_
  refine x_iload dm_135_18 rfl ?_
  refine im_callI mf_147 rfl (tn_147 (7 : Int32) x1 x1 x4 b4.2) (im_runS (as := [.inl (7 : Int32), .inl x1, .inl x1, .inl x4]) (rest := [.inr x0]) dm_135_20 mf_147 (Nat.le_of_ble_eq_true rfl) ml_9_26 mi_147 mp_147 (Nat.le_of_ble_eq_true rfl)) rfl (fun b5 hb5 => ?_)
  refine im_chk _ (fun hk6 => ?_)
  refine im_callI mf_6 rfl (im_eqo hq2 (tn_6 q2 b5.1 b5.2)) (im_runV (as := [.inl b5.1]) (rest := []) dm_135_23 mf_6 (Nat.le_of_ble_eq_true rfl) ml_9_30 mi_6 ms_6 mp_6 (Nat.le_of_ble_eq_true rfl) hq2 hk6 ⟨_, _, rfl⟩) rfl (fun b7 hb7 => ?_)
  refine x_pop dm_135_26 ?_
  exact x_return dm_135_27 rfl
def fn_138_80 (y0 : Int32) (y1 : Int32) (y2 : Int32) (y3 : Int32) (h : im_H) : Option (Int32 × im_H) :=
  (fn_147 y0 y1 y2 y3 h).bind fun b1 => some (b1.1, b1.2)
set_option maxRecDepth 100000 in
set_option maxHeartbeats 4000000 in
theorem tn_138_80 (y0 : Int32) (y1 : Int32) (y2 : Int32) (y3 : Int32) (h : im_H) : im_Go im_zI 1 fm_138 80 [(0, .inl y0), (1, .inl y1), (2, .inl y2), (3, .inl y3)] [] h (fn_138_80 y0 y1 y2 y3 h) := by
  unfold fn_138_80
  refine x_iload_n dm_138_80 rfl ?_
  refine x_iload_n dm_138_81 rfl ?_
  refine x_iload_n dm_138_82 rfl ?_
  refine x_iload_n dm_138_83 rfl ?_
  refine im_callI mf_147 rfl (tn_147 y0 y1 y2 y3 h) (im_runS (as := [.inl y0, .inl y1, .inl y2, .inl y3]) (rest := []) dm_138_84 mf_147 (Nat.le_of_ble_eq_true rfl) ml_9_26 mi_147 mp_147 (Nat.le_of_ble_eq_true rfl)) rfl (fun b1 hb1 => ?_)
  exact x_ireturn dm_138_87 rfl
def fn_138_88 (y0 : Int32) (y1 : Int32) (y2 : Int32) (h : im_H) : Option (Int32 × im_H) :=
  (fn_147 y0 y1 y2 (0 : Int32) h).bind fun b1 => some (b1.1, b1.2)
set_option maxRecDepth 100000 in
set_option maxHeartbeats 4000000 in
theorem tn_138_88 (y0 : Int32) (y1 : Int32) (y2 : Int32) (h : im_H) : im_Go im_zI 1 fm_138 88 [(0, .inl y0), (1, .inl y1), (2, .inl y2)] [] h (fn_138_88 y0 y1 y2 h) := by
  unfold fn_138_88
  refine x_iload_n dm_138_88 rfl ?_
  refine x_iload_n dm_138_89 rfl ?_
  refine x_iload_n dm_138_90 rfl ?_
  refine x_iconst (0) dm_138_91 (by decide) ?_
  refine im_callI mf_147 rfl (tn_147 y0 y1 y2 (0 : Int32) h) (im_runS (as := [.inl y0, .inl y1, .inl y2, .inl (0 : Int32)]) (rest := []) dm_138_92 mf_147 (Nat.le_of_ble_eq_true rfl) ml_9_26 mi_147 mp_147 (Nat.le_of_ble_eq_true rfl)) rfl (fun b1 hb1 => ?_)
  exact x_ireturn dm_138_95 rfl
def fn_138_104 (h : im_H) : Option (Int32 × im_H) :=
  (fn_147 (0 : Int32) (0 : Int32) (0 : Int32) (0 : Int32) h).bind fun b1 => some (b1.1, b1.2)
set_option maxRecDepth 100000 in
set_option maxHeartbeats 4000000 in
theorem tn_138_104 (h : im_H) : im_Go im_zI 1 fm_138 104 [] [] h (fn_138_104 h) := by
  unfold fn_138_104
  refine x_iconst (0) dm_138_104 (by decide) ?_
  refine x_iconst (0) dm_138_105 (by decide) ?_
  refine x_iconst (0) dm_138_106 (by decide) ?_
  refine x_iconst (0) dm_138_107 (by decide) ?_
  refine im_callI mf_147 rfl (tn_147 (0 : Int32) (0 : Int32) (0 : Int32) (0 : Int32) h) (im_runS (as := [.inl (0 : Int32), .inl (0 : Int32), .inl (0 : Int32), .inl (0 : Int32)]) (rest := []) dm_138_108 mf_147 (Nat.le_of_ble_eq_true rfl) ml_9_26 mi_147 mp_147 (Nat.le_of_ble_eq_true rfl)) rfl (fun b1 hb1 => ?_)
  exact x_ireturn dm_138_111 rfl
/-- FencedModules$Rewriter.withoutUnusedFields(IIII)I -/
def fn_138 (x0 : Int32) (x1 : Int32) (x2 : Int32) (x3 : Int32) (h : im_H) : Option (Int32 × im_H) :=
  if x0 = 1 then ((fn_147 x0 x1 (0 : Int32) x3 h).bind fun b2 => some (b2.1, b2.2)) else (if x0 = 2 then (fn_138_80 x0 x1 x2 x3 h) else (if x0 = 3 then (fn_138_88 x0 x1 x2 h) else (if x0 = 4 then (fn_138_88 x0 x1 x2 h) else (if x0 = 5 then (fn_138_88 x0 x1 x2 h) else (if x0 = 6 then (fn_138_80 x0 x1 x2 x3 h) else (if x0 = 7 then (fn_138_80 x0 x1 x2 x3 h) else (if x0 = 8 then (fn_138_104 h) else (if x0 = 9 then (fn_138_104 h) else (if x0 = 10 then (fn_138_104 h) else (if x0 = 11 then (fn_138_104 h) else (if x0 = 12 then (fn_138_104 h) else (if x0 = 13 then (fn_138_104 h) else (if x0 = 14 then ((fn_147 x0 (0 : Int32) (0 : Int32) x3 h).bind fun b16 => some (b16.1, b16.2)) else (fn_138_104 h))))))))))))))
set_option maxRecDepth 100000 in
set_option maxHeartbeats 4000000 in
theorem tn_138 (x0 : Int32) (x1 : Int32) (x2 : Int32) (x3 : Int32) (h : im_H) : im_Go im_zI 1 fm_138 0 (im_en 0 [.inl x0, .inl x1, .inl x2, .inl x3]) [] h (fn_138 x0 x1 x2 x3 h) := by
  unfold fn_138
  refine x_iload_n dm_138_0 rfl ?_
  refine im_test _ (fun c1 => ?_) (fun c1 => ?_)
  · refine x_tabIn 1 72 dm_138_1 c1 (by decide) (by decide) rfl rfl ?_
    refine x_iload_n dm_138_72 rfl ?_
    refine x_iload_n dm_138_73 rfl ?_
    refine x_iconst (0) dm_138_74 (by decide) ?_
    refine x_iload_n dm_138_75 rfl ?_
    refine im_callI mf_147 rfl (tn_147 x0 x1 (0 : Int32) x3 h) (im_runS (as := [.inl x0, .inl x1, .inl (0 : Int32), .inl x3]) (rest := []) dm_138_76 mf_147 (Nat.le_of_ble_eq_true rfl) ml_9_26 mi_147 mp_147 (Nat.le_of_ble_eq_true rfl)) rfl (fun b2 hb2 => ?_)
    exact x_ireturn dm_138_79 rfl
  refine im_test _ (fun c3 => ?_) (fun c3 => ?_)
  · refine x_tabIn 2 80 dm_138_1 c3 (by decide) (by decide) rfl rfl ?_
    exact im_lsub [(0, .inl x0), (1, .inl x1), (2, .inl x2), (3, .inl x3)] (im_sb_c rfl (im_sb_c rfl (im_sb_c rfl (im_sb_c rfl im_sb_n)))) (tn_138_80 x0 x1 x2 x3 h)
  refine im_test _ (fun c4 => ?_) (fun c4 => ?_)
  · refine x_tabIn 3 88 dm_138_1 c4 (by decide) (by decide) rfl rfl ?_
    exact im_lsub [(0, .inl x0), (1, .inl x1), (2, .inl x2)] (im_sb_c rfl (im_sb_c rfl (im_sb_c rfl im_sb_n))) (tn_138_88 x0 x1 x2 h)
  refine im_test _ (fun c5 => ?_) (fun c5 => ?_)
  · refine x_tabIn 4 88 dm_138_1 c5 (by decide) (by decide) rfl rfl ?_
    exact im_lsub [(0, .inl x0), (1, .inl x1), (2, .inl x2)] (im_sb_c rfl (im_sb_c rfl (im_sb_c rfl im_sb_n))) (tn_138_88 x0 x1 x2 h)
  refine im_test _ (fun c6 => ?_) (fun c6 => ?_)
  · refine x_tabIn 5 88 dm_138_1 c6 (by decide) (by decide) rfl rfl ?_
    exact im_lsub [(0, .inl x0), (1, .inl x1), (2, .inl x2)] (im_sb_c rfl (im_sb_c rfl (im_sb_c rfl im_sb_n))) (tn_138_88 x0 x1 x2 h)
  refine im_test _ (fun c7 => ?_) (fun c7 => ?_)
  · refine x_tabIn 6 80 dm_138_1 c7 (by decide) (by decide) rfl rfl ?_
    exact im_lsub [(0, .inl x0), (1, .inl x1), (2, .inl x2), (3, .inl x3)] (im_sb_c rfl (im_sb_c rfl (im_sb_c rfl (im_sb_c rfl im_sb_n)))) (tn_138_80 x0 x1 x2 x3 h)
  refine im_test _ (fun c8 => ?_) (fun c8 => ?_)
  · refine x_tabIn 7 80 dm_138_1 c8 (by decide) (by decide) rfl rfl ?_
    exact im_lsub [(0, .inl x0), (1, .inl x1), (2, .inl x2), (3, .inl x3)] (im_sb_c rfl (im_sb_c rfl (im_sb_c rfl (im_sb_c rfl im_sb_n)))) (tn_138_80 x0 x1 x2 x3 h)
  refine im_test _ (fun c9 => ?_) (fun c9 => ?_)
  · refine x_tabIn 8 104 dm_138_1 c9 (by decide) (by decide) rfl rfl ?_
    exact im_lsub [] im_sb_n (tn_138_104 h)
  refine im_test _ (fun c10 => ?_) (fun c10 => ?_)
  · refine x_tabIn 9 104 dm_138_1 c10 (by decide) (by decide) rfl rfl ?_
    exact im_lsub [] im_sb_n (tn_138_104 h)
  refine im_test _ (fun c11 => ?_) (fun c11 => ?_)
  · refine x_tabIn 10 104 dm_138_1 c11 (by decide) (by decide) rfl rfl ?_
    exact im_lsub [] im_sb_n (tn_138_104 h)
  refine im_test _ (fun c12 => ?_) (fun c12 => ?_)
  · refine x_tabIn 11 104 dm_138_1 c12 (by decide) (by decide) rfl rfl ?_
    exact im_lsub [] im_sb_n (tn_138_104 h)
  refine im_test _ (fun c13 => ?_) (fun c13 => ?_)
  · refine x_tabIn 12 104 dm_138_1 c13 (by decide) (by decide) rfl rfl ?_
    exact im_lsub [] im_sb_n (tn_138_104 h)
  refine im_test _ (fun c14 => ?_) (fun c14 => ?_)
  · refine x_tabIn 13 104 dm_138_1 c14 (by decide) (by decide) rfl rfl ?_
    exact im_lsub [] im_sb_n (tn_138_104 h)
  refine im_test _ (fun c15 => ?_) (fun c15 => ?_)
  · refine x_tabIn 14 96 dm_138_1 c15 (by decide) (by decide) rfl rfl ?_
    refine x_iload_n dm_138_96 rfl ?_
    refine x_iconst (0) dm_138_97 (by decide) ?_
    refine x_iconst (0) dm_138_98 (by decide) ?_
    refine x_iload_n dm_138_99 rfl ?_
    refine im_callI mf_147 rfl (tn_147 x0 (0 : Int32) (0 : Int32) x3 h) (im_runS (as := [.inl x0, .inl (0 : Int32), .inl (0 : Int32), .inl x3]) (rest := []) dm_138_100 mf_147 (Nat.le_of_ble_eq_true rfl) ml_9_26 mi_147 mp_147 (Nat.le_of_ble_eq_true rfl)) rfl (fun b16 hb16 => ?_)
    exact x_ireturn dm_138_103 rfl
  refine x_tabOut 104 dm_138_1 (im_swout (1) 14 (by decide) (by decide) (fun i hi => match i, hi with | 0, _ => c1 | 1, _ => c3 | 2, _ => c4 | 3, _ => c5 | 4, _ => c6 | 5, _ => c7 | 6, _ => c8 | 7, _ => c9 | 8, _ => c10 | 9, _ => c11 | 10, _ => c12 | 11, _ => c13 | 12, _ => c14 | 13, _ => c15 | i + 14, hi => absurd hi (by omega))) rfl ?_
  exact im_lsub [] im_sb_n (tn_138_104 h)
