theorem im_eqo {α : Type} {z : α → im_rs} {d : Nat} {F : im_F} {pc q : Nat} {as st : List im_V} {h : im_H} {t : Option α} {o : Option Nat} (ho : o = some q) (k : im_Go z d F pc (im_en 0 (.inr (some q) :: as)) st h t) : im_Go z d F pc (im_en 0 (.inr o :: as)) st h t := by
  subst ho
  exact k
theorem im_sb_n {lv : im_L} : im_sb lv [] := trivial
theorem im_sb_c {lv L : im_L} {i : Nat} {v : im_V} (h : lv.lookup i = some v) (k : im_sb lv L) : im_sb lv ((i, v) :: L) := ⟨h, k⟩
theorem im_lk3 {x : Int32} {a b c d : Int} (h1 : ¬ x = 8) (h2 : ¬ x = 9) (h3 : ¬ x = 13) : Op.lookupswitch.offset [(8, a), (9, b), (13, c)] d x.toInt = d := by
  have e1 : ¬ (8 : Int) = x.toInt := fun h => h1 (Int32.toInt_inj.mp h.symm)
  have e2 : ¬ (9 : Int) = x.toInt := fun h => h2 (Int32.toInt_inj.mp h.symm)
  have e3 : ¬ (13 : Int) = x.toInt := fun h => h3 (Int32.toInt_inj.mp h.symm)
  simp [Op.lookupswitch.offset, e1, e2, e3]
/-- FencedModules$CallList.empty()V -/
def fn_1 (j : Nat) (h : im_H) : Option (im_H) :=
  if h.2.1 j = (0, 0) then (let h2 : im_H := im_pI h j 3 (0 : Int32); some h2) else none
set_option maxRecDepth 100000 in
set_option maxHeartbeats 4000000 in
theorem tn_1 (j : Nat) (h : im_H) : im_Go im_zV 0 fm_1 0 (im_en 0 [.inr (some j)]) [] h (fn_1 j h) := by
  unfold fn_1
  refine x_aload_n dm_1_0 rfl ?_
  refine x_iconst (0) dm_1_1 (by decide) ?_
  refine im_chk _ (fun hk1 => ?_)
  refine x_putI dm_1_2 fl_0_19 rfl rfl hk1 ?_
  exact x_return dm_1_5 rfl
def fn_2_46 (j : Nat) (h : im_H) : Option (im_H) :=
  if h.2.1 j = (0, 0) then (let h2 : im_H := im_pI h j 3 ((im_gI h j 3) + (1 : Int32)); some h2) else none
set_option maxRecDepth 100000 in
set_option maxHeartbeats 4000000 in
theorem tn_2_46 (j : Nat) (h : im_H) : im_Go im_zV 0 fm_2 46 [(0, .inr (some j))] [] h (fn_2_46 j h) := by
  unfold fn_2_46
  refine x_aload_n dm_2_46 rfl ?_
  refine x_dup dm_2_47 ?_
  refine im_chk _ (fun hk1 => ?_)
  refine x_getI dm_2_48 fl_0_19 rfl rfl hk1 ?_
  refine x_iconst (1) dm_2_51 (by decide) ?_
  refine x_iadd dm_2_52 ?_
  refine x_putI dm_2_53 fl_0_19 rfl rfl hk1 ?_
  exact x_return dm_2_56 rfl
/-- FencedModules$CallList.note(III)V -/
def fn_2 (j : Nat) (x1 : Int32) (x2 : Int32) (x3 : Int32) (h : im_H) : Option (im_H) :=
  if h.2.1 j = (0, 0) then (if (im_gI h j 3) < 0 then (fn_2_46 j h) else (if (16 : Int32) ≤ (im_gI h j 3) then (fn_2_46 j h) else (((im_gR h j 0)).bind fun q4 => if im_in h 1 q4 (im_gI h j 3) then (let h6 : im_H := im_pI h q4 ((im_gI h j 3)).toNatClampNeg x1; ((im_gR h j 1)).bind fun q7 => if im_in h 1 q7 (im_gI h6 j 3) then (let h9 : im_H := im_pI h6 q7 ((im_gI h6 j 3)).toNatClampNeg x2; ((im_gR h j 2)).bind fun q10 => if im_in h 1 q10 (im_gI h9 j 3) then (let h12 : im_H := im_pI h9 q10 ((im_gI h9 j 3)).toNatClampNeg x3; fn_2_46 j h12) else none) else none) else none))) else none
set_option maxRecDepth 100000 in
set_option maxHeartbeats 4000000 in
theorem tn_2 (j : Nat) (x1 : Int32) (x2 : Int32) (x3 : Int32) (h : im_H) : im_Go im_zV 0 fm_2 0 (im_en 0 [.inr (some j), .inl x1, .inl x2, .inl x3]) [] h (fn_2 j x1 x2 x3 h) := by
  unfold fn_2
  refine x_aload_n dm_2_0 rfl ?_
  refine im_chk _ (fun hk1 => ?_)
  refine x_getI dm_2_1 fl_0_19 rfl rfl hk1 ?_
  refine x_if_lt 46 dm_2_4 rfl (fun c2 => ?_) (fun c2 => ?_)
  · exact im_lsub [(0, .inr (some j))] (im_sb_c rfl im_sb_n) (tn_2_46 j h)
  · refine x_aload_n dm_2_7 rfl ?_
    refine x_getI dm_2_8 fl_0_19 rfl rfl hk1 ?_
    refine x_bipush (16) dm_2_11 (by decide) ?_
    refine x_icmp_ge 46 dm_2_13 rfl (fun c3 => ?_) (fun c3 => ?_)
    · exact im_lsub [(0, .inr (some j))] (im_sb_c rfl im_sb_n) (tn_2_46 j h)
    · refine x_aload_n dm_2_16 rfl ?_
      refine x_getR dm_2_17 fl_0_9 rfl rfl hk1 ?_
      refine x_aload_n dm_2_20 rfl ?_
      refine x_getI dm_2_21 fl_0_19 rfl rfl hk1 ?_
      refine x_iload_n dm_2_24 rfl ?_
      refine im_bind (fun q4 hq4 => ?_)
      refine im_chk _ (fun hi5 => ?_)
      refine x_iastore dm_2_25 hq4 hi5 ?_
      refine x_aload_n dm_2_26 rfl ?_
      refine x_getR dm_2_27 fl_0_13 rfl rfl hk1 ?_
      refine x_aload_n dm_2_30 rfl ?_
      refine x_getI dm_2_31 fl_0_19 rfl rfl hk1 ?_
      refine x_iload_n dm_2_34 rfl ?_
      refine im_bind (fun q7 hq7 => ?_)
      refine im_chk _ (fun hi8 => ?_)
      refine x_iastore dm_2_35 hq7 hi8 ?_
      refine x_aload_n dm_2_36 rfl ?_
      refine x_getR dm_2_37 fl_0_16 rfl rfl hk1 ?_
      refine x_aload_n dm_2_40 rfl ?_
      refine x_getI dm_2_41 fl_0_19 rfl rfl hk1 ?_
      refine x_iload_n dm_2_44 rfl ?_
      refine im_bind (fun q10 hq10 => ?_)
      refine im_chk _ (fun hi11 => ?_)
      refine x_iastore dm_2_45 hq10 hi11 ?_
      exact im_lsub [(0, .inr (some j))] (im_sb_c rfl im_sb_n) (tn_2_46 j _)
/-- FencedModules$CallList.tell(II)I -/
def fn_3 (j : Nat) (x1 : Int32) (x2 : Int32) (h : im_H) : Option (Int32 × im_H) :=
  if x1 = (-1 : Int32) then (if h.2.1 j = (0, 0) then (some ((im_gI h j 3), h)) else none) else (if x1 < 0 then (some ((0 : Int32), h)) else (if (16 : Int32) ≤ x1 then (some ((0 : Int32), h)) else (if h.2.1 j = (0, 0) then (if x1 < (im_gI h j 3) then (if x2 = 0 then (((im_gR h j 0)).bind fun q8 => if im_in h 1 q8 x1 then (some ((im_gI h q8 (x1).toNatClampNeg), h)) else none) else (if x2 = 1 then (((im_gR h j 1)).bind fun q11 => if im_in h 1 q11 x1 then (some ((im_gI h q11 (x1).toNatClampNeg), h)) else none) else (if x2 = 2 then (((im_gR h j 2)).bind fun q14 => if im_in h 1 q14 x1 then (some ((im_gI h q14 (x1).toNatClampNeg), h)) else none) else (some ((0 : Int32), h))))) else (some ((0 : Int32), h))) else none)))
set_option maxRecDepth 100000 in
set_option maxHeartbeats 4000000 in
theorem tn_3 (j : Nat) (x1 : Int32) (x2 : Int32) (h : im_H) : im_Go im_zI 0 fm_3 0 (im_en 0 [.inr (some j), .inl x1, .inl x2]) [] h (fn_3 j x1 x2 h) := by
  unfold fn_3
  refine x_iload_n dm_3_0 rfl ?_
  refine x_iconst (-1) dm_3_1 (by decide) ?_
  refine x_icmp_ne 10 dm_3_2 rfl (fun c1 => ?_) (fun c1 => ?_)
  · refine x_aload_n dm_3_5 rfl ?_
    refine im_chk _ (fun hk2 => ?_)
    refine x_getI dm_3_6 fl_0_19 rfl rfl hk2 ?_
    exact x_ireturn dm_3_9 rfl
  · refine x_iload_n dm_3_10 rfl ?_
    refine x_if_lt 28 dm_3_11 rfl (fun c3 => ?_) (fun c3 => ?_)
    · refine x_iconst (0) dm_3_28 (by decide) ?_
      exact x_ireturn dm_3_29 rfl
    · refine x_iload_n dm_3_14 rfl ?_
      refine x_bipush (16) dm_3_15 (by decide) ?_
      refine x_icmp_ge 28 dm_3_17 rfl (fun c4 => ?_) (fun c4 => ?_)
      · refine x_iconst (0) dm_3_28 (by decide) ?_
        exact x_ireturn dm_3_29 rfl
      · refine x_iload_n dm_3_20 rfl ?_
        refine x_aload_n dm_3_21 rfl ?_
        refine im_chk _ (fun hk5 => ?_)
        refine x_getI dm_3_22 fl_0_19 rfl rfl hk5 ?_
        refine x_icmp_lt 30 dm_3_25 rfl (fun c6 => ?_) (fun c6 => ?_)
        · refine x_iload_n dm_3_30 rfl ?_
          refine im_test _ (fun c7 => ?_) (fun c7 => ?_)
          · refine x_tabIn 0 56 dm_3_31 c7 (by decide) (by decide) rfl rfl ?_
            refine x_aload_n dm_3_56 rfl ?_
            refine x_getR dm_3_57 fl_0_9 rfl rfl hk5 ?_
            refine x_iload_n dm_3_60 rfl ?_
            refine im_bind (fun q8 hq8 => ?_)
            refine im_chk _ (fun hi9 => ?_)
            refine x_iaload dm_3_61 hq8 hi9 ?_
            exact x_ireturn dm_3_62 rfl
          refine im_test _ (fun c10 => ?_) (fun c10 => ?_)
          · refine x_tabIn 1 63 dm_3_31 c10 (by decide) (by decide) rfl rfl ?_
            refine x_aload_n dm_3_63 rfl ?_
            refine x_getR dm_3_64 fl_0_13 rfl rfl hk5 ?_
            refine x_iload_n dm_3_67 rfl ?_
            refine im_bind (fun q11 hq11 => ?_)
            refine im_chk _ (fun hi12 => ?_)
            refine x_iaload dm_3_68 hq11 hi12 ?_
            exact x_ireturn dm_3_69 rfl
          refine im_test _ (fun c13 => ?_) (fun c13 => ?_)
          · refine x_tabIn 2 70 dm_3_31 c13 (by decide) (by decide) rfl rfl ?_
            refine x_aload_n dm_3_70 rfl ?_
            refine x_getR dm_3_71 fl_0_16 rfl rfl hk5 ?_
            refine x_iload_n dm_3_74 rfl ?_
            refine im_bind (fun q14 hq14 => ?_)
            refine im_chk _ (fun hi15 => ?_)
            refine x_iaload dm_3_75 hq14 hi15 ?_
            exact x_ireturn dm_3_76 rfl
          refine x_tabOut 77 dm_3_31 (im_swout (0) 3 (by decide) (by decide) (fun i hi => match i, hi with | 0, _ => c7 | 1, _ => c10 | 2, _ => c13 | i + 3, hi => absurd hi (by omega))) rfl ?_
          refine x_iconst (0) dm_3_77 (by decide) ?_
          exact x_ireturn dm_3_78 rfl
        · refine x_iconst (0) dm_3_28 (by decide) ?_
          exact x_ireturn dm_3_29 rfl
/-- FencedModules$Code.empty()V -/
def fn_5 (j : Nat) (h : im_H) : Option (im_H) :=
  if h.2.1 j = (0, 1) then (let h2 : im_H := im_pI h j 1 (0 : Int32); some h2) else none
set_option maxRecDepth 100000 in
set_option maxHeartbeats 4000000 in
theorem tn_5 (j : Nat) (h : im_H) : im_Go im_zV 0 fm_5 0 (im_en 0 [.inr (some j)]) [] h (fn_5 j h) := by
  unfold fn_5
  refine x_aload_n dm_5_0 rfl ?_
  refine x_iconst (0) dm_5_1 (by decide) ?_
  refine im_chk _ (fun hk1 => ?_)
  refine x_putI dm_5_2 fl_1_13 rfl rfl hk1 ?_
  exact x_return dm_5_5 rfl
/-- FencedModules$Code.add(I)Z -/
def fn_6 (j : Nat) (x1 : Int32) (h : im_H) : Option (Int32 × im_H) :=
  if h.2.1 j = (0, 1) then (if (im_gI h j 1) < (31 : Int32) then (((im_gR h j 0)).bind fun q3 => if im_in h 1 q3 (im_gI h j 1) then (let h5 : im_H := im_pI h q3 ((im_gI h j 1)).toNatClampNeg x1; let h6 : im_H := im_pI h5 j 1 ((im_gI h5 j 1) + (1 : Int32)); some ((1 : Int32), h6)) else none) else (some ((0 : Int32), h))) else none
set_option maxRecDepth 100000 in
set_option maxHeartbeats 4000000 in
theorem tn_6 (j : Nat) (x1 : Int32) (h : im_H) : im_Go im_zI 0 fm_6 0 (im_en 0 [.inr (some j), .inl x1]) [] h (fn_6 j x1 h) := by
  unfold fn_6
  refine x_aload_n dm_6_0 rfl ?_
  refine im_chk _ (fun hk1 => ?_)
  refine x_getI dm_6_1 fl_1_13 rfl rfl hk1 ?_
  refine x_bipush (31) dm_6_4 (by decide) ?_
  refine x_icmp_lt 11 dm_6_6 rfl (fun c2 => ?_) (fun c2 => ?_)
  · refine x_aload_n dm_6_11 rfl ?_
    refine x_getR dm_6_12 fl_1_9 rfl rfl hk1 ?_
    refine x_aload_n dm_6_15 rfl ?_
    refine x_getI dm_6_16 fl_1_13 rfl rfl hk1 ?_
    refine x_iload_n dm_6_19 rfl ?_
    refine im_bind (fun q3 hq3 => ?_)
    refine im_chk _ (fun hi4 => ?_)
    refine x_iastore dm_6_20 hq3 hi4 ?_
    refine x_aload_n dm_6_21 rfl ?_
    refine x_dup dm_6_22 ?_
    refine x_getI dm_6_23 fl_1_13 rfl rfl hk1 ?_
    refine x_iconst (1) dm_6_26 (by decide) ?_
    refine x_iadd dm_6_27 ?_
    refine x_putI dm_6_28 fl_1_13 rfl rfl hk1 ?_
    refine x_iconst (1) dm_6_31 (by decide) ?_
    exact x_zreturn dm_6_32 rfl (by decide)
  · refine x_iconst (0) dm_6_9 (by decide) ?_
    exact x_zreturn dm_6_10 rfl (by decide)
/-- FencedModules$Code.count()I -/
def fn_7 (j : Nat) (h : im_H) : Option (Int32 × im_H) :=
  if h.2.1 j = (0, 1) then (some ((im_gI h j 1), h)) else none
set_option maxRecDepth 100000 in
set_option maxHeartbeats 4000000 in
theorem tn_7 (j : Nat) (h : im_H) : im_Go im_zI 0 fm_7 0 (im_en 0 [.inr (some j)]) [] h (fn_7 j h) := by
  unfold fn_7
  refine x_aload_n dm_7_0 rfl ?_
  refine im_chk _ (fun hk1 => ?_)
  refine x_getI dm_7_1 fl_1_13 rfl rfl hk1 ?_
  exact x_ireturn dm_7_4 rfl
/-- FencedModules$Code.at(I)I -/
def fn_8 (j : Nat) (x1 : Int32) (h : im_H) : Option (Int32 × im_H) :=
  if x1 < 0 then (some ((0 : Int32), h)) else (if h.2.1 j = (0, 1) then (if (im_gI h j 1) ≤ x1 then (some ((0 : Int32), h)) else (((im_gR h j 0)).bind fun q4 => if im_in h 1 q4 x1 then (some ((im_gI h q4 (x1).toNatClampNeg), h)) else none)) else none)
set_option maxRecDepth 100000 in
set_option maxHeartbeats 4000000 in
theorem tn_8 (j : Nat) (x1 : Int32) (h : im_H) : im_Go im_zI 0 fm_8 0 (im_en 0 [.inr (some j), .inl x1]) [] h (fn_8 j x1 h) := by
  unfold fn_8
  refine x_iload_n dm_8_0 rfl ?_
  refine x_if_lt 21 dm_8_1 rfl (fun c1 => ?_) (fun c1 => ?_)
  · refine x_iconst (0) dm_8_21 (by decide) ?_
    exact x_ireturn dm_8_22 rfl
  · refine x_iload_n dm_8_4 rfl ?_
    refine x_aload_n dm_8_5 rfl ?_
    refine im_chk _ (fun hk2 => ?_)
    refine x_getI dm_8_6 fl_1_13 rfl rfl hk2 ?_
    refine x_icmp_ge 21 dm_8_9 rfl (fun c3 => ?_) (fun c3 => ?_)
    · refine x_iconst (0) dm_8_21 (by decide) ?_
      exact x_ireturn dm_8_22 rfl
    · refine x_aload_n dm_8_12 rfl ?_
      refine x_getR dm_8_13 fl_1_9 rfl rfl hk2 ?_
      refine x_iload_n dm_8_16 rfl ?_
      refine im_bind (fun q4 hq4 => ?_)
      refine im_chk _ (fun hi5 => ?_)
      refine x_iaload dm_8_17 hq4 hi5 ?_
      refine x_goto 22 dm_8_18 rfl ?_
      exact x_ireturn dm_8_22 rfl
/-- FencedModules$Desk.answers(I)Z -/
def fn_10 (x0 : Int32) (h : im_H) : Option (Int32 × im_H) :=
  if x0 < 0 then (some ((0 : Int32), h)) else (if (6 : Int32) < x0 then (some ((0 : Int32), h)) else (some ((1 : Int32), h)))
set_option maxRecDepth 100000 in
set_option maxHeartbeats 4000000 in
theorem tn_10 (x0 : Int32) (h : im_H) : im_Go im_zI 0 fm_10 0 (im_en 0 [.inl x0]) [] h (fn_10 x0 h) := by
  unfold fn_10
  refine x_iload_n dm_10_0 rfl ?_
  refine x_if_lt 14 dm_10_1 rfl (fun c1 => ?_) (fun c1 => ?_)
  · refine x_iconst (0) dm_10_14 (by decide) ?_
    exact x_zreturn dm_10_15 rfl (by decide)
  · refine x_iload_n dm_10_4 rfl ?_
    refine x_bipush (6) dm_10_5 (by decide) ?_
    refine x_icmp_gt 14 dm_10_7 rfl (fun c2 => ?_) (fun c2 => ?_)
    · refine x_iconst (0) dm_10_14 (by decide) ?_
      exact x_zreturn dm_10_15 rfl (by decide)
    · refine x_iconst (1) dm_10_10 (by decide) ?_
      refine x_goto 15 dm_10_11 rfl ?_
      exact x_zreturn dm_10_15 rfl (by decide)
/-- FencedModules$Desk.argumentsOf(I)I -/
def fn_11 (x0 : Int32) (h : im_H) : Option (Int32 × im_H) :=
  if x0 = 1 then (some ((1 : Int32), h)) else (if x0 = 2 then (some ((0 : Int32), h)) else (if x0 = 3 then (some ((1 : Int32), h)) else (if x0 = 4 then (some ((2 : Int32), h)) else (if x0 = 5 then (some ((2 : Int32), h)) else (some ((0 : Int32), h))))))
set_option maxRecDepth 100000 in
set_option maxHeartbeats 4000000 in
theorem tn_11 (x0 : Int32) (h : im_H) : im_Go im_zI 0 fm_11 0 (im_en 0 [.inl x0]) [] h (fn_11 x0 h) := by
  unfold fn_11
  refine x_iload_n dm_11_0 rfl ?_
  refine im_test _ (fun c1 => ?_) (fun c1 => ?_)
  · refine x_tabIn 1 36 dm_11_1 c1 (by decide) (by decide) rfl rfl ?_
    refine x_iconst (1) dm_11_36 (by decide) ?_
    exact x_ireturn dm_11_37 rfl
  refine im_test _ (fun c2 => ?_) (fun c2 => ?_)
  · refine x_tabIn 2 40 dm_11_1 c2 (by decide) (by decide) rfl rfl ?_
    refine x_iconst (0) dm_11_40 (by decide) ?_
    exact x_ireturn dm_11_41 rfl
  refine im_test _ (fun c3 => ?_) (fun c3 => ?_)
  · refine x_tabIn 3 36 dm_11_1 c3 (by decide) (by decide) rfl rfl ?_
    refine x_iconst (1) dm_11_36 (by decide) ?_
    exact x_ireturn dm_11_37 rfl
  refine im_test _ (fun c4 => ?_) (fun c4 => ?_)
  · refine x_tabIn 4 38 dm_11_1 c4 (by decide) (by decide) rfl rfl ?_
    refine x_iconst (2) dm_11_38 (by decide) ?_
    exact x_ireturn dm_11_39 rfl
  refine im_test _ (fun c5 => ?_) (fun c5 => ?_)
  · refine x_tabIn 5 38 dm_11_1 c5 (by decide) (by decide) rfl rfl ?_
    refine x_iconst (2) dm_11_38 (by decide) ?_
    exact x_ireturn dm_11_39 rfl
  refine x_tabOut 40 dm_11_1 (im_swout (1) 5 (by decide) (by decide) (fun i hi => match i, hi with | 0, _ => c1 | 1, _ => c2 | 2, _ => c3 | 3, _ => c4 | 4, _ => c5 | i + 5, hi => absurd hi (by omega))) rfl ?_
  refine x_iconst (0) dm_11_40 (by decide) ?_
  exact x_ireturn dm_11_41 rfl
/-- FencedModules$Desk.canPrint(II)Z -/
def fn_12 (x0 : Int32) (x1 : Int32) (h : im_H) : Option (Int32 × im_H) :=
  if x0 < 0 then (some ((0 : Int32), h)) else (if (16 : Int32) < x0 then (some ((0 : Int32), h)) else (if x1 < 0 then (some ((0 : Int32), h)) else (if ((16 : Int32) - x0) < x1 then (some ((0 : Int32), h)) else (some ((1 : Int32), h)))))
set_option maxRecDepth 100000 in
set_option maxHeartbeats 4000000 in
theorem tn_12 (x0 : Int32) (x1 : Int32) (h : im_H) : im_Go im_zI 0 fm_12 0 (im_en 0 [.inl x0, .inl x1]) [] h (fn_12 x0 x1 h) := by
  unfold fn_12
  refine x_iload_n dm_12_0 rfl ?_
  refine x_if_lt 26 dm_12_1 rfl (fun c1 => ?_) (fun c1 => ?_)
  · refine x_iconst (0) dm_12_26 (by decide) ?_
    exact x_zreturn dm_12_27 rfl (by decide)
  · refine x_iload_n dm_12_4 rfl ?_
    refine x_bipush (16) dm_12_5 (by decide) ?_
    refine x_icmp_gt 26 dm_12_7 rfl (fun c2 => ?_) (fun c2 => ?_)
    · refine x_iconst (0) dm_12_26 (by decide) ?_
      exact x_zreturn dm_12_27 rfl (by decide)
    · refine x_iload_n dm_12_10 rfl ?_
      refine x_if_lt 26 dm_12_11 rfl (fun c3 => ?_) (fun c3 => ?_)
      · refine x_iconst (0) dm_12_26 (by decide) ?_
        exact x_zreturn dm_12_27 rfl (by decide)
      · refine x_iload_n dm_12_14 rfl ?_
        refine x_bipush (16) dm_12_15 (by decide) ?_
        refine x_iload_n dm_12_17 rfl ?_
        refine x_isub dm_12_18 ?_
        refine x_icmp_gt 26 dm_12_19 rfl (fun c4 => ?_) (fun c4 => ?_)
        · refine x_iconst (0) dm_12_26 (by decide) ?_
          exact x_zreturn dm_12_27 rfl (by decide)
        · refine x_iconst (1) dm_12_22 (by decide) ?_
          refine x_goto 27 dm_12_23 rfl ?_
          exact x_zreturn dm_12_27 rfl (by decide)
/-- FencedModules$Desk.allocate(I)I -/
def fn_15 (j : Nat) (x1 : Int32) (h : im_H) : Option (Int32 × im_H) :=
  if x1 < (1 : Int32) then (some ((-1 : Int32), h)) else (if h.2.1 j = (0, 2) then (if x1 ≤ ((16 : Int32) - (im_gI h j 1)) then (let v4 : Int32 := (im_gI h j 1); let h5 : im_H := im_pI h j 1 ((im_gI h j 1) + x1); some (v4, h5)) else (some ((-1 : Int32), h))) else none)
set_option maxRecDepth 100000 in
set_option maxHeartbeats 4000000 in
theorem tn_15 (j : Nat) (x1 : Int32) (h : im_H) : im_Go im_zI 0 fm_15 0 (im_en 0 [.inr (some j), .inl x1]) [] h (fn_15 j x1 h) := by
  unfold fn_15
  refine x_iload_n dm_15_0 rfl ?_
  refine x_iconst (1) dm_15_1 (by decide) ?_
  refine x_icmp_lt 16 dm_15_2 rfl (fun c1 => ?_) (fun c1 => ?_)
  · refine x_iconst (-1) dm_15_16 (by decide) ?_
    exact x_ireturn dm_15_17 rfl
  · refine x_iload_n dm_15_5 rfl ?_
    refine x_bipush (16) dm_15_6 (by decide) ?_
    refine x_aload_n dm_15_8 rfl ?_
    refine im_chk _ (fun hk2 => ?_)
    refine x_getI dm_15_9 fl_2_21 rfl rfl hk2 ?_
    refine x_isub dm_15_12 ?_
    refine x_icmp_le 18 dm_15_13 rfl (fun c3 => ?_) (fun c3 => ?_)
    · refine x_aload_n dm_15_18 rfl ?_
      refine x_getI dm_15_19 fl_2_21 rfl rfl hk2 ?_
      refine x_istore_n dm_15_22 (Nat.le_of_ble_eq_true rfl) ?_
      refine x_aload_n dm_15_23 rfl ?_
      refine x_dup dm_15_24 ?_
      refine x_getI dm_15_25 fl_2_21 rfl rfl hk2 ?_
      refine x_iload_n dm_15_28 rfl ?_
      refine x_iadd dm_15_29 ?_
      refine x_putI dm_15_30 fl_2_21 rfl rfl hk2 ?_
      refine x_iload_n dm_15_33 rfl ?_
      exact x_ireturn dm_15_34 rfl
    · refine x_iconst (-1) dm_15_16 (by decide) ?_
      exact x_ireturn dm_15_17 rfl
/-- FencedModules$Desk.takeInput(LFencedModules$Sandbox;)I -/
def fn_16 (j : Nat) (x1 : Option Nat) (h : im_H) : Option (Int32 × im_H) :=
  if h.2.1 j = (0, 2) then (if (im_gI h j 2) < 0 then (some ((-1 : Int32), h)) else ((x1).bind fun q3 => if h.2.1 q3 = (0, 5) then (if (im_gI h j 2) < (im_gI h q3 4) then (((im_gR h q3 2)).bind fun q6 => if im_in h 1 q6 (im_gI h j 2) then (let v8 : Int32 := (im_gI h q6 ((im_gI h j 2)).toNatClampNeg); let h9 : im_H := im_pI h j 2 ((im_gI h j 2) + (1 : Int32)); some (v8, h9)) else none) else (some ((-1 : Int32), h))) else none)) else none
set_option maxRecDepth 100000 in
set_option maxHeartbeats 4000000 in
theorem tn_16 (j : Nat) (x1 : Option Nat) (h : im_H) : im_Go im_zI 0 fm_16 0 (im_en 0 [.inr (some j), .inr x1]) [] h (fn_16 j x1 h) := by
  unfold fn_16
  refine x_aload_n dm_16_0 rfl ?_
  refine im_chk _ (fun hk1 => ?_)
  refine x_getI dm_16_1 fl_2_25 rfl rfl hk1 ?_
  refine x_if_lt 18 dm_16_4 rfl (fun c2 => ?_) (fun c2 => ?_)
  · refine x_iconst (-1) dm_16_18 (by decide) ?_
    exact x_ireturn dm_16_19 rfl
  · refine x_aload_n dm_16_7 rfl ?_
    refine x_getI dm_16_8 fl_2_25 rfl rfl hk1 ?_
    refine x_aload_n dm_16_11 rfl ?_
    refine im_bind (fun q3 hq3 => ?_)
    refine im_chk _ (fun hk4 => ?_)
    refine x_getI dm_16_12 fl_2_36 rfl hq3 hk4 ?_
    refine x_icmp_lt 20 dm_16_15 rfl (fun c5 => ?_) (fun c5 => ?_)
    · refine x_aload_n dm_16_20 rfl ?_
      refine x_getR dm_16_21 fl_2_39 rfl hq3 hk4 ?_
      refine x_aload_n dm_16_24 rfl ?_
      refine x_getI dm_16_25 fl_2_25 rfl rfl hk1 ?_
      refine im_bind (fun q6 hq6 => ?_)
      refine im_chk _ (fun hi7 => ?_)
      refine x_iaload dm_16_28 hq6 hi7 ?_
      refine x_istore_n dm_16_29 (Nat.le_of_ble_eq_true rfl) ?_
      refine x_aload_n dm_16_30 rfl ?_
      refine x_dup dm_16_31 ?_
      refine x_getI dm_16_32 fl_2_25 rfl rfl hk1 ?_
      refine x_iconst (1) dm_16_35 (by decide) ?_
      refine x_iadd dm_16_36 ?_
      refine x_putI dm_16_37 fl_2_25 rfl rfl hk1 ?_
      refine x_iload_n dm_16_40 rfl ?_
      exact x_ireturn dm_16_41 rfl
    · refine x_iconst (-1) dm_16_18 (by decide) ?_
      exact x_ireturn dm_16_19 rfl
/-- FencedModules$Follower.holdsLabel(I)Z -/
def fn_23 (j : Nat) (x1 : Int32) (h : im_H) : Option (Int32 × im_H) :=
  if h.2.1 j = (0, 3) then (((im_gR h j 2)).bind fun q2 => if im_in h 1 q2 x1 then (if (im_gI h q2 (x1).toNatClampNeg) = (-1 : Int32) then (some ((0 : Int32), h)) else (some ((1 : Int32), h))) else none) else none
set_option maxRecDepth 100000 in
set_option maxHeartbeats 4000000 in
theorem tn_23 (j : Nat) (x1 : Int32) (h : im_H) : im_Go im_zI 0 fm_23 0 (im_en 0 [.inr (some j), .inl x1]) [] h (fn_23 j x1 h) := by
  unfold fn_23
  refine x_aload_n dm_23_0 rfl ?_
  refine im_chk _ (fun hk1 => ?_)
  refine x_getR dm_23_1 fl_3_24 rfl rfl hk1 ?_
  refine x_iload_n dm_23_4 rfl ?_
  refine im_bind (fun q2 hq2 => ?_)
  refine im_chk _ (fun hi3 => ?_)
  refine x_iaload dm_23_5 hq2 hi3 ?_
  refine x_iconst (-1) dm_23_6 (by decide) ?_
  refine x_icmp_eq 14 dm_23_7 rfl (fun c4 => ?_) (fun c4 => ?_)
  · refine x_iconst (0) dm_23_14 (by decide) ?_
    exact x_zreturn dm_23_15 rfl (by decide)
  · refine x_iconst (1) dm_23_10 (by decide) ?_
    refine x_goto 15 dm_23_11 rfl ?_
    exact x_zreturn dm_23_15 rfl (by decide)
/-- FencedModules$Follower.isAddress(I)Z -/
def fn_24 (x0 : Int32) (h : im_H) : Option (Int32 × im_H) :=
  if x0 < 0 then (some ((0 : Int32), h)) else (if (16 : Int32) ≤ x0 then (some ((0 : Int32), h)) else (some ((1 : Int32), h)))
set_option maxRecDepth 100000 in
set_option maxHeartbeats 4000000 in
theorem tn_24 (x0 : Int32) (h : im_H) : im_Go im_zI 0 fm_24 0 (im_en 0 [.inl x0]) [] h (fn_24 x0 h) := by
  unfold fn_24
  refine x_iload_n dm_24_0 rfl ?_
  refine x_if_lt 14 dm_24_1 rfl (fun c1 => ?_) (fun c1 => ?_)
  · refine x_iconst (0) dm_24_14 (by decide) ?_
    exact x_zreturn dm_24_15 rfl (by decide)
  · refine x_iload_n dm_24_4 rfl ?_
    refine x_bipush (16) dm_24_5 (by decide) ?_
    refine x_icmp_ge 14 dm_24_7 rfl (fun c2 => ?_) (fun c2 => ?_)
    · refine x_iconst (0) dm_24_14 (by decide) ?_
      exact x_zreturn dm_24_15 rfl (by decide)
    · refine x_iconst (1) dm_24_10 (by decide) ?_
      refine x_goto 15 dm_24_11 rfl ?_
      exact x_zreturn dm_24_15 rfl (by decide)
/-- FencedModules$Follower.copyCell(II)V -/
def fn_26 (j : Nat) (x1 : Int32) (x2 : Int32) (h : im_H) : Option (im_H) :=
  if h.2.1 j = (0, 3) then (((im_gR h j 1)).bind fun q2 => if im_in h 1 q2 x1 then (if im_in h 1 q2 x2 then (let h5 : im_H := im_pI h q2 (x2).toNatClampNeg (im_gI h q2 (x1).toNatClampNeg); ((im_gR h j 2)).bind fun q6 => if im_in h 1 q6 x1 then (if im_in h 1 q6 x2 then (let h9 : im_H := im_pI h5 q6 (x2).toNatClampNeg (im_gI h5 q6 (x1).toNatClampNeg); some h9) else none) else none) else none) else none) else none
set_option maxRecDepth 100000 in
set_option maxHeartbeats 4000000 in
theorem tn_26 (j : Nat) (x1 : Int32) (x2 : Int32) (h : im_H) : im_Go im_zV 0 fm_26 0 (im_en 0 [.inr (some j), .inl x1, .inl x2]) [] h (fn_26 j x1 x2 h) := by
  unfold fn_26
  refine x_aload_n dm_26_0 rfl ?_
  refine im_chk _ (fun hk1 => ?_)
  refine x_getR dm_26_1 fl_3_20 rfl rfl hk1 ?_
  refine x_iload_n dm_26_4 rfl ?_
  refine x_aload_n dm_26_5 rfl ?_
  refine x_getR dm_26_6 fl_3_20 rfl rfl hk1 ?_
  refine x_iload_n dm_26_9 rfl ?_
  refine im_bind (fun q2 hq2 => ?_)
  refine im_chk _ (fun hi3 => ?_)
  refine x_iaload dm_26_10 hq2 hi3 ?_
  refine im_chk _ (fun hi4 => ?_)
  refine x_iastore dm_26_11 hq2 hi4 ?_
  refine x_aload_n dm_26_12 rfl ?_
  refine x_getR dm_26_13 fl_3_24 rfl rfl hk1 ?_
  refine x_iload_n dm_26_16 rfl ?_
  refine x_aload_n dm_26_17 rfl ?_
  refine x_getR dm_26_18 fl_3_24 rfl rfl hk1 ?_
  refine x_iload_n dm_26_21 rfl ?_
  refine im_bind (fun q6 hq6 => ?_)
  refine im_chk _ (fun hi7 => ?_)
  refine x_iaload dm_26_22 hq6 hi7 ?_
  refine im_chk _ (fun hi8 => ?_)
  refine x_iastore dm_26_23 hq6 hi8 ?_
  exact x_return dm_26_24 rfl
/-- FencedModules$Follower.putInt(II)V -/
def fn_27 (j : Nat) (x1 : Int32) (x2 : Int32) (h : im_H) : Option (im_H) :=
  if h.2.1 j = (0, 3) then (((im_gR h j 1)).bind fun q2 => if im_in h 1 q2 x1 then (let h4 : im_H := im_pI h q2 (x1).toNatClampNeg x2; ((im_gR h j 2)).bind fun q5 => if im_in h 1 q5 x1 then (let h7 : im_H := im_pI h4 q5 (x1).toNatClampNeg (-1 : Int32); some h7) else none) else none) else none
set_option maxRecDepth 100000 in
set_option maxHeartbeats 4000000 in
theorem tn_27 (j : Nat) (x1 : Int32) (x2 : Int32) (h : im_H) : im_Go im_zV 0 fm_27 0 (im_en 0 [.inr (some j), .inl x1, .inl x2]) [] h (fn_27 j x1 x2 h) := by
  unfold fn_27
  refine x_aload_n dm_27_0 rfl ?_
  refine im_chk _ (fun hk1 => ?_)
  refine x_getR dm_27_1 fl_3_20 rfl rfl hk1 ?_
  refine x_iload_n dm_27_4 rfl ?_
  refine x_iload_n dm_27_5 rfl ?_
  refine im_bind (fun q2 hq2 => ?_)
  refine im_chk _ (fun hi3 => ?_)
  refine x_iastore dm_27_6 hq2 hi3 ?_
  refine x_aload_n dm_27_7 rfl ?_
  refine x_getR dm_27_8 fl_3_24 rfl rfl hk1 ?_
  refine x_iload_n dm_27_11 rfl ?_
  refine x_iconst (-1) dm_27_12 (by decide) ?_
  refine im_bind (fun q5 hq5 => ?_)
  refine im_chk _ (fun hi6 => ?_)
  refine x_iastore dm_27_13 hq5 hi6 ?_
  exact x_return dm_27_14 rfl
/-- FencedModules$Machine.read(I)I -/
def fn_32 (j : Nat) (x1 : Int32) (h : im_H) : Option (Int32 × im_H) :=
  if x1 < 0 then (some ((0 : Int32), h)) else (if (256 : Int32) ≤ x1 then (some ((0 : Int32), h)) else (if h.2.1 j = (0, 4) then (((im_gR h j 0)).bind fun q4 => if im_in h 1 q4 x1 then (some ((im_gI h q4 (x1).toNatClampNeg), h)) else none) else none))
set_option maxRecDepth 100000 in
set_option maxHeartbeats 4000000 in
theorem tn_32 (j : Nat) (x1 : Int32) (h : im_H) : im_Go im_zI 0 fm_32 0 (im_en 0 [.inr (some j), .inl x1]) [] h (fn_32 j x1 h) := by
  unfold fn_32
  refine x_iload_n dm_32_0 rfl ?_
  refine x_if_lt 20 dm_32_1 rfl (fun c1 => ?_) (fun c1 => ?_)
  · refine x_iconst (0) dm_32_20 (by decide) ?_
    exact x_ireturn dm_32_21 rfl
  · refine x_iload_n dm_32_4 rfl ?_
    refine x_sipush (256) dm_32_5 (by decide) ?_
    refine x_icmp_ge 20 dm_32_8 rfl (fun c2 => ?_) (fun c2 => ?_)
    · refine x_iconst (0) dm_32_20 (by decide) ?_
      exact x_ireturn dm_32_21 rfl
    · refine x_aload_n dm_32_11 rfl ?_
      refine im_chk _ (fun hk3 => ?_)
      refine x_getR dm_32_12 fl_4_9 rfl rfl hk3 ?_
      refine x_iload_n dm_32_15 rfl ?_
      refine im_bind (fun q4 hq4 => ?_)
      refine im_chk _ (fun hi5 => ?_)
      refine x_iaload dm_32_16 hq4 hi5 ?_
      refine x_goto 21 dm_32_17 rfl ?_
      exact x_ireturn dm_32_21 rfl
/-- FencedModules$Machine.write(II)V -/
def fn_33 (j : Nat) (x1 : Int32) (x2 : Int32) (h : im_H) : Option (im_H) :=
  if x1 < 0 then (some h) else (if (256 : Int32) ≤ x1 then (some h) else (if h.2.1 j = (0, 4) then (((im_gR h j 0)).bind fun q4 => if im_in h 1 q4 x1 then (let h6 : im_H := im_pI h q4 (x1).toNatClampNeg x2; some h6) else none) else none))
set_option maxRecDepth 100000 in
set_option maxHeartbeats 4000000 in
theorem tn_33 (j : Nat) (x1 : Int32) (x2 : Int32) (h : im_H) : im_Go im_zV 0 fm_33 0 (im_en 0 [.inr (some j), .inl x1, .inl x2]) [] h (fn_33 j x1 x2 h) := by
  unfold fn_33
  refine x_iload_n dm_33_0 rfl ?_
  refine x_if_lt 18 dm_33_1 rfl (fun c1 => ?_) (fun c1 => ?_)
  · exact x_return dm_33_18 rfl
  · refine x_iload_n dm_33_4 rfl ?_
    refine x_sipush (256) dm_33_5 (by decide) ?_
    refine x_icmp_ge 18 dm_33_8 rfl (fun c2 => ?_) (fun c2 => ?_)
    · exact x_return dm_33_18 rfl
    · refine x_aload_n dm_33_11 rfl ?_
      refine im_chk _ (fun hk3 => ?_)
      refine x_getR dm_33_12 fl_4_9 rfl rfl hk3 ?_
      refine x_iload_n dm_33_15 rfl ?_
      refine x_iload_n dm_33_16 rfl ?_
      refine im_bind (fun q4 hq4 => ?_)
      refine im_chk _ (fun hi5 => ?_)
      refine x_iastore dm_33_17 hq4 hi5 ?_
      exact x_return dm_33_18 rfl
/-- FencedModules$Machine.giveTurn(I)V -/
def fn_38 (j : Nat) (x1 : Int32) (h : im_H) : Option (im_H) :=
  if h.2.1 j = (0, 4) then (let h2 : im_H := im_pI h j 2 x1; let h3 : im_H := im_pI h2 j 3 (0 : Int32); some h3) else none
set_option maxRecDepth 100000 in
set_option maxHeartbeats 4000000 in
theorem tn_38 (j : Nat) (x1 : Int32) (h : im_H) : im_Go im_zV 0 fm_38 0 (im_en 0 [.inr (some j), .inl x1]) [] h (fn_38 j x1 h) := by
  unfold fn_38
  refine x_aload_n dm_38_0 rfl ?_
  refine x_iload_n dm_38_1 rfl ?_
  refine im_chk _ (fun hk1 => ?_)
  refine x_putI dm_38_2 fl_4_49 rfl rfl hk1 ?_
  refine x_aload_n dm_38_5 rfl ?_
  refine x_iconst (0) dm_38_6 (by decide) ?_
  refine x_putI dm_38_7 fl_4_53 rfl rfl hk1 ?_
  exact x_return dm_38_10 rfl
/-- FencedModules$Machine.behind(I)I -/
def fn_39 (x0 : Int32) (h : im_H) : Option (Int32 × im_H) :=
  if (3 : Int32) ≤ (x0 + (1 : Int32)) then (some ((0 : Int32), h)) else (some ((x0 + (1 : Int32)), h))
set_option maxRecDepth 100000 in
set_option maxHeartbeats 4000000 in
theorem tn_39 (x0 : Int32) (h : im_H) : im_Go im_zI 0 fm_39 0 (im_en 0 [.inl x0]) [] h (fn_39 x0 h) := by
  unfold fn_39
  refine x_iload_n dm_39_0 rfl ?_
  refine x_iconst (1) dm_39_1 (by decide) ?_
  refine x_iadd dm_39_2 ?_
  refine x_iconst (3) dm_39_3 (by decide) ?_
  refine x_icmp_ge 13 dm_39_4 rfl (fun c1 => ?_) (fun c1 => ?_)
  · refine x_iconst (0) dm_39_13 (by decide) ?_
    exact x_ireturn dm_39_14 rfl
  · refine x_iload_n dm_39_7 rfl ?_
    refine x_iconst (1) dm_39_8 (by decide) ?_
    refine x_iadd dm_39_9 ?_
    refine x_goto 14 dm_39_10 rfl ?_
    exact x_ireturn dm_39_14 rfl
/-- FencedModules$Sandbox.exists(I)Z -/
def fn_45 (x0 : Int32) (h : im_H) : Option (Int32 × im_H) :=
  if x0 < 0 then (some ((0 : Int32), h)) else (if (3 : Int32) ≤ x0 then (some ((0 : Int32), h)) else (some ((1 : Int32), h)))
set_option maxRecDepth 100000 in
set_option maxHeartbeats 4000000 in
theorem tn_45 (x0 : Int32) (h : im_H) : im_Go im_zI 0 fm_45 0 (im_en 0 [.inl x0]) [] h (fn_45 x0 h) := by
  unfold fn_45
  refine x_iload_n dm_45_0 rfl ?_
  refine x_if_lt 13 dm_45_1 rfl (fun c1 => ?_) (fun c1 => ?_)
  · refine x_iconst (0) dm_45_13 (by decide) ?_
    exact x_zreturn dm_45_14 rfl (by decide)
  · refine x_iload_n dm_45_4 rfl ?_
    refine x_iconst (3) dm_45_5 (by decide) ?_
    refine x_icmp_ge 13 dm_45_6 rfl (fun c2 => ?_) (fun c2 => ?_)
    · refine x_iconst (0) dm_45_13 (by decide) ?_
      exact x_zreturn dm_45_14 rfl (by decide)
    · refine x_iconst (1) dm_45_9 (by decide) ?_
      refine x_goto 14 dm_45_10 rfl ?_
      exact x_zreturn dm_45_14 rfl (by decide)
/-- FencedModules$Sandbox.dataStart(I)I -/
def fn_46 (x0 : Int32) (h : im_H) : Option (Int32 × im_H) :=
  some (((16 : Int32) * x0), h)
set_option maxRecDepth 100000 in
set_option maxHeartbeats 4000000 in
theorem tn_46 (x0 : Int32) (h : im_H) : im_Go im_zI 0 fm_46 0 (im_en 0 [.inl x0]) [] h (fn_46 x0 h) := by
  unfold fn_46
  refine x_bipush (16) dm_46_0 (by decide) ?_
  refine x_iload_n dm_46_2 rfl ?_
  refine x_imul dm_46_3 ?_
  exact x_ireturn dm_46_4 rfl
/-- FencedModules$Sandbox.codeStart(I)I -/
def fn_47 (x0 : Int32) (h : im_H) : Option (Int32 × im_H) :=
  some (((64 : Int32) + ((32 : Int32) * x0)), h)
set_option maxRecDepth 100000 in
set_option maxHeartbeats 4000000 in
theorem tn_47 (x0 : Int32) (h : im_H) : im_Go im_zI 0 fm_47 0 (im_en 0 [.inl x0]) [] h (fn_47 x0 h) := by
  unfold fn_47
  refine x_bipush (64) dm_47_0 (by decide) ?_
  refine x_bipush (32) dm_47_2 (by decide) ?_
  refine x_iload_n dm_47_4 rfl ?_
  refine x_imul dm_47_5 ?_
  refine x_iadd dm_47_6 ?_
  exact x_ireturn dm_47_7 rfl
/-- FencedModules$Sandbox.stop(II)V -/
def fn_49 (j : Nat) (x1 : Int32) (x2 : Int32) (h : im_H) : Option (im_H) :=
  if h.2.1 j = (0, 5) then (let h2 : im_H := im_pI h j 6 x1; let h3 : im_H := im_pI h2 j 5 x2; some h3) else none
set_option maxRecDepth 100000 in
set_option maxHeartbeats 4000000 in
theorem tn_49 (j : Nat) (x1 : Int32) (x2 : Int32) (h : im_H) : im_Go im_zV 0 fm_49 0 (im_en 0 [.inr (some j), .inl x1, .inl x2]) [] h (fn_49 j x1 x2 h) := by
  unfold fn_49
  refine x_aload_n dm_49_0 rfl ?_
  refine x_iload_n dm_49_1 rfl ?_
  refine im_chk _ (fun hk1 => ?_)
  refine x_putI dm_49_2 fl_5_49 rfl rfl hk1 ?_
  refine x_aload_n dm_49_5 rfl ?_
  refine x_iload_n dm_49_6 rfl ?_
  refine x_putI dm_49_7 fl_5_46 rfl rfl hk1 ?_
  exact x_return dm_49_10 rfl
/-- FencedModules$Sandbox.addInput(I)Z -/
def fn_50 (j : Nat) (x1 : Int32) (h : im_H) : Option (Int32 × im_H) :=
  if h.2.1 j = (0, 5) then (if (im_gI h j 4) < (12 : Int32) then (((im_gR h j 2)).bind fun q3 => if im_in h 1 q3 (im_gI h j 4) then (let h5 : im_H := im_pI h q3 ((im_gI h j 4)).toNatClampNeg x1; let h6 : im_H := im_pI h5 j 4 ((im_gI h5 j 4) + (1 : Int32)); some ((1 : Int32), h6)) else none) else (some ((0 : Int32), h))) else none
set_option maxRecDepth 100000 in
set_option maxHeartbeats 4000000 in
theorem tn_50 (j : Nat) (x1 : Int32) (h : im_H) : im_Go im_zI 0 fm_50 0 (im_en 0 [.inr (some j), .inl x1]) [] h (fn_50 j x1 h) := by
  unfold fn_50
  refine x_aload_n dm_50_0 rfl ?_
  refine im_chk _ (fun hk1 => ?_)
  refine x_getI dm_50_1 fl_5_52 rfl rfl hk1 ?_
  refine x_bipush (12) dm_50_4 (by decide) ?_
  refine x_icmp_lt 11 dm_50_6 rfl (fun c2 => ?_) (fun c2 => ?_)
  · refine x_aload_n dm_50_11 rfl ?_
    refine x_getR dm_50_12 fl_5_13 rfl rfl hk1 ?_
    refine x_aload_n dm_50_15 rfl ?_
    refine x_getI dm_50_16 fl_5_52 rfl rfl hk1 ?_
    refine x_iload_n dm_50_19 rfl ?_
    refine im_bind (fun q3 hq3 => ?_)
    refine im_chk _ (fun hi4 => ?_)
    refine x_iastore dm_50_20 hq3 hi4 ?_
    refine x_aload_n dm_50_21 rfl ?_
    refine x_dup dm_50_22 ?_
    refine x_getI dm_50_23 fl_5_52 rfl rfl hk1 ?_
    refine x_iconst (1) dm_50_26 (by decide) ?_
    refine x_iadd dm_50_27 ?_
    refine x_putI dm_50_28 fl_5_52 rfl rfl hk1 ?_
    refine x_iconst (1) dm_50_31 (by decide) ?_
    exact x_zreturn dm_50_32 rfl (by decide)
  · refine x_iconst (0) dm_50_9 (by decide) ?_
    exact x_zreturn dm_50_10 rfl (by decide)
/-- FencedModules$Sandbox.addMail(I)Z -/
def fn_51 (j : Nat) (x1 : Int32) (h : im_H) : Option (Int32 × im_H) :=
  if h.2.1 j = (0, 5) then (if (im_gI h j 9) < (4 : Int32) then (((im_gR h j 7)).bind fun q3 => if im_in h 1 q3 (im_gI h j 9) then (let h5 : im_H := im_pI h q3 ((im_gI h j 9)).toNatClampNeg x1; let h6 : im_H := im_pI h5 j 9 ((im_gI h5 j 9) + (1 : Int32)); some ((1 : Int32), h6)) else none) else (some ((0 : Int32), h))) else none
set_option maxRecDepth 100000 in
set_option maxHeartbeats 4000000 in
theorem tn_51 (j : Nat) (x1 : Int32) (h : im_H) : im_Go im_zI 0 fm_51 0 (im_en 0 [.inr (some j), .inl x1]) [] h (fn_51 j x1 h) := by
  unfold fn_51
  refine x_aload_n dm_51_0 rfl ?_
  refine im_chk _ (fun hk1 => ?_)
  refine x_getI dm_51_1 fl_5_55 rfl rfl hk1 ?_
  refine x_iconst (4) dm_51_4 (by decide) ?_
  refine x_icmp_lt 10 dm_51_5 rfl (fun c2 => ?_) (fun c2 => ?_)
  · refine x_aload_n dm_51_10 rfl ?_
    refine x_getR dm_51_11 fl_5_23 rfl rfl hk1 ?_
    refine x_aload_n dm_51_14 rfl ?_
    refine x_getI dm_51_15 fl_5_55 rfl rfl hk1 ?_
    refine x_iload_n dm_51_18 rfl ?_
    refine im_bind (fun q3 hq3 => ?_)
    refine im_chk _ (fun hi4 => ?_)
    refine x_iastore dm_51_19 hq3 hi4 ?_
    refine x_aload_n dm_51_20 rfl ?_
    refine x_dup dm_51_21 ?_
    refine x_getI dm_51_22 fl_5_55 rfl rfl hk1 ?_
    refine x_iconst (1) dm_51_25 (by decide) ?_
    refine x_iadd dm_51_26 ?_
    refine x_putI dm_51_27 fl_5_55 rfl rfl hk1 ?_
    refine x_iconst (1) dm_51_30 (by decide) ?_
    exact x_zreturn dm_51_31 rfl (by decide)
  · refine x_iconst (0) dm_51_8 (by decide) ?_
    exact x_zreturn dm_51_9 rfl (by decide)
