/-- FencedModules.clear()V -/
def fn_75 (j : Nat) (h : im_H) : Option (im_H) :=
  if h.2.1 j = (0, 7) then (((im_gR h j 0)).bind fun q2 => if h.2.1 q2 = (0, 6) then ((fn_56 q2 h).bind fun b4 => if b4.2.1 j = (0, 7) then (((im_gR b4 j 1)).bind fun q6 => if b4.2.1 q6 = (0, 1) then ((fn_5 q6 b4).bind fun b8 => some b8) else none) else none) else none) else none
set_option maxRecDepth 100000 in
set_option maxHeartbeats 4000000 in
theorem tn_75 (j : Nat) (h : im_H) : im_Go im_zV 2 fm_75 0 (im_en 0 [.inr (some j)]) [] h (fn_75 j h) := by
  unfold fn_75
  refine x_aload_n dm_75_0 rfl ?_
  refine im_chk _ (fun hk1 => ?_)
  refine x_getR dm_75_1 fl_7_10 rfl rfl hk1 ?_
  refine im_bind (fun q2 hq2 => ?_)
  refine im_chk _ (fun hk3 => ?_)
  refine im_callV mf_56 rfl (im_eqo hq2 (tn_56 q2 h)) (im_runV (as := []) (rest := []) dm_75_4 mf_56 (Nat.le_of_ble_eq_true rfl) ml_7_45 mi_56 ms_56 mp_56 (Nat.le_of_ble_eq_true rfl) hq2 hk3 ⟨_, _, rfl⟩) rfl (fun b4 hb4 => ?_)
  refine x_aload_n dm_75_7 rfl ?_
  refine im_chk _ (fun hk5 => ?_)
  refine x_getR dm_75_8 fl_7_19 rfl rfl hk5 ?_
  refine im_bind (fun q6 hq6 => ?_)
  refine im_chk _ (fun hk7 => ?_)
  refine im_callV mf_5 rfl (im_eqo hq6 (tn_5 q6 b4)) (im_runV (as := []) (rest := []) dm_75_11 mf_5 (Nat.le_of_ble_eq_true rfl) ml_7_48 mi_5 ms_5 mp_5 (Nat.le_of_ble_eq_true rfl) hq6 hk7 ⟨_, _, rfl⟩) rfl (fun b8 hb8 => ?_)
  exact x_return dm_75_14 rfl
/-- FencedModules.feed(II)Z -/
def fn_81 (j : Nat) (x1 : Int32) (x2 : Int32) (h : im_H) : Option (Int32 × im_H) :=
  if h.2.1 j = (0, 7) then (((im_gR h j 2)).bind fun q2 => if h.2.1 q2 = (0, 4) then ((fn_31 q2 x1 h).bind fun b4 => if b4.1 = none then (some ((0 : Int32), b4.2)) else ((b4.1).bind fun q6 => if b4.2.2.1 q6 = (0, 5) then (if (im_gI b4.2 q6 6) = 0 then (some ((0 : Int32), b4.2)) else ((fn_50 q6 x2 b4.2).bind fun b9 => if b9.1 = 0 then (some ((0 : Int32), b9.2)) else (some ((1 : Int32), b9.2)))) else none)) else none) else none
set_option maxRecDepth 100000 in
set_option maxHeartbeats 4000000 in
theorem tn_81 (j : Nat) (x1 : Int32) (x2 : Int32) (h : im_H) : im_Go im_zI 2 fm_81 0 (im_en 0 [.inr (some j), .inl x1, .inl x2]) [] h (fn_81 j x1 x2 h) := by
  unfold fn_81
  refine x_aload_n dm_81_0 rfl ?_
  refine im_chk _ (fun hk1 => ?_)
  refine x_getR dm_81_1 fl_7_26 rfl rfl hk1 ?_
  refine x_iload_n dm_81_4 rfl ?_
  refine im_bind (fun q2 hq2 => ?_)
  refine im_chk _ (fun hk3 => ?_)
  refine im_callR mf_31 rfl (im_eqo hq2 (tn_31 q2 x1 h)) (im_runV (as := [.inl x1]) (rest := []) dm_81_5 mf_31 (Nat.le_of_ble_eq_true rfl) ml_7_85 mi_31 ms_31 mp_31 (Nat.le_of_ble_eq_true rfl) hq2 hk3 ⟨_, _, rfl⟩) rfl (fun b4 hb4 => ?_)
  refine x_astore_n dm_81_8 (Nat.le_of_ble_eq_true rfl) ?_
  refine x_aload_n dm_81_9 rfl ?_
  refine x_ifnull 32 dm_81_10 rfl (fun c5 => ?_) (fun c5 => ?_)
  · refine x_iconst (0) dm_81_32 (by decide) ?_
    exact x_zreturn dm_81_33 rfl (by decide)
  · refine x_aload_n dm_81_13 rfl ?_
    refine im_bind (fun q6 hq6 => ?_)
    refine im_chk _ (fun hk7 => ?_)
    refine x_getI dm_81_14 fl_7_89 rfl hq6 hk7 ?_
    refine x_if_eq 32 dm_81_17 rfl (fun c8 => ?_) (fun c8 => ?_)
    · refine x_iconst (0) dm_81_32 (by decide) ?_
      exact x_zreturn dm_81_33 rfl (by decide)
    · refine x_aload_n dm_81_20 rfl ?_
      refine x_iload_n dm_81_21 rfl ?_
      refine im_callI mf_50 rfl (im_eqo hq6 (tn_50 q6 x2 b4.2)) (im_runV (as := [.inl x2]) (rest := []) dm_81_22 mf_50 (Nat.le_of_ble_eq_true rfl) ml_7_93 mi_50 ms_50 mp_50 (Nat.le_of_ble_eq_true rfl) hq6 hk7 ⟨_, _, rfl⟩) rfl (fun b9 hb9 => ?_)
      refine x_if_eq 32 dm_81_25 rfl (fun c10 => ?_) (fun c10 => ?_)
      · refine x_iconst (0) dm_81_32 (by decide) ?_
        exact x_zreturn dm_81_33 rfl (by decide)
      · refine x_iconst (1) dm_81_28 (by decide) ?_
        refine x_goto 33 dm_81_29 rfl ?_
        exact x_zreturn dm_81_33 rfl (by decide)
/-- FencedModules.state(I)I -/
def fn_83 (j : Nat) (x1 : Int32) (h : im_H) : Option (Int32 × im_H) :=
  if h.2.1 j = (0, 7) then (((im_gR h j 2)).bind fun q2 => if h.2.1 q2 = (0, 4) then ((fn_31 q2 x1 h).bind fun b4 => if b4.1 = none then (some ((-1 : Int32), b4.2)) else ((b4.1).bind fun q6 => if b4.2.2.1 q6 = (0, 5) then (some ((im_gI b4.2 q6 6), b4.2)) else none)) else none) else none
set_option maxRecDepth 100000 in
set_option maxHeartbeats 4000000 in
theorem tn_83 (j : Nat) (x1 : Int32) (h : im_H) : im_Go im_zI 2 fm_83 0 (im_en 0 [.inr (some j), .inl x1]) [] h (fn_83 j x1 h) := by
  unfold fn_83
  refine x_aload_n dm_83_0 rfl ?_
  refine im_chk _ (fun hk1 => ?_)
  refine x_getR dm_83_1 fl_7_26 rfl rfl hk1 ?_
  refine x_iload_n dm_83_4 rfl ?_
  refine im_bind (fun q2 hq2 => ?_)
  refine im_chk _ (fun hk3 => ?_)
  refine im_callR mf_31 rfl (im_eqo hq2 (tn_31 q2 x1 h)) (im_runV (as := [.inl x1]) (rest := []) dm_83_5 mf_31 (Nat.le_of_ble_eq_true rfl) ml_7_85 mi_31 ms_31 mp_31 (Nat.le_of_ble_eq_true rfl) hq2 hk3 ⟨_, _, rfl⟩) rfl (fun b4 hb4 => ?_)
  refine x_astore_n dm_83_8 (Nat.le_of_ble_eq_true rfl) ?_
  refine x_aload_n dm_83_9 rfl ?_
  refine x_ifnonnull 17 dm_83_10 rfl (fun c5 => ?_) (fun c5 => ?_)
  · refine x_iconst (-1) dm_83_13 (by decide) ?_
    refine x_goto 21 dm_83_14 rfl ?_
    exact x_ireturn dm_83_21 rfl
  · refine x_aload_n dm_83_17 rfl ?_
    refine im_bind (fun q6 hq6 => ?_)
    refine im_chk _ (fun hk7 => ?_)
    refine x_getI dm_83_18 fl_7_89 rfl hq6 hk7 ?_
    exact x_ireturn dm_83_21 rfl
/-- FencedModules.pc(I)I -/
def fn_84 (j : Nat) (x1 : Int32) (h : im_H) : Option (Int32 × im_H) :=
  if h.2.1 j = (0, 7) then (((im_gR h j 2)).bind fun q2 => if h.2.1 q2 = (0, 4) then ((fn_31 q2 x1 h).bind fun b4 => if b4.1 = none then (some ((-1 : Int32), b4.2)) else ((b4.1).bind fun q6 => if b4.2.2.1 q6 = (0, 5) then (some ((im_gI b4.2 q6 5), b4.2)) else none)) else none) else none
set_option maxRecDepth 100000 in
set_option maxHeartbeats 4000000 in
theorem tn_84 (j : Nat) (x1 : Int32) (h : im_H) : im_Go im_zI 2 fm_84 0 (im_en 0 [.inr (some j), .inl x1]) [] h (fn_84 j x1 h) := by
  unfold fn_84
  refine x_aload_n dm_84_0 rfl ?_
  refine im_chk _ (fun hk1 => ?_)
  refine x_getR dm_84_1 fl_7_26 rfl rfl hk1 ?_
  refine x_iload_n dm_84_4 rfl ?_
  refine im_bind (fun q2 hq2 => ?_)
  refine im_chk _ (fun hk3 => ?_)
  refine im_callR mf_31 rfl (im_eqo hq2 (tn_31 q2 x1 h)) (im_runV (as := [.inl x1]) (rest := []) dm_84_5 mf_31 (Nat.le_of_ble_eq_true rfl) ml_7_85 mi_31 ms_31 mp_31 (Nat.le_of_ble_eq_true rfl) hq2 hk3 ⟨_, _, rfl⟩) rfl (fun b4 hb4 => ?_)
  refine x_astore_n dm_84_8 (Nat.le_of_ble_eq_true rfl) ?_
  refine x_aload_n dm_84_9 rfl ?_
  refine x_ifnonnull 17 dm_84_10 rfl (fun c5 => ?_) (fun c5 => ?_)
  · refine x_iconst (-1) dm_84_13 (by decide) ?_
    refine x_goto 21 dm_84_14 rfl ?_
    exact x_ireturn dm_84_21 rfl
  · refine x_aload_n dm_84_17 rfl ?_
    refine im_bind (fun q6 hq6 => ?_)
    refine im_chk _ (fun hk7 => ?_)
    refine x_getI dm_84_18 fl_7_99 rfl hq6 hk7 ?_
    exact x_ireturn dm_84_21 rfl
def fn_85_23 (j : Nat) (h : im_H) : Option (Int32 × im_H) :=
  some ((0 : Int32), h)
set_option maxRecDepth 100000 in
set_option maxHeartbeats 4000000 in
theorem tn_85_23 (j : Nat) (h : im_H) : im_Go im_zI 2 fm_85 23 [] [] h (fn_85_23 j h) := by
  unfold fn_85_23
  refine x_iconst (0) dm_85_23 (by decide) ?_
  refine x_goto 33 dm_85_24 rfl ?_
  exact x_ireturn dm_85_33 rfl
/-- FencedModules.register(II)I -/
def fn_85 (j : Nat) (x1 : Int32) (x2 : Int32) (h : im_H) : Option (Int32 × im_H) :=
  if h.2.1 j = (0, 7) then (((im_gR h j 2)).bind fun q2 => if h.2.1 q2 = (0, 4) then ((fn_31 q2 x1 h).bind fun b4 => if b4.1 = none then (fn_85_23 j b4.2) else (if x2 < 0 then (fn_85_23 j b4.2) else (if x2 < (8 : Int32) then ((b4.1).bind fun q8 => if b4.2.2.1 q8 = (0, 5) then (((im_gR b4.2 q8 1)).bind fun q10 => if im_in b4.2 1 q10 x2 then (some ((im_gI b4.2 q10 (x2).toNatClampNeg), b4.2)) else none) else none) else (fn_85_23 j b4.2)))) else none) else none
set_option maxRecDepth 100000 in
set_option maxHeartbeats 4000000 in
theorem tn_85 (j : Nat) (x1 : Int32) (x2 : Int32) (h : im_H) : im_Go im_zI 2 fm_85 0 (im_en 0 [.inr (some j), .inl x1, .inl x2]) [] h (fn_85 j x1 x2 h) := by
  unfold fn_85
  refine x_aload_n dm_85_0 rfl ?_
  refine im_chk _ (fun hk1 => ?_)
  refine x_getR dm_85_1 fl_7_26 rfl rfl hk1 ?_
  refine x_iload_n dm_85_4 rfl ?_
  refine im_bind (fun q2 hq2 => ?_)
  refine im_chk _ (fun hk3 => ?_)
  refine im_callR mf_31 rfl (im_eqo hq2 (tn_31 q2 x1 h)) (im_runV (as := [.inl x1]) (rest := []) dm_85_5 mf_31 (Nat.le_of_ble_eq_true rfl) ml_7_85 mi_31 ms_31 mp_31 (Nat.le_of_ble_eq_true rfl) hq2 hk3 ⟨_, _, rfl⟩) rfl (fun b4 hb4 => ?_)
  refine x_astore_n dm_85_8 (Nat.le_of_ble_eq_true rfl) ?_
  refine x_aload_n dm_85_9 rfl ?_
  refine x_ifnull 23 dm_85_10 rfl (fun c5 => ?_) (fun c5 => ?_)
  · exact im_lsub [] im_sb_n (tn_85_23 j b4.2)
  · refine x_iload_n dm_85_13 rfl ?_
    refine x_if_lt 23 dm_85_14 rfl (fun c6 => ?_) (fun c6 => ?_)
    · exact im_lsub [] im_sb_n (tn_85_23 j b4.2)
    · refine x_iload_n dm_85_17 rfl ?_
      refine x_bipush (8) dm_85_18 (by decide) ?_
      refine x_icmp_lt 27 dm_85_20 rfl (fun c7 => ?_) (fun c7 => ?_)
      · refine x_aload_n dm_85_27 rfl ?_
        refine im_bind (fun q8 hq8 => ?_)
        refine im_chk _ (fun hk9 => ?_)
        refine x_getR dm_85_28 fl_7_102 rfl hq8 hk9 ?_
        refine x_iload_n dm_85_31 rfl ?_
        refine im_bind (fun q10 hq10 => ?_)
        refine im_chk _ (fun hi11 => ?_)
        refine x_iaload dm_85_32 hq10 hi11 ?_
        exact x_ireturn dm_85_33 rfl
      · exact im_lsub [] im_sb_n (tn_85_23 j b4.2)
/-- FencedModules.output(II)I -/
def fn_87 (j : Nat) (x1 : Int32) (x2 : Int32) (h : im_H) : Option (Int32 × im_H) :=
  if h.2.1 j = (0, 7) then (((im_gR h j 2)).bind fun q2 => if h.2.1 q2 = (0, 4) then ((fn_31 q2 x1 h).bind fun b4 => if b4.1 = none then (some ((0 : Int32), b4.2)) else ((b4.1).bind fun q6 => if b4.2.2.1 q6 = (0, 5) then ((fn_54 q6 x2 b4.2).bind fun b8 => some (b8.1, b8.2)) else none)) else none) else none
set_option maxRecDepth 100000 in
set_option maxHeartbeats 4000000 in
theorem tn_87 (j : Nat) (x1 : Int32) (x2 : Int32) (h : im_H) : im_Go im_zI 2 fm_87 0 (im_en 0 [.inr (some j), .inl x1, .inl x2]) [] h (fn_87 j x1 x2 h) := by
  unfold fn_87
  refine x_aload_n dm_87_0 rfl ?_
  refine im_chk _ (fun hk1 => ?_)
  refine x_getR dm_87_1 fl_7_26 rfl rfl hk1 ?_
  refine x_iload_n dm_87_4 rfl ?_
  refine im_bind (fun q2 hq2 => ?_)
  refine im_chk _ (fun hk3 => ?_)
  refine im_callR mf_31 rfl (im_eqo hq2 (tn_31 q2 x1 h)) (im_runV (as := [.inl x1]) (rest := []) dm_87_5 mf_31 (Nat.le_of_ble_eq_true rfl) ml_7_85 mi_31 ms_31 mp_31 (Nat.le_of_ble_eq_true rfl) hq2 hk3 ⟨_, _, rfl⟩) rfl (fun b4 hb4 => ?_)
  refine x_astore_n dm_87_8 (Nat.le_of_ble_eq_true rfl) ?_
  refine x_aload_n dm_87_9 rfl ?_
  refine x_ifnonnull 17 dm_87_10 rfl (fun c5 => ?_) (fun c5 => ?_)
  · refine x_iconst (0) dm_87_13 (by decide) ?_
    refine x_goto 22 dm_87_14 rfl ?_
    exact x_ireturn dm_87_22 rfl
  · refine x_aload_n dm_87_17 rfl ?_
    refine x_iload_n dm_87_18 rfl ?_
    refine im_bind (fun q6 hq6 => ?_)
    refine im_chk _ (fun hk7 => ?_)
    refine im_callI mf_54 rfl (im_eqo hq6 (tn_54 q6 x2 b4.2)) (im_runV (as := [.inl x2]) (rest := []) dm_87_19 mf_54 (Nat.le_of_ble_eq_true rfl) ml_7_109 mi_54 ms_54 mp_54 (Nat.le_of_ble_eq_true rfl) hq6 hk7 ⟨_, _, rfl⟩) rfl (fun b8 hb8 => ?_)
    exact x_ireturn dm_87_22 rfl
/-- FencedModules.call(III)I -/
def fn_88 (j : Nat) (x1 : Int32) (x2 : Int32) (x3 : Int32) (h : im_H) : Option (Int32 × im_H) :=
  if h.2.1 j = (0, 7) then (((im_gR h j 2)).bind fun q2 => if h.2.1 q2 = (0, 4) then ((fn_31 q2 x1 h).bind fun b4 => if b4.1 = none then (some ((0 : Int32), b4.2)) else ((b4.1).bind fun q6 => if b4.2.2.1 q6 = (0, 5) then (((im_gR b4.2 q6 3)).bind fun q8 => if b4.2.2.1 q8 = (0, 2) then (((im_gR b4.2 q8 0)).bind fun q10 => if b4.2.2.1 q10 = (0, 0) then ((fn_3 q10 x2 x3 b4.2).bind fun b12 => some (b12.1, b12.2)) else none) else none) else none)) else none) else none
set_option maxRecDepth 100000 in
set_option maxHeartbeats 4000000 in
theorem tn_88 (j : Nat) (x1 : Int32) (x2 : Int32) (x3 : Int32) (h : im_H) : im_Go im_zI 2 fm_88 0 (im_en 0 [.inr (some j), .inl x1, .inl x2, .inl x3]) [] h (fn_88 j x1 x2 x3 h) := by
  unfold fn_88
  refine x_aload_n dm_88_0 rfl ?_
  refine im_chk _ (fun hk1 => ?_)
  refine x_getR dm_88_1 fl_7_26 rfl rfl hk1 ?_
  refine x_iload_n dm_88_4 rfl ?_
  refine im_bind (fun q2 hq2 => ?_)
  refine im_chk _ (fun hk3 => ?_)
  refine im_callR mf_31 rfl (im_eqo hq2 (tn_31 q2 x1 h)) (im_runV (as := [.inl x1]) (rest := []) dm_88_5 mf_31 (Nat.le_of_ble_eq_true rfl) ml_7_85 mi_31 ms_31 mp_31 (Nat.le_of_ble_eq_true rfl) hq2 hk3 ⟨_, _, rfl⟩) rfl (fun b4 hb4 => ?_)
  refine x_astore dm_88_8 (Nat.le_of_ble_eq_true rfl) ?_
  refine x_aload dm_88_10 rfl ?_
  refine x_ifnonnull 19 dm_88_12 rfl (fun c5 => ?_) (fun c5 => ?_)
  · refine x_iconst (0) dm_88_15 (by decide) ?_
    refine x_goto 32 dm_88_16 rfl ?_
    exact x_ireturn dm_88_32 rfl
  · refine x_aload dm_88_19 rfl ?_
    refine im_bind (fun q6 hq6 => ?_)
    refine im_chk _ (fun hk7 => ?_)
    refine x_getR dm_88_21 fl_7_112 rfl hq6 hk7 ?_
    refine im_bind (fun q8 hq8 => ?_)
    refine im_chk _ (fun hk9 => ?_)
    refine x_getR dm_88_24 fl_7_116 rfl hq8 hk9 ?_
    refine x_iload_n dm_88_27 rfl ?_
    refine x_iload_n dm_88_28 rfl ?_
    refine im_bind (fun q10 hq10 => ?_)
    refine im_chk _ (fun hk11 => ?_)
    refine im_callI mf_3 rfl (im_eqo hq10 (tn_3 q10 x2 x3 b4.2)) (im_runV (as := [.inl x2, .inl x3]) (rest := []) dm_88_29 mf_3 (Nat.le_of_ble_eq_true rfl) ml_7_122 mi_3 ms_3 mp_3 (Nat.le_of_ble_eq_true rfl) hq10 hk11 ⟨_, _, rfl⟩) rfl (fun b12 hb12 => ?_)
    exact x_ireturn dm_88_32 rfl
/-- FencedModules$Rewriter.targetOf(LFencedModules$Source;I)I -/
def fn_136 (x0 : Option Nat) (x1 : Int32) (h : im_H) : Option (Int32 × im_H) :=
  (x0).bind fun q1 => if h.2.1 q1 = (0, 6) then ((fn_66 q1 x1 h).bind fun b3 => if b3.2.2.1 q1 = (0, 6) then ((fn_68 q1 b3.1 b3.2).bind fun b5 => some (b5.1, b5.2)) else none) else none
set_option maxRecDepth 100000 in
set_option maxHeartbeats 4000000 in
theorem tn_136 (x0 : Option Nat) (x1 : Int32) (h : im_H) : im_Go im_zI 2 fm_136 0 (im_en 0 [.inr x0, .inl x1]) [] h (fn_136 x0 x1 h) := by
  unfold fn_136
  refine x_aload_n dm_136_0 rfl ?_
  refine x_aload_n dm_136_1 rfl ?_
  refine x_iload_n dm_136_2 rfl ?_
  refine im_bind (fun q1 hq1 => ?_)
  refine im_chk _ (fun hk2 => ?_)
  refine im_callI mf_66 rfl (im_eqo hq1 (tn_66 q1 x1 h)) (im_runV (as := [.inl x1]) (rest := [.inr x0]) dm_136_3 mf_66 (Nat.le_of_ble_eq_true rfl) ml_9_70 mi_66 ms_66 mp_66 (Nat.le_of_ble_eq_true rfl) hq1 hk2 ⟨_, _, rfl⟩) rfl (fun b3 hb3 => ?_)
  refine im_chk _ (fun hk4 => ?_)
  refine im_callI mf_68 rfl (im_eqo hq1 (tn_68 q1 b3.1 b3.2)) (im_runV (as := [.inl b3.1]) (rest := []) dm_136_6 mf_68 (Nat.le_of_ble_eq_true rfl) ml_9_73 mi_68 ms_68 mp_68 (Nat.le_of_ble_eq_true rfl) hq1 hk4 ⟨_, _, rfl⟩) rfl (fun b5 hb5 => ?_)
  exact x_ireturn dm_136_9 rfl
/-- FencedModules$Verifier.keepsFences(LFencedModules$Code;II)Z -/
def fn_141 (x0 : Option Nat) (x1 : Int32) (x2 : Int32) (h : im_H) : Option (Int32 × im_H) :=
  (x0).bind fun q1 => if h.2.1 q1 = (0, 1) then ((fn_8 q1 x1 h).bind fun b3 => (fn_143 b3.1 b3.2).bind fun b4 => if b4.2.2.1 q1 = (0, 1) then ((fn_8 q1 x1 b4.2).bind fun b6 => (fn_144 b6.1 b6.2).bind fun b7 => if b4.1 < (1 : Int32) then (some ((1 : Int32), b7.2)) else (if b4.1 ≤ (8 : Int32) then (if b7.1 = (6 : Int32) then ((fn_46 x2 b7.2).bind fun b11 => (fn_142 x0 x1 (15 : Int32) b11.1 b11.2).bind fun b12 => if b12.1 &&& 1 = b12.1 then some (b12.1, b12.2) else none) else (if b7.1 = (7 : Int32) then ((fn_47 x2 b7.2).bind fun b15 => (fn_142 x0 x1 (31 : Int32) b15.1 b15.2).bind fun b16 => if b16.1 &&& 1 = b16.1 then some (b16.1, b16.2) else none) else (some ((1 : Int32), b7.2)))) else (some ((1 : Int32), b7.2)))) else none) else none
set_option maxRecDepth 100000 in
set_option maxHeartbeats 4000000 in
theorem tn_141 (x0 : Option Nat) (x1 : Int32) (x2 : Int32) (h : im_H) : im_Go im_zI 2 fm_141 0 (im_en 0 [.inr x0, .inl x1, .inl x2]) [] h (fn_141 x0 x1 x2 h) := by
  unfold fn_141
  refine x_aload_n dm_141_0 rfl ?_
  refine x_iload_n dm_141_1 rfl ?_
  refine im_bind (fun q1 hq1 => ?_)
  refine im_chk _ (fun hk2 => ?_)
  refine im_callI mf_8 rfl (im_eqo hq1 (tn_8 q1 x1 h)) (im_runV (as := [.inl x1]) (rest := []) dm_141_2 mf_8 (Nat.le_of_ble_eq_true rfl) ml_10_23 mi_8 ms_8 mp_8 (Nat.le_of_ble_eq_true rfl) hq1 hk2 ⟨_, _, rfl⟩) rfl (fun b3 hb3 => ?_)
  refine im_callI mf_143 rfl (tn_143 b3.1 b3.2) (im_runS (as := [.inl b3.1]) (rest := []) dm_141_5 mf_143 (Nat.le_of_ble_eq_true rfl) ml_10_32 mi_143 mp_143 (Nat.le_of_ble_eq_true rfl)) rfl (fun b4 hb4 => ?_)
  refine x_istore_n dm_141_8 (Nat.le_of_ble_eq_true rfl) ?_
  refine x_aload_n dm_141_9 rfl ?_
  refine x_iload_n dm_141_10 rfl ?_
  refine im_chk _ (fun hk5 => ?_)
  refine im_callI mf_8 rfl (im_eqo hq1 (tn_8 q1 x1 b4.2)) (im_runV (as := [.inl x1]) (rest := []) dm_141_11 mf_8 (Nat.le_of_ble_eq_true rfl) ml_10_23 mi_8 ms_8 mp_8 (Nat.le_of_ble_eq_true rfl) hq1 hk5 ⟨_, _, rfl⟩) rfl (fun b6 hb6 => ?_)
  refine im_callI mf_144 rfl (tn_144 b6.1 b6.2) (im_runS (as := [.inl b6.1]) (rest := []) dm_141_14 mf_144 (Nat.le_of_ble_eq_true rfl) ml_10_40 mi_144 mp_144 (Nat.le_of_ble_eq_true rfl)) rfl (fun b7 hb7 => ?_)
  refine x_istore dm_141_17 (Nat.le_of_ble_eq_true rfl) ?_
  refine x_iload_n dm_141_19 rfl ?_
  refine x_iconst (1) dm_141_20 (by decide) ?_
  refine x_icmp_lt 30 dm_141_21 rfl (fun c8 => ?_) (fun c8 => ?_)
  · refine x_iconst (1) dm_141_30 (by decide) ?_
    exact x_zreturn dm_141_31 rfl (by decide)
  · refine x_iload_n dm_141_24 rfl ?_
    refine x_bipush (8) dm_141_25 (by decide) ?_
    refine x_icmp_le 32 dm_141_27 rfl (fun c9 => ?_) (fun c9 => ?_)
    · refine x_iload dm_141_32 rfl ?_
      refine x_bipush (6) dm_141_34 (by decide) ?_
      refine x_icmp_ne 51 dm_141_36 rfl (fun c10 => ?_) (fun c10 => ?_)
      · refine x_aload_n dm_141_39 rfl ?_
        refine x_iload_n dm_141_40 rfl ?_
        refine x_bipush (15) dm_141_41 (by decide) ?_
        refine x_iload_n dm_141_43 rfl ?_
        refine im_callI mf_46 rfl (tn_46 x2 b7.2) (im_runS (as := [.inl x2]) (rest := [.inl (15 : Int32), .inl x1, .inr x0]) dm_141_44 mf_46 (Nat.le_of_ble_eq_true rfl) ml_10_49 mi_46 mp_46 (Nat.le_of_ble_eq_true rfl)) rfl (fun b11 hb11 => ?_)
        refine im_callI mf_142 rfl (tn_142 x0 x1 (15 : Int32) b11.1 b11.2) (im_runS (as := [.inr x0, .inl x1, .inl (15 : Int32), .inl b11.1]) (rest := []) dm_141_47 mf_142 (Nat.le_of_ble_eq_true rfl) ml_10_52 mi_142 mp_142 (Nat.le_of_ble_eq_true rfl)) rfl (fun b12 hb12 => ?_)
        refine im_chk _ (fun hz13 => ?_)
        exact x_zreturn dm_141_50 rfl hz13
      · refine x_iload dm_141_51 rfl ?_
        refine x_bipush (7) dm_141_53 (by decide) ?_
        refine x_icmp_ne 70 dm_141_55 rfl (fun c14 => ?_) (fun c14 => ?_)
        · refine x_aload_n dm_141_58 rfl ?_
          refine x_iload_n dm_141_59 rfl ?_
          refine x_bipush (31) dm_141_60 (by decide) ?_
          refine x_iload_n dm_141_62 rfl ?_
          refine im_callI mf_47 rfl (tn_47 x2 b7.2) (im_runS (as := [.inl x2]) (rest := [.inl (31 : Int32), .inl x1, .inr x0]) dm_141_63 mf_47 (Nat.le_of_ble_eq_true rfl) ml_10_56 mi_47 mp_47 (Nat.le_of_ble_eq_true rfl)) rfl (fun b15 hb15 => ?_)
          refine im_callI mf_142 rfl (tn_142 x0 x1 (31 : Int32) b15.1 b15.2) (im_runS (as := [.inr x0, .inl x1, .inl (31 : Int32), .inl b15.1]) (rest := []) dm_141_66 mf_142 (Nat.le_of_ble_eq_true rfl) ml_10_52 mi_142 mp_142 (Nat.le_of_ble_eq_true rfl)) rfl (fun b16 hb16 => ?_)
          refine im_chk _ (fun hz17 => ?_)
          exact x_zreturn dm_141_69 rfl hz17
        · refine x_iconst (1) dm_141_70 (by decide) ?_
          exact x_zreturn dm_141_71 rfl (by decide)
    · refine x_iconst (1) dm_141_30 (by decide) ?_
      exact x_zreturn dm_141_31 rfl (by decide)
/-- FencedModules$Follower.<init>()V -/
def fn_17 (j : Nat) (h : im_H) : Option (im_H) :=
  if im_oa h [(0, .inr (some j))] [.inr (some j)] = true then (let h2 : im_H := im_nw h (0, 2) 3; if ([(0, .inr (some j))] : im_L).all (fun q => im_ok h2.1.1 q.2) = true ∧ ([.inr (some h.1.1), .inr (some j)] : List im_V).all (im_ok h2.1.1) = true then ((fn_9 h.1.1 h2).bind fun b3 => if b3.2.1 j = (0, 3) then (let h6 : im_H := im_pR b3 j 0 (some h.1.1); if im_oa h6 [(0, .inr (some j))] [.inr (some j)] = true then (let h8 : im_H := im_nw h6 (1, 21) 21; if h8.2.1 j = (0, 3) then (let h10 : im_H := im_pR h8 j 1 (some h6.1.1); if im_oa h10 [(0, .inr (some j))] [.inr (some j)] = true then (let h12 : im_H := im_nw h10 (1, 21) 21; if h12.2.1 j = (0, 3) then (let h14 : im_H := im_pR h12 j 2 (some h10.1.1); some h14) else none) else none) else none) else none) else none) else none) else none
set_option maxRecDepth 100000 in
set_option maxHeartbeats 4000000 in
theorem tn_17 (j : Nat) (h : im_H) : im_Go im_zV 3 fm_17 0 (im_en 0 [.inr (some j)]) [] h (fn_17 j h) := by
  unfold fn_17
  refine x_aload_n dm_17_0 rfl ?_
  refine x_objinit dm_17_1 ml_3_7 mo_i mo_c (Nat.le_of_ble_eq_true rfl) (Nat.le_of_ble_eq_true rfl) rfl ?_
  refine x_aload_n dm_17_4 rfl ?_
  refine im_chk _ (fun ho1 => ?_)
  refine x_new dm_17_5 fc_2 ct_2 cl_3_13 cn_2 ci_2 rfl ho1 ?_
  refine x_dup dm_17_8 ?_
  refine im_chk _ (fun ho4 => ?_)
  refine im_callA mf_9 rfl (tn_9 _ _) (im_runI (as := []) (rest := [.inr _, .inr (some j)]) dm_17_9 mf_9 (Nat.le_of_ble_eq_true rfl) rfl ml_3_15 mi_9 rfl mp_9 (Nat.le_of_ble_eq_true rfl) rfl) rfl ho4 (fun b3 hb3 => ?_)
  refine im_chk _ (fun hk5 => ?_)
  refine x_putFR dm_17_12 fl_3_16 rfl rfl rfl rfl hk5 ?_
  refine x_aload_n dm_17_15 rfl ?_
  refine x_bipush (21) dm_17_16 (by decide) ?_
  refine im_chk _ (fun ho7 => ?_)
  refine x_newI 21 dm_17_18 ma_I rfl (by decide) rfl (Nat.le_of_ble_eq_true rfl) ho7 ?_
  refine im_chk _ (fun hk9 => ?_)
  refine x_putFR dm_17_20 fl_3_20 rfl rfl rfl rfl hk9 ?_
  refine x_aload_n dm_17_23 rfl ?_
  refine x_bipush (21) dm_17_24 (by decide) ?_
  refine im_chk _ (fun ho11 => ?_)
  refine x_newI 21 dm_17_26 ma_I rfl (by decide) rfl (Nat.le_of_ble_eq_true rfl) ho11 ?_
  refine im_chk _ (fun hk13 => ?_)
  refine x_putFR dm_17_28 fl_3_24 rfl rfl rfl rfl hk13 ?_
  exact x_return dm_17_31 rfl
def fn_20_103 (j : Nat) (h : im_H) : Option (Int32 × im_H) :=
  some ((1 : Int32), h)
set_option maxRecDepth 100000 in
set_option maxHeartbeats 4000000 in
theorem tn_20_103 (j : Nat) (h : im_H) : im_Go im_zI 3 fm_20 103 [] [] h (fn_20_103 j h) := by
  unfold fn_20_103
  refine x_iconst (1) dm_20_103 (by decide) ?_
  refine x_goto 108 dm_20_104 rfl ?_
  exact x_zreturn dm_20_108 rfl (by decide)
def fn_20_87 (j : Nat) (y2 : Int32) (y3 : Int32) (h : im_H) : Option (Int32 × im_H) :=
  if h.2.1 j = (0, 3) then ((fn_23 j y2 h).bind fun b2 => if b2.1 = 0 then (if b2.2.2.1 j = (0, 3) then ((fn_23 j y3 b2.2).bind fun b5 => if b5.1 = 0 then (some ((0 : Int32), b5.2)) else (fn_20_103 j b5.2)) else none) else (fn_20_103 j b2.2)) else none
set_option maxRecDepth 100000 in
set_option maxHeartbeats 4000000 in
theorem tn_20_87 (j : Nat) (y2 : Int32) (y3 : Int32) (h : im_H) : im_Go im_zI 3 fm_20 87 [(0, .inr (some j)), (2, .inl y2), (3, .inl y3)] [] h (fn_20_87 j y2 y3 h) := by
  unfold fn_20_87
  refine x_aload_n dm_20_87 rfl ?_
  refine x_iload_n dm_20_88 rfl ?_
  refine im_chk _ (fun hk1 => ?_)
  refine im_callI mf_23 rfl (tn_23 j y2 h) (im_runV (as := [.inl y2]) (rest := []) dm_20_89 mf_23 (Nat.le_of_ble_eq_true rfl) ml_3_67 mi_23 ms_23 mp_23 (Nat.le_of_ble_eq_true rfl) rfl hk1 ⟨_, _, rfl⟩) rfl (fun b2 hb2 => ?_)
  refine x_if_ne 103 dm_20_92 rfl (fun c3 => ?_) (fun c3 => ?_)
  · refine x_aload_n dm_20_95 rfl ?_
    refine x_iload_n dm_20_96 rfl ?_
    refine im_chk _ (fun hk4 => ?_)
    refine im_callI mf_23 rfl (tn_23 j y3 b2.2) (im_runV (as := [.inl y3]) (rest := []) dm_20_97 mf_23 (Nat.le_of_ble_eq_true rfl) ml_3_67 mi_23 ms_23 mp_23 (Nat.le_of_ble_eq_true rfl) rfl hk4 ⟨_, _, rfl⟩) rfl (fun b5 hb5 => ?_)
    refine x_if_eq 107 dm_20_100 rfl (fun c6 => ?_) (fun c6 => ?_)
    · refine x_iconst (0) dm_20_107 (by decide) ?_
      exact x_zreturn dm_20_108 rfl (by decide)
    · exact im_lsub [] im_sb_n (tn_20_103 j b5.2)
  · exact im_lsub [] im_sb_n (tn_20_103 j b2.2)
def fn_20_109 (j : Nat) (y3 : Int32) (h : im_H) : Option (Int32 × im_H) :=
  if h.2.1 j = (0, 3) then ((fn_23 j y3 h).bind fun b2 => if b2.1 &&& 1 = b2.1 then some (b2.1, b2.2) else none) else none
set_option maxRecDepth 100000 in
set_option maxHeartbeats 4000000 in
theorem tn_20_109 (j : Nat) (y3 : Int32) (h : im_H) : im_Go im_zI 3 fm_20 109 [(0, .inr (some j)), (3, .inl y3)] [] h (fn_20_109 j y3 h) := by
  unfold fn_20_109
  refine x_aload_n dm_20_109 rfl ?_
  refine x_iload_n dm_20_110 rfl ?_
  refine im_chk _ (fun hk1 => ?_)
  refine im_callI mf_23 rfl (tn_23 j y3 h) (im_runV (as := [.inl y3]) (rest := []) dm_20_111 mf_23 (Nat.le_of_ble_eq_true rfl) ml_3_67 mi_23 ms_23 mp_23 (Nat.le_of_ble_eq_true rfl) rfl hk1 ⟨_, _, rfl⟩) rfl (fun b2 hb2 => ?_)
  refine im_chk _ (fun hz3 => ?_)
  exact x_zreturn dm_20_114 rfl hz3
/-- FencedModules$Follower.takesLabel(IIII)Z -/
def fn_20 (j : Nat) (x1 : Int32) (x2 : Int32) (x3 : Int32) (x4 : Int32) (h : im_H) : Option (Int32 × im_H) :=
  if x1 = 2 then (if h.2.1 j = (0, 3) then ((fn_23 j x3 h).bind fun b3 => if b3.1 = 0 then (some ((0 : Int32), b3.2)) else (if x4 = 0 then (some ((0 : Int32), b3.2)) else (some ((1 : Int32), b3.2)))) else none) else (if x1 = 3 then (fn_20_87 j x2 x3 h) else (if x1 = 4 then (fn_20_87 j x2 x3 h) else (if x1 = 5 then (fn_20_87 j x2 x3 h) else (if x1 = 6 then (fn_20_109 j x3 h) else (if x1 = 7 then (fn_20_109 j x3 h) else (if x1 = 8 then (fn_20_109 j x3 h) else (if x1 = 9 then (fn_20_109 j x3 h) else (if x1 = 10 then (fn_20_87 j x2 x3 h) else (if x1 = 11 then (fn_20_87 j x2 x3 h) else (if x1 = 12 then (some ((0 : Int32), h)) else (if x1 = 13 then (some ((0 : Int32), h)) else (if x1 = 14 then (if h.2.1 j = (0, 3) then ((fn_21 j x4 h).bind fun b19 => if b19.1 &&& 1 = b19.1 then some (b19.1, b19.2) else none) else none) else (some ((0 : Int32), h))))))))))))))
set_option maxRecDepth 100000 in
set_option maxHeartbeats 4000000 in
theorem tn_20 (j : Nat) (x1 : Int32) (x2 : Int32) (x3 : Int32) (x4 : Int32) (h : im_H) : im_Go im_zI 3 fm_20 0 (im_en 0 [.inr (some j), .inl x1, .inl x2, .inl x3, .inl x4]) [] h (fn_20 j x1 x2 x3 x4 h) := by
  unfold fn_20
  refine x_iload_n dm_20_0 rfl ?_
  refine im_test _ (fun c1 => ?_) (fun c1 => ?_)
  · refine x_tabIn 2 68 dm_20_1 c1 (by decide) (by decide) rfl rfl ?_
    refine x_aload_n dm_20_68 rfl ?_
    refine x_iload_n dm_20_69 rfl ?_
    refine im_chk _ (fun hk2 => ?_)
    refine im_callI mf_23 rfl (tn_23 j x3 h) (im_runV (as := [.inl x3]) (rest := []) dm_20_70 mf_23 (Nat.le_of_ble_eq_true rfl) ml_3_67 mi_23 ms_23 mp_23 (Nat.le_of_ble_eq_true rfl) rfl hk2 ⟨_, _, rfl⟩) rfl (fun b3 hb3 => ?_)
    refine x_if_eq 85 dm_20_73 rfl (fun c4 => ?_) (fun c4 => ?_)
    · refine x_iconst (0) dm_20_85 (by decide) ?_
      exact x_zreturn dm_20_86 rfl (by decide)
    · refine x_iload dm_20_76 rfl ?_
      refine x_if_eq 85 dm_20_78 rfl (fun c5 => ?_) (fun c5 => ?_)
      · refine x_iconst (0) dm_20_85 (by decide) ?_
        exact x_zreturn dm_20_86 rfl (by decide)
      · refine x_iconst (1) dm_20_81 (by decide) ?_
        refine x_goto 86 dm_20_82 rfl ?_
        exact x_zreturn dm_20_86 rfl (by decide)
  refine im_test _ (fun c6 => ?_) (fun c6 => ?_)
  · refine x_tabIn 3 87 dm_20_1 c6 (by decide) (by decide) rfl rfl ?_
    exact im_lsub [(0, .inr (some j)), (2, .inl x2), (3, .inl x3)] (im_sb_c rfl (im_sb_c rfl (im_sb_c rfl im_sb_n))) (tn_20_87 j x2 x3 h)
  refine im_test _ (fun c7 => ?_) (fun c7 => ?_)
  · refine x_tabIn 4 87 dm_20_1 c7 (by decide) (by decide) rfl rfl ?_
    exact im_lsub [(0, .inr (some j)), (2, .inl x2), (3, .inl x3)] (im_sb_c rfl (im_sb_c rfl (im_sb_c rfl im_sb_n))) (tn_20_87 j x2 x3 h)
  refine im_test _ (fun c8 => ?_) (fun c8 => ?_)
  · refine x_tabIn 5 87 dm_20_1 c8 (by decide) (by decide) rfl rfl ?_
    exact im_lsub [(0, .inr (some j)), (2, .inl x2), (3, .inl x3)] (im_sb_c rfl (im_sb_c rfl (im_sb_c rfl im_sb_n))) (tn_20_87 j x2 x3 h)
  refine im_test _ (fun c9 => ?_) (fun c9 => ?_)
  · refine x_tabIn 6 109 dm_20_1 c9 (by decide) (by decide) rfl rfl ?_
    exact im_lsub [(0, .inr (some j)), (3, .inl x3)] (im_sb_c rfl (im_sb_c rfl im_sb_n)) (tn_20_109 j x3 h)
  refine im_test _ (fun c10 => ?_) (fun c10 => ?_)
  · refine x_tabIn 7 109 dm_20_1 c10 (by decide) (by decide) rfl rfl ?_
    exact im_lsub [(0, .inr (some j)), (3, .inl x3)] (im_sb_c rfl (im_sb_c rfl im_sb_n)) (tn_20_109 j x3 h)
  refine im_test _ (fun c11 => ?_) (fun c11 => ?_)
  · refine x_tabIn 8 109 dm_20_1 c11 (by decide) (by decide) rfl rfl ?_
    exact im_lsub [(0, .inr (some j)), (3, .inl x3)] (im_sb_c rfl (im_sb_c rfl im_sb_n)) (tn_20_109 j x3 h)
  refine im_test _ (fun c12 => ?_) (fun c12 => ?_)
  · refine x_tabIn 9 109 dm_20_1 c12 (by decide) (by decide) rfl rfl ?_
    exact im_lsub [(0, .inr (some j)), (3, .inl x3)] (im_sb_c rfl (im_sb_c rfl im_sb_n)) (tn_20_109 j x3 h)
  refine im_test _ (fun c13 => ?_) (fun c13 => ?_)
  · refine x_tabIn 10 87 dm_20_1 c13 (by decide) (by decide) rfl rfl ?_
    exact im_lsub [(0, .inr (some j)), (2, .inl x2), (3, .inl x3)] (im_sb_c rfl (im_sb_c rfl (im_sb_c rfl im_sb_n))) (tn_20_87 j x2 x3 h)
  refine im_test _ (fun c14 => ?_) (fun c14 => ?_)
  · refine x_tabIn 11 87 dm_20_1 c14 (by decide) (by decide) rfl rfl ?_
    exact im_lsub [(0, .inr (some j)), (2, .inl x2), (3, .inl x3)] (im_sb_c rfl (im_sb_c rfl (im_sb_c rfl im_sb_n))) (tn_20_87 j x2 x3 h)
  refine im_test _ (fun c15 => ?_) (fun c15 => ?_)
  · refine x_tabIn 12 122 dm_20_1 c15 (by decide) (by decide) rfl rfl ?_
    refine x_iconst (0) dm_20_122 (by decide) ?_
    exact x_zreturn dm_20_123 rfl (by decide)
  refine im_test _ (fun c16 => ?_) (fun c16 => ?_)
  · refine x_tabIn 13 122 dm_20_1 c16 (by decide) (by decide) rfl rfl ?_
    refine x_iconst (0) dm_20_122 (by decide) ?_
    exact x_zreturn dm_20_123 rfl (by decide)
  refine im_test _ (fun c17 => ?_) (fun c17 => ?_)
  · refine x_tabIn 14 115 dm_20_1 c17 (by decide) (by decide) rfl rfl ?_
    refine x_aload_n dm_20_115 rfl ?_
    refine x_iload dm_20_116 rfl ?_
    refine im_chk _ (fun hk18 => ?_)
    refine im_callI mf_21 rfl (tn_21 j x4 h) (im_runV (as := [.inl x4]) (rest := []) dm_20_118 mf_21 (Nat.le_of_ble_eq_true rfl) ml_3_74 mi_21 ms_21 mp_21 (Nat.le_of_ble_eq_true rfl) rfl hk18 ⟨_, _, rfl⟩) rfl (fun b19 hb19 => ?_)
    refine im_chk _ (fun hz20 => ?_)
    exact x_zreturn dm_20_121 rfl hz20
  refine x_tabOut 122 dm_20_1 (im_swout (2) 13 (by decide) (by decide) (fun i hi => match i, hi with | 0, _ => c1 | 1, _ => c6 | 2, _ => c7 | 3, _ => c8 | 4, _ => c9 | 5, _ => c10 | 6, _ => c11 | 7, _ => c12 | 8, _ => c13 | 9, _ => c14 | 10, _ => c15 | 11, _ => c16 | 12, _ => c17 | i + 13, hi => absurd hi (by omega))) rfl ?_
  refine x_iconst (0) dm_20_122 (by decide) ?_
  exact x_zreturn dm_20_123 rfl (by decide)
def fn_25_221 (j : Nat) (y7 : Int32) (y8 : Int32) (h : im_H) : Option (Int32 × im_H) :=
  if h.2.1 j = (0, 3) then (let h2 : im_H := im_pI h j 3 y7; some (y8, h2)) else none
set_option maxRecDepth 100000 in
set_option maxHeartbeats 4000000 in
theorem tn_25_221 (j : Nat) (y7 : Int32) (y8 : Int32) (h : im_H) : im_Go im_zI 3 fm_25 221 [(0, .inr (some j)), (7, .inl y7), (8, .inl y8)] [] h (fn_25_221 j y7 y8 h) := by
  unfold fn_25_221
  refine x_aload_n dm_25_221 rfl ?_
  refine x_iload dm_25_222 rfl ?_
  refine im_chk _ (fun hk1 => ?_)
  refine x_putI dm_25_224 fl_3_36 rfl rfl hk1 ?_
  refine x_iload dm_25_227 rfl ?_
  exact x_ireturn dm_25_229 rfl
def fn_25_138 (j : Nat) (y1 : Option Nat) (y3 : Int32) (y4 : Int32) (y5 : Int32) (y6 : Int32) (y7 : Int32) (y8 : Int32) (h : im_H) : Option (Int32 × im_H) :=
  if h.2.1 j = (0, 3) then (((im_gR h j 1)).bind fun q2 => if im_in h 1 q2 y4 then (if im_in h 1 q2 y5 then ((fn_149 y3 (im_gI h q2 (y4).toNatClampNeg) (im_gI h q2 (y5).toNatClampNeg) h).bind fun b5 => if b5.1 = 0 then (fn_25_221 j y7 y8 b5.2) else ((y1).bind fun q7 => if b5.2.2.1 q7 = (0, 6) then ((fn_66 q7 y6 b5.2).bind fun b9 => fn_25_221 j b9.1 y8 b9.2) else none)) else none) else none) else none
set_option maxRecDepth 100000 in
set_option maxHeartbeats 4000000 in
theorem tn_25_138 (j : Nat) (y1 : Option Nat) (y3 : Int32) (y4 : Int32) (y5 : Int32) (y6 : Int32) (y7 : Int32) (y8 : Int32) (h : im_H) : im_Go im_zI 3 fm_25 138 [(0, .inr (some j)), (1, .inr y1), (3, .inl y3), (4, .inl y4), (5, .inl y5), (6, .inl y6), (7, .inl y7), (8, .inl y8)] [] h (fn_25_138 j y1 y3 y4 y5 y6 y7 y8 h) := by
  unfold fn_25_138
  refine x_iload_n dm_25_138 rfl ?_
  refine x_aload_n dm_25_139 rfl ?_
  refine im_chk _ (fun hk1 => ?_)
  refine x_getR dm_25_140 fl_3_20 rfl rfl hk1 ?_
  refine x_iload dm_25_143 rfl ?_
  refine im_bind (fun q2 hq2 => ?_)
  refine im_chk _ (fun hi3 => ?_)
  refine x_iaload dm_25_145 hq2 hi3 ?_
  refine x_aload_n dm_25_146 rfl ?_
  refine x_getR dm_25_147 fl_3_20 rfl rfl hk1 ?_
  refine x_iload dm_25_150 rfl ?_
  refine im_chk _ (fun hi4 => ?_)
  refine x_iaload dm_25_152 hq2 hi4 ?_
  refine im_callI mf_149 rfl (tn_149 y3 _ _ h) (im_runS (as := [.inl y3, .inl _, .inl _]) (rest := []) dm_25_153 mf_149 (Nat.le_of_ble_eq_true rfl) ml_3_91 mi_149 mp_149 (Nat.le_of_ble_eq_true rfl)) rfl (fun b5 hb5 => ?_)
  refine x_if_eq 221 dm_25_156 rfl (fun c6 => ?_) (fun c6 => ?_)
  · exact im_lsub [(0, .inr (some j)), (7, .inl y7), (8, .inl y8)] (im_sb_c rfl (im_sb_c rfl (im_sb_c rfl im_sb_n))) (tn_25_221 j y7 y8 b5.2)
  · refine x_aload_n dm_25_159 rfl ?_
    refine x_iload dm_25_160 rfl ?_
    refine im_bind (fun q7 hq7 => ?_)
    refine im_chk _ (fun hk8 => ?_)
    refine im_callI mf_66 rfl (im_eqo hq7 (tn_66 q7 y6 b5.2)) (im_runV (as := [.inl y6]) (rest := []) dm_25_162 mf_66 (Nat.le_of_ble_eq_true rfl) ml_3_95 mi_66 ms_66 mp_66 (Nat.le_of_ble_eq_true rfl) hq7 hk8 ⟨_, _, rfl⟩) rfl (fun b9 hb9 => ?_)
    refine x_istore dm_25_165 (Nat.le_of_ble_eq_true rfl) ?_
    refine x_goto 221 dm_25_167 rfl ?_
    exact im_lsub [(0, .inr (some j)), (7, .inl b9.1), (8, .inl y8)] (im_sb_c rfl (im_sb_c rfl (im_sb_c rfl im_sb_n))) (tn_25_221 j b9.1 y8 b9.2)
/-- FencedModules$Follower.doLine(LFencedModules$Source;LFencedModules$Sandbox;)I -/
def fn_25 (j : Nat) (x1 : Option Nat) (x2 : Option Nat) (h : im_H) : Option (Int32 × im_H) :=
  if h.2.1 j = (0, 3) then ((x1).bind fun q2 => if h.2.1 q2 = (0, 6) then ((fn_61 q2 (im_gI h j 3) h).bind fun b4 => if b4.2.2.1 j = (0, 3) then (if b4.2.2.1 q2 = (0, 6) then ((fn_62 q2 (im_gI b4.2 j 3) b4.2).bind fun b7 => if b7.2.2.1 j = (0, 3) then (if b7.2.2.1 q2 = (0, 6) then ((fn_63 q2 (im_gI b7.2 j 3) b7.2).bind fun b10 => if b10.2.2.1 j = (0, 3) then (if b10.2.2.1 q2 = (0, 6) then ((fn_64 q2 (im_gI b10.2 j 3) b10.2).bind fun b13 => if b13.2.2.1 j = (0, 3) then (let v15 : Int32 := ((im_gI b13.2 j 3) + (1 : Int32)); if b4.1 = 8 then (((im_gR b13.2 j 1)).bind fun q17 => if im_in b13.2 1 q17 b10.1 then ((fn_26 j (((5 : Int32) + (im_gI b13.2 q17 (b10.1).toNatClampNeg)) + b13.1) b7.1 b13.2).bind fun b19 => fn_25_221 j v15 (0 : Int32) b19) else none) else (if b4.1 = 9 then (((im_gR b13.2 j 1)).bind fun q21 => if im_in b13.2 1 q21 b10.1 then ((fn_26 j b7.1 (((5 : Int32) + (im_gI b13.2 q21 (b10.1).toNatClampNeg)) + b13.1) b13.2).bind fun b23 => fn_25_221 j v15 (0 : Int32) b23) else none) else (if b4.1 = 10 then (fn_25_138 j x1 b4.1 b7.1 b10.1 b13.1 v15 (0 : Int32) b13.2) else (if b4.1 = 11 then (fn_25_138 j x1 b4.1 b7.1 b10.1 b13.1 v15 (0 : Int32) b13.2) else (if b4.1 = 12 then (fn_25_138 j x1 b4.1 b7.1 b10.1 b13.1 v15 (0 : Int32) b13.2) else (if b4.1 = 13 then (((im_gR b13.2 j 2)).bind fun q28 => if im_in b13.2 1 q28 b7.1 then (if b13.2.2.1 q2 = (0, 6) then ((fn_66 q2 (im_gI b13.2 q28 (b7.1).toNatClampNeg) b13.2).bind fun b31 => fn_25_221 j b31.1 (0 : Int32) b31.2) else none) else none) else (if b4.1 = 14 then ((fn_29 j x2 b13.1 b13.2).bind fun b33 => fn_25_221 j v15 b33.1 b33.2) else (if b4.1 = 15 then (((im_gR b13.2 j 2)).bind fun q35 => if im_in b13.2 1 q35 b7.1 then (let h37 : im_H := im_pI b13.2 q35 (b7.1).toNatClampNeg b13.1; fn_25_221 j v15 (0 : Int32) h37) else none) else ((fn_28 j b4.1 b7.1 b10.1 b13.1 b13.2).bind fun b38 => fn_25_221 j v15 (0 : Int32) b38))))))))) else none) else none) else none) else none) else none) else none) else none) else none) else none
set_option maxRecDepth 100000 in
set_option maxHeartbeats 4000000 in
theorem tn_25 (j : Nat) (x1 : Option Nat) (x2 : Option Nat) (h : im_H) : im_Go im_zI 3 fm_25 0 (im_en 0 [.inr (some j), .inr x1, .inr x2]) [] h (fn_25 j x1 x2 h) := by
  unfold fn_25
  refine x_aload_n dm_25_0 rfl ?_
  refine x_aload_n dm_25_1 rfl ?_
  refine im_chk _ (fun hk1 => ?_)
  refine x_getI dm_25_2 fl_3_36 rfl rfl hk1 ?_
  refine im_bind (fun q2 hq2 => ?_)
  refine im_chk _ (fun hk3 => ?_)
  refine im_callI mf_61 rfl (im_eqo hq2 (tn_61 q2 _ h)) (im_runV (as := [.inl _]) (rest := []) dm_25_5 mf_61 (Nat.le_of_ble_eq_true rfl) ml_3_48 mi_61 ms_61 mp_61 (Nat.le_of_ble_eq_true rfl) hq2 hk3 ⟨_, _, rfl⟩) rfl (fun b4 hb4 => ?_)
  refine x_istore_n dm_25_8 (Nat.le_of_ble_eq_true rfl) ?_
  refine x_aload_n dm_25_9 rfl ?_
  refine x_aload_n dm_25_10 rfl ?_
  refine im_chk _ (fun hk5 => ?_)
  refine x_getI dm_25_11 fl_3_36 rfl rfl hk5 ?_
  refine im_chk _ (fun hk6 => ?_)
  refine im_callI mf_62 rfl (im_eqo hq2 (tn_62 q2 _ b4.2)) (im_runV (as := [.inl _]) (rest := []) dm_25_14 mf_62 (Nat.le_of_ble_eq_true rfl) ml_3_52 mi_62 ms_62 mp_62 (Nat.le_of_ble_eq_true rfl) hq2 hk6 ⟨_, _, rfl⟩) rfl (fun b7 hb7 => ?_)
  refine x_istore dm_25_17 (Nat.le_of_ble_eq_true rfl) ?_
  refine x_aload_n dm_25_19 rfl ?_
  refine x_aload_n dm_25_20 rfl ?_
  refine im_chk _ (fun hk8 => ?_)
  refine x_getI dm_25_21 fl_3_36 rfl rfl hk8 ?_
  refine im_chk _ (fun hk9 => ?_)
  refine im_callI mf_63 rfl (im_eqo hq2 (tn_63 q2 _ b7.2)) (im_runV (as := [.inl _]) (rest := []) dm_25_24 mf_63 (Nat.le_of_ble_eq_true rfl) ml_3_55 mi_63 ms_63 mp_63 (Nat.le_of_ble_eq_true rfl) hq2 hk9 ⟨_, _, rfl⟩) rfl (fun b10 hb10 => ?_)
  refine x_istore dm_25_27 (Nat.le_of_ble_eq_true rfl) ?_
  refine x_aload_n dm_25_29 rfl ?_
  refine x_aload_n dm_25_30 rfl ?_
  refine im_chk _ (fun hk11 => ?_)
  refine x_getI dm_25_31 fl_3_36 rfl rfl hk11 ?_
  refine im_chk _ (fun hk12 => ?_)
  refine im_callI mf_64 rfl (im_eqo hq2 (tn_64 q2 _ b10.2)) (im_runV (as := [.inl _]) (rest := []) dm_25_34 mf_64 (Nat.le_of_ble_eq_true rfl) ml_3_58 mi_64 ms_64 mp_64 (Nat.le_of_ble_eq_true rfl) hq2 hk12 ⟨_, _, rfl⟩) rfl (fun b13 hb13 => ?_)
  refine x_istore dm_25_37 (Nat.le_of_ble_eq_true rfl) ?_
  refine x_aload_n dm_25_39 rfl ?_
  refine im_chk _ (fun hk14 => ?_)
  refine x_getI dm_25_40 fl_3_36 rfl rfl hk14 ?_
  refine x_iconst (1) dm_25_43 (by decide) ?_
  refine x_iadd dm_25_44 ?_
  refine x_istore dm_25_45 (Nat.le_of_ble_eq_true rfl) ?_
  refine x_iconst (0) dm_25_47 (by decide) ?_
  refine x_istore dm_25_48 (Nat.le_of_ble_eq_true rfl) ?_
  refine x_iload_n dm_25_50 rfl ?_
  refine im_test _ (fun c16 => ?_) (fun c16 => ?_)
  · refine x_tabIn 8 96 dm_25_51 c16 (by decide) (by decide) rfl rfl ?_
    refine x_aload_n dm_25_96 rfl ?_
    refine x_iconst (5) dm_25_97 (by decide) ?_
    refine x_aload_n dm_25_98 rfl ?_
    refine x_getR dm_25_99 fl_3_20 rfl rfl hk14 ?_
    refine x_iload dm_25_102 rfl ?_
    refine im_bind (fun q17 hq17 => ?_)
    refine im_chk _ (fun hi18 => ?_)
    refine x_iaload dm_25_104 hq17 hi18 ?_
    refine x_iadd dm_25_105 ?_
    refine x_iload dm_25_106 rfl ?_
    refine x_iadd dm_25_108 ?_
    refine x_iload dm_25_109 rfl ?_
    refine im_callV mf_26 rfl (tn_26 j _ b7.1 b13.2) (im_runV (as := [.inl _, .inl b7.1]) (rest := []) dm_25_111 mf_26 (Nat.le_of_ble_eq_true rfl) ml_3_87 mi_26 ms_26 mp_26 (Nat.le_of_ble_eq_true rfl) rfl hk14 ⟨_, _, rfl⟩) rfl (fun b19 hb19 => ?_)
    refine x_goto 221 dm_25_114 rfl ?_
    exact im_lsub [(0, .inr (some j)), (7, .inl _), (8, .inl (0 : Int32))] (im_sb_c rfl (im_sb_c rfl (im_sb_c rfl im_sb_n))) (tn_25_221 j _ (0 : Int32) b19)
  refine im_test _ (fun c20 => ?_) (fun c20 => ?_)
  · refine x_tabIn 9 117 dm_25_51 c20 (by decide) (by decide) rfl rfl ?_
    refine x_aload_n dm_25_117 rfl ?_
    refine x_iload dm_25_118 rfl ?_
    refine x_iconst (5) dm_25_120 (by decide) ?_
    refine x_aload_n dm_25_121 rfl ?_
    refine x_getR dm_25_122 fl_3_20 rfl rfl hk14 ?_
    refine x_iload dm_25_125 rfl ?_
    refine im_bind (fun q21 hq21 => ?_)
    refine im_chk _ (fun hi22 => ?_)
    refine x_iaload dm_25_127 hq21 hi22 ?_
    refine x_iadd dm_25_128 ?_
    refine x_iload dm_25_129 rfl ?_
    refine x_iadd dm_25_131 ?_
    refine im_callV mf_26 rfl (tn_26 j b7.1 _ b13.2) (im_runV (as := [.inl b7.1, .inl _]) (rest := []) dm_25_132 mf_26 (Nat.le_of_ble_eq_true rfl) ml_3_87 mi_26 ms_26 mp_26 (Nat.le_of_ble_eq_true rfl) rfl hk14 ⟨_, _, rfl⟩) rfl (fun b23 hb23 => ?_)
    refine x_goto 221 dm_25_135 rfl ?_
    exact im_lsub [(0, .inr (some j)), (7, .inl _), (8, .inl (0 : Int32))] (im_sb_c rfl (im_sb_c rfl (im_sb_c rfl im_sb_n))) (tn_25_221 j _ (0 : Int32) b23)
  refine im_test _ (fun c24 => ?_) (fun c24 => ?_)
  · refine x_tabIn 10 138 dm_25_51 c24 (by decide) (by decide) rfl rfl ?_
    exact im_lsub [(0, .inr (some j)), (1, .inr x1), (3, .inl b4.1), (4, .inl b7.1), (5, .inl b10.1), (6, .inl b13.1), (7, .inl _), (8, .inl (0 : Int32))] (im_sb_c rfl (im_sb_c rfl (im_sb_c rfl (im_sb_c rfl (im_sb_c rfl (im_sb_c rfl (im_sb_c rfl (im_sb_c rfl im_sb_n)))))))) (tn_25_138 j x1 b4.1 b7.1 b10.1 b13.1 _ (0 : Int32) b13.2)
  refine im_test _ (fun c25 => ?_) (fun c25 => ?_)
  · refine x_tabIn 11 138 dm_25_51 c25 (by decide) (by decide) rfl rfl ?_
    exact im_lsub [(0, .inr (some j)), (1, .inr x1), (3, .inl b4.1), (4, .inl b7.1), (5, .inl b10.1), (6, .inl b13.1), (7, .inl _), (8, .inl (0 : Int32))] (im_sb_c rfl (im_sb_c rfl (im_sb_c rfl (im_sb_c rfl (im_sb_c rfl (im_sb_c rfl (im_sb_c rfl (im_sb_c rfl im_sb_n)))))))) (tn_25_138 j x1 b4.1 b7.1 b10.1 b13.1 _ (0 : Int32) b13.2)
  refine im_test _ (fun c26 => ?_) (fun c26 => ?_)
  · refine x_tabIn 12 138 dm_25_51 c26 (by decide) (by decide) rfl rfl ?_
    exact im_lsub [(0, .inr (some j)), (1, .inr x1), (3, .inl b4.1), (4, .inl b7.1), (5, .inl b10.1), (6, .inl b13.1), (7, .inl _), (8, .inl (0 : Int32))] (im_sb_c rfl (im_sb_c rfl (im_sb_c rfl (im_sb_c rfl (im_sb_c rfl (im_sb_c rfl (im_sb_c rfl (im_sb_c rfl im_sb_n)))))))) (tn_25_138 j x1 b4.1 b7.1 b10.1 b13.1 _ (0 : Int32) b13.2)
  refine im_test _ (fun c27 => ?_) (fun c27 => ?_)
  · refine x_tabIn 13 170 dm_25_51 c27 (by decide) (by decide) rfl rfl ?_
    refine x_aload_n dm_25_170 rfl ?_
    refine x_aload_n dm_25_171 rfl ?_
    refine x_getR dm_25_172 fl_3_24 rfl rfl hk14 ?_
    refine x_iload dm_25_175 rfl ?_
    refine im_bind (fun q28 hq28 => ?_)
    refine im_chk _ (fun hi29 => ?_)
    refine x_iaload dm_25_177 hq28 hi29 ?_
    refine im_chk _ (fun hk30 => ?_)
    refine im_callI mf_66 rfl (im_eqo hq2 (tn_66 q2 _ b13.2)) (im_runV (as := [.inl _]) (rest := []) dm_25_178 mf_66 (Nat.le_of_ble_eq_true rfl) ml_3_95 mi_66 ms_66 mp_66 (Nat.le_of_ble_eq_true rfl) hq2 hk30 ⟨_, _, rfl⟩) rfl (fun b31 hb31 => ?_)
    refine x_istore dm_25_181 (Nat.le_of_ble_eq_true rfl) ?_
    refine x_goto 221 dm_25_183 rfl ?_
    exact im_lsub [(0, .inr (some j)), (7, .inl b31.1), (8, .inl (0 : Int32))] (im_sb_c rfl (im_sb_c rfl (im_sb_c rfl im_sb_n))) (tn_25_221 j b31.1 (0 : Int32) b31.2)
  refine im_test _ (fun c32 => ?_) (fun c32 => ?_)
  · refine x_tabIn 14 186 dm_25_51 c32 (by decide) (by decide) rfl rfl ?_
    refine x_aload_n dm_25_186 rfl ?_
    refine x_aload_n dm_25_187 rfl ?_
    refine x_iload dm_25_188 rfl ?_
    refine im_callI mf_29 rfl (tn_29 j x2 b13.1 b13.2) (im_runV (as := [.inr x2, .inl b13.1]) (rest := []) dm_25_190 mf_29 (Nat.le_of_ble_eq_true rfl) ml_3_98 mi_29 ms_29 mp_29 (Nat.le_of_ble_eq_true rfl) rfl hk14 ⟨_, _, rfl⟩) rfl (fun b33 hb33 => ?_)
    refine x_istore dm_25_193 (Nat.le_of_ble_eq_true rfl) ?_
    refine x_goto 221 dm_25_195 rfl ?_
    exact im_lsub [(0, .inr (some j)), (7, .inl _), (8, .inl b33.1)] (im_sb_c rfl (im_sb_c rfl (im_sb_c rfl im_sb_n))) (tn_25_221 j _ b33.1 b33.2)
  refine im_test _ (fun c34 => ?_) (fun c34 => ?_)
  · refine x_tabIn 15 198 dm_25_51 c34 (by decide) (by decide) rfl rfl ?_
    refine x_aload_n dm_25_198 rfl ?_
    refine x_getR dm_25_199 fl_3_24 rfl rfl hk14 ?_
    refine x_iload dm_25_202 rfl ?_
    refine x_iload dm_25_204 rfl ?_
    refine im_bind (fun q35 hq35 => ?_)
    refine im_chk _ (fun hi36 => ?_)
    refine x_iastore dm_25_206 hq35 hi36 ?_
    refine x_goto 221 dm_25_207 rfl ?_
    exact im_lsub [(0, .inr (some j)), (7, .inl _), (8, .inl (0 : Int32))] (im_sb_c rfl (im_sb_c rfl (im_sb_c rfl im_sb_n))) (tn_25_221 j _ (0 : Int32) _)
  refine x_tabOut 210 dm_25_51 (im_swout (8) 8 (by decide) (by decide) (fun i hi => match i, hi with | 0, _ => c16 | 1, _ => c20 | 2, _ => c24 | 3, _ => c25 | 4, _ => c26 | 5, _ => c27 | 6, _ => c32 | 7, _ => c34 | i + 8, hi => absurd hi (by omega))) rfl ?_
  refine x_aload_n dm_25_210 rfl ?_
  refine x_iload_n dm_25_211 rfl ?_
  refine x_iload dm_25_212 rfl ?_
  refine x_iload dm_25_214 rfl ?_
  refine x_iload dm_25_216 rfl ?_
  refine im_callV mf_28 rfl (tn_28 j b4.1 b7.1 b10.1 b13.1 b13.2) (im_runV (as := [.inl b4.1, .inl b7.1, .inl b10.1, .inl b13.1]) (rest := []) dm_25_218 mf_28 (Nat.le_of_ble_eq_true rfl) ml_3_102 mi_28 ms_28 mp_28 (Nat.le_of_ble_eq_true rfl) rfl hk14 ⟨_, _, rfl⟩) rfl (fun b38 hb38 => ?_)
  exact im_lsub [(0, .inr (some j)), (7, .inl _), (8, .inl (0 : Int32))] (im_sb_c rfl (im_sb_c rfl (im_sb_c rfl im_sb_n))) (tn_25_221 j _ (0 : Int32) b38)
def fn_34_47 (j : Nat) : Nat → Int32 → Option Nat → Int32 → im_H → Option (im_H)
  | 0, _, _, _, _ => none
  | n + 1, y2, y3, y4, h =>
    if (16 : Int32) ≤ y4 then ((y3).bind fun q2 => if h.2.1 q2 = (0, 5) then ((fn_48 q2 h).bind fun b4 => if b4.2.1 j = (0, 4) then (if (im_gI b4 j 2) = y2 then (let h7 : im_H := im_pI b4 j 3 (0 : Int32); some h7) else (some b4)) else none) else none) else ((fn_46 y2 h).bind fun b8 => if b8.2.2.1 j = (0, 4) then ((fn_33 j (b8.1 + y4) (0 : Int32) b8.2).bind fun b10 => let v11 : Int32 := (y4 + (1 : Int32)); fn_34_47 j n y2 y3 v11 b10) else none)
set_option maxRecDepth 100000 in
set_option maxHeartbeats 4000000 in
theorem tn_34_47 (j : Nat) : ∀ (n : Nat) (y2 : Int32) (y3 : Option Nat) (y4 : Int32) (h : im_H), im_Go im_zV 3 fm_34 47 [(0, .inr (some j)), (2, .inl y2), (3, .inr y3), (4, .inl y4)] [] h (fn_34_47 j n y2 y3 y4 h)
  | 0, y2, y3, y4, h => im_none
  | n + 1, y2, y3, y4, h => by
    have ih := tn_34_47 j n
    unfold fn_34_47
    refine x_iload dm_34_47 rfl ?_
    refine x_bipush (16) dm_34_49 (by decide) ?_
    refine x_icmp_ge 72 dm_34_51 rfl (fun c1 => ?_) (fun c1 => ?_)
    · refine x_aload_n dm_34_72 rfl ?_
      refine im_bind (fun q2 hq2 => ?_)
      refine im_chk _ (fun hk3 => ?_)
      refine im_callV mf_48 rfl (im_eqo hq2 (tn_48 q2 h)) (im_runV (as := []) (rest := []) dm_34_73 mf_48 (Nat.le_of_ble_eq_true rfl) ml_4_46 mi_48 ms_48 mp_48 (Nat.le_of_ble_eq_true rfl) hq2 hk3 ⟨_, _, rfl⟩) rfl (fun b4 hb4 => ?_)
      refine x_aload_n dm_34_76 rfl ?_
      refine im_chk _ (fun hk5 => ?_)
      refine x_getI dm_34_77 fl_4_49 rfl rfl hk5 ?_
      refine x_iload_n dm_34_80 rfl ?_
      refine x_icmp_ne 89 dm_34_81 rfl (fun c6 => ?_) (fun c6 => ?_)
      · refine x_aload_n dm_34_84 rfl ?_
        refine x_iconst (0) dm_34_85 (by decide) ?_
        refine x_putI dm_34_86 fl_4_53 rfl rfl hk5 ?_
        exact x_return dm_34_89 rfl
      · exact x_return dm_34_89 rfl
    · refine x_aload_n dm_34_54 rfl ?_
      refine x_iload_n dm_34_55 rfl ?_
      refine im_callI mf_46 rfl (tn_46 y2 h) (im_runS (as := [.inl y2]) (rest := [.inr (some j)]) dm_34_56 mf_46 (Nat.le_of_ble_eq_true rfl) ml_4_43 mi_46 mp_46 (Nat.le_of_ble_eq_true rfl)) rfl (fun b8 hb8 => ?_)
      refine x_iload dm_34_59 rfl ?_
      refine x_iadd dm_34_61 ?_
      refine x_iconst (0) dm_34_62 (by decide) ?_
      refine im_chk _ (fun hk9 => ?_)
      refine im_callV mf_33 rfl (tn_33 j _ (0 : Int32) b8.2) (im_runV (as := [.inl _, .inl (0 : Int32)]) (rest := []) dm_34_63 mf_33 (Nat.le_of_ble_eq_true rfl) ml_4_39 mi_33 ms_33 mp_33 (Nat.le_of_ble_eq_true rfl) rfl hk9 ⟨_, _, rfl⟩) rfl (fun b10 hb10 => ?_)
      refine x_iinc (1) dm_34_66 rfl (by decide) (Nat.le_of_ble_eq_true rfl) ?_
      refine x_goto 47 dm_34_69 rfl ?_
      exact im_lsub [(0, .inr (some j)), (2, .inl y2), (3, .inr y3), (4, .inl _)] (im_sb_c rfl (im_sb_c rfl (im_sb_c rfl (im_sb_c rfl im_sb_n)))) (ih y2 y3 _ b10)
def fn_34_14 (j : Nat) : Nat → Option Nat → Int32 → Option Nat → Int32 → im_H → Option (im_H)
  | 0, _, _, _, _, _ => none
  | n + 1, y1, y2, y3, y4, h =>
    if (32 : Int32) ≤ y4 then (fn_34_47 j 1000 y2 y3 (0 : Int32) h) else ((fn_47 y2 h).bind fun b2 => (y1).bind fun q3 => if b2.2.2.1 q3 = (0, 1) then ((fn_8 q3 y4 b2.2).bind fun b5 => if b5.2.2.1 j = (0, 4) then ((fn_33 j (b2.1 + y4) b5.1 b5.2).bind fun b7 => let v8 : Int32 := (y4 + (1 : Int32)); fn_34_14 j n y1 y2 y3 v8 b7) else none) else none)
set_option maxRecDepth 100000 in
set_option maxHeartbeats 4000000 in
theorem tn_34_14 (j : Nat) : ∀ (n : Nat) (y1 : Option Nat) (y2 : Int32) (y3 : Option Nat) (y4 : Int32) (h : im_H), im_Go im_zV 3 fm_34 14 [(0, .inr (some j)), (1, .inr y1), (2, .inl y2), (3, .inr y3), (4, .inl y4)] [] h (fn_34_14 j n y1 y2 y3 y4 h)
  | 0, y1, y2, y3, y4, h => im_none
  | n + 1, y1, y2, y3, y4, h => by
    have ih := tn_34_14 j n
    unfold fn_34_14
    refine x_iload dm_34_14 rfl ?_
    refine x_bipush (32) dm_34_16 (by decide) ?_
    refine x_icmp_ge 44 dm_34_18 rfl (fun c1 => ?_) (fun c1 => ?_)
    · refine x_iconst (0) dm_34_44 (by decide) ?_
      refine x_istore dm_34_45 (Nat.le_of_ble_eq_true rfl) ?_
      exact im_lsub [(0, .inr (some j)), (2, .inl y2), (3, .inr y3), (4, .inl (0 : Int32))] (im_sb_c rfl (im_sb_c rfl (im_sb_c rfl (im_sb_c rfl im_sb_n)))) (tn_34_47 j 1000 y2 y3 (0 : Int32) h)
    · refine x_aload_n dm_34_21 rfl ?_
      refine x_iload_n dm_34_22 rfl ?_
      refine im_callI mf_47 rfl (tn_47 y2 h) (im_runS (as := [.inl y2]) (rest := [.inr (some j)]) dm_34_23 mf_47 (Nat.le_of_ble_eq_true rfl) ml_4_30 mi_47 mp_47 (Nat.le_of_ble_eq_true rfl)) rfl (fun b2 hb2 => ?_)
      refine x_iload dm_34_26 rfl ?_
      refine x_iadd dm_34_28 ?_
      refine x_aload_n dm_34_29 rfl ?_
      refine x_iload dm_34_30 rfl ?_
      refine im_bind (fun q3 hq3 => ?_)
      refine im_chk _ (fun hk4 => ?_)
      refine im_callI mf_8 rfl (im_eqo hq3 (tn_8 q3 y4 b2.2)) (im_runV (as := [.inl y4]) (rest := [.inl _, .inr (some j)]) dm_34_32 mf_8 (Nat.le_of_ble_eq_true rfl) ml_4_34 mi_8 ms_8 mp_8 (Nat.le_of_ble_eq_true rfl) hq3 hk4 ⟨_, _, rfl⟩) rfl (fun b5 hb5 => ?_)
      refine im_chk _ (fun hk6 => ?_)
      refine im_callV mf_33 rfl (tn_33 j _ b5.1 b5.2) (im_runV (as := [.inl _, .inl b5.1]) (rest := []) dm_34_35 mf_33 (Nat.le_of_ble_eq_true rfl) ml_4_39 mi_33 ms_33 mp_33 (Nat.le_of_ble_eq_true rfl) rfl hk6 ⟨_, _, rfl⟩) rfl (fun b7 hb7 => ?_)
      refine x_iinc (1) dm_34_38 rfl (by decide) (Nat.le_of_ble_eq_true rfl) ?_
      refine x_goto 14 dm_34_41 rfl ?_
      exact im_lsub [(0, .inr (some j)), (1, .inr y1), (2, .inl y2), (3, .inr y3), (4, .inl _)] (im_sb_c rfl (im_sb_c rfl (im_sb_c rfl (im_sb_c rfl (im_sb_c rfl im_sb_n))))) (ih y1 y2 y3 _ b7)
/-- FencedModules$Machine.install(LFencedModules$Code;I)V -/
def fn_34 (j : Nat) (x1 : Option Nat) (x2 : Int32) (h : im_H) : Option (im_H) :=
  if h.2.1 j = (0, 4) then ((fn_31 j x2 h).bind fun b2 => if b2.1 = none then (some b2.2) else (fn_34_14 j 1000 x1 x2 b2.1 (0 : Int32) b2.2)) else none
set_option maxRecDepth 100000 in
set_option maxHeartbeats 4000000 in
theorem tn_34 (j : Nat) (x1 : Option Nat) (x2 : Int32) (h : im_H) : im_Go im_zV 3 fm_34 0 (im_en 0 [.inr (some j), .inr x1, .inl x2]) [] h (fn_34 j x1 x2 h) := by
  unfold fn_34
  refine x_aload_n dm_34_0 rfl ?_
  refine x_iload_n dm_34_1 rfl ?_
  refine im_chk _ (fun hk1 => ?_)
  refine im_callR mf_31 rfl (tn_31 j x2 h) (im_runV (as := [.inl x2]) (rest := []) dm_34_2 mf_31 (Nat.le_of_ble_eq_true rfl) ml_4_26 mi_31 ms_31 mp_31 (Nat.le_of_ble_eq_true rfl) rfl hk1 ⟨_, _, rfl⟩) rfl (fun b2 hb2 => ?_)
  refine x_astore_n dm_34_5 (Nat.le_of_ble_eq_true rfl) ?_
  refine x_aload_n dm_34_6 rfl ?_
  refine x_ifnonnull 11 dm_34_7 rfl (fun c3 => ?_) (fun c3 => ?_)
  · exact x_return dm_34_10 rfl
  · refine x_iconst (0) dm_34_11 (by decide) ?_
    refine x_istore dm_34_12 (Nat.le_of_ble_eq_true rfl) ?_
    exact im_lsub [(0, .inr (some j)), (1, .inr x1), (2, .inl x2), (3, .inr b2.1), (4, .inl (0 : Int32))] (im_sb_c rfl (im_sb_c rfl (im_sb_c rfl (im_sb_c rfl (im_sb_c rfl im_sb_n))))) (tn_34_14 j 1000 x1 x2 b2.1 (0 : Int32) b2.2)
