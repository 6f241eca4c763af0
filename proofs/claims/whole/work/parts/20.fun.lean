theorem im_eqo {α : Type} {z : α → im_rs} {d : Nat} {F : im_F} {pc q : Nat} {as st : List im_V} {h : im_H} {t : Option α} {o : Option Nat} (ho : o = some q) (k : im_Go z d F pc (im_en 0 (.inr (some q) :: as)) st h t) : im_Go z d F pc (im_en 0 (.inr o :: as)) st h t := by
  subst ho
  exact k
theorem im_sb_n {lv : im_L} : im_sb lv [] := trivial
theorem im_sb_c {lv L : im_L} {i : Nat} {v : im_V} (h : lv.lookup i = some v) (k : im_sb lv L) : im_sb lv ((i, v) :: L) := ⟨h, k⟩
theorem im_lk3 {x : Int32} {a b c d : Int} (h1 : ¬ x = 8) (h2 : ¬ x = 9) (h3 : ¬ x = 13) : Op.lookupswitch.offset [(8, a), (9, b), (13, c)] d x.toInt = d := by
  have e1 : ¬ (8 : Int) = x.toInt := fun h => h1 (Int32.toInt_inj.mp h.symm)
  have e2 : ¬ (9 : Int) = x.toInt := fun h => h2 (Int32.toInt_inj.mp h.symm)
  have e3 : ¬ (13 : Int) = x.toInt := fun h => h3 (Int32.toInt_inj.mp h.symm)
  simp [Op.lookupswitch.offset, e1, e2, e3]
/-- FencedModules$Sandbox.exists(I)Z -/
def fn_45 (x0 : Int32) (h : im_H) : Option (Int32 × im_H) :=
  if x0 < 0 then (some ((0 : Int32), h)) else (if (3 : Int32) ≤ x0 then (some ((0 : Int32), h)) else (some ((1 : Int32), h)))
set_option maxRecDepth 100000 in
set_option maxHeartbeats 4000000 in
theorem tn_45 (x0 : Int32) (h : im_H) : im_Go im_zI 0 fm_45 0 (im_en 0 [.inl x0]) [] h (fn_45 x0 h) := by
  unfold fn_45
  refine x_iload_n dm_45_0 rfl ?_
  refine x_if_lt 13 dm_45_1 rfl (fun c1 => ?_) (fun c1 => ?_)
  · refine x_iconst (0) dm_45_13 (by decide) ?_
    exact x_zreturn dm_45_14 rfl (by decide)
  · refine x_iload_n dm_45_4 rfl ?_
    refine x_iconst (3) dm_45_5 (by decide) ?_
    refine x_icmp_ge 13 dm_45_6 rfl (fun c2 => ?_) (fun c2 => ?_)
    · refine x_iconst (0) dm_45_13 (by decide) ?_
      exact x_zreturn dm_45_14 rfl (by decide)
    · refine x_iconst (1) dm_45_9 (by decide) ?_
      refine x_goto 14 dm_45_10 rfl ?_
      exact x_zreturn dm_45_14 rfl (by decide)
def fn_150_5  : Nat → Option Nat → Int32 → Int32 → Int32 → im_H → Option (im_H)
  | 0, _, _, _, _, _ => none
  | n + 1, y0, y1, y2, y3, h =>
    if y3 ≤ y2 then (some h) else ((y0).bind fun q2 => if im_in h 1 q2 y2 then (let h4 : im_H := im_pI h q2 (y2).toNatClampNeg y1; let v5 : Int32 := (y2 + (1 : Int32)); fn_150_5  n y0 y1 v5 y3 h4) else none)
set_option maxRecDepth 100000 in
set_option maxHeartbeats 4000000 in
theorem tn_150_5  : ∀ (n : Nat) (y0 : Option Nat) (y1 : Int32) (y2 : Int32) (y3 : Int32) (h : im_H), im_Go im_zV 0 fm_150 5 [(0, .inr y0), (1, .inl y1), (2, .inl y2), (3, .inl y3)] [] h (fn_150_5  n y0 y1 y2 y3 h)
  | 0, y0, y1, y2, y3, h => im_none
  | n + 1, y0, y1, y2, y3, h => by
    have ih := tn_150_5  n
    unfold fn_150_5
    refine x_iload_n dm_150_5 rfl ?_
    refine x_iload_n dm_150_6 rfl ?_
    refine x_icmp_ge 20 dm_150_7 rfl (fun c1 => ?_) (fun c1 => ?_)
    · exact x_return dm_150_20 rfl
    · refine x_aload_n dm_150_10 rfl ?_
      refine x_iload_n dm_150_11 rfl ?_
      refine x_iload_n dm_150_12 rfl ?_
      refine im_bind (fun q2 hq2 => ?_)
      refine im_chk _ (fun hi3 => ?_)
      refine x_iastore dm_150_13 hq2 hi3 ?_
      refine x_iinc (1) dm_150_14 rfl (by decide) (Nat.le_of_ble_eq_true rfl) ?_
      refine x_goto 5 dm_150_17 rfl ?_
      exact im_lsub [(0, .inr y0), (1, .inl y1), (2, .inl _), (3, .inl y3)] (im_sb_c rfl (im_sb_c rfl (im_sb_c rfl (im_sb_c rfl im_sb_n)))) (ih y0 y1 _ y3 _)
/-- java/util/Arrays.fill([II)V -/
def fn_150 (x0 : Option Nat) (x1 : Int32) (h : im_H) : Option (im_H) :=
  (x0).bind fun q1 => if (h.2.1 q1).1 = 1 then (let v3 : Int32 := (Int32.ofNat (h.2.1 q1).2); fn_150_5 1000 x0 x1 (0 : Int32) v3 h) else none
set_option maxRecDepth 100000 in
set_option maxHeartbeats 4000000 in
theorem tn_150 (x0 : Option Nat) (x1 : Int32) (h : im_H) : im_Go im_zV 0 fm_150 0 (im_en 0 [.inr x0, .inl x1]) [] h (fn_150 x0 x1 h) := by
  unfold fn_150
  refine x_iconst (0) dm_150_0 (by decide) ?_
  refine x_istore_n dm_150_1 (Nat.le_of_ble_eq_true rfl) ?_
  refine x_aload_n dm_150_2 rfl ?_
  refine im_bind (fun q1 hq1 => ?_)
  refine im_chk _ (fun hi2 => ?_)
  refine x_alen _ dm_150_3 hq1 hi2 rfl ?_
  refine x_istore_n dm_150_4 (Nat.le_of_ble_eq_true rfl) ?_
  exact im_lsub [(0, .inr x0), (1, .inl x1), (2, .inl (0 : Int32)), (3, .inl _)] (im_sb_c rfl (im_sb_c rfl (im_sb_c rfl (im_sb_c rfl im_sb_n)))) (tn_150_5 1000 x0 x1 (0 : Int32) _ h)
/-- FencedModules$CallList.<init>()V -/
def fn_0 (j : Nat) (h : im_H) : Option (im_H) :=
  if im_oa h [(0, .inr (some j))] [.inr (some j)] = true then (let h2 : im_H := im_nw h (1, 16) 16; if h2.2.1 j = (0, 0) then (let h4 : im_H := im_pR h2 j 0 (some h.1.1); if im_oa h4 [(0, .inr (some j))] [.inr (some j)] = true then (let h6 : im_H := im_nw h4 (1, 16) 16; if h6.2.1 j = (0, 0) then (let h8 : im_H := im_pR h6 j 1 (some h4.1.1); if im_oa h8 [(0, .inr (some j))] [.inr (some j)] = true then (let h10 : im_H := im_nw h8 (1, 16) 16; if h10.2.1 j = (0, 0) then (let h12 : im_H := im_pR h10 j 2 (some h8.1.1); some h12) else none) else none) else none) else none) else none) else none
set_option maxRecDepth 100000 in
set_option maxHeartbeats 4000000 in
theorem tn_0 (j : Nat) (h : im_H) : im_Go im_zV 1 fm_0 0 (im_en 0 [.inr (some j)]) [] h (fn_0 j h) := by
  unfold fn_0
  refine x_aload_n dm_0_0 rfl ?_
  refine x_objinit dm_0_1 ml_0_1 mo_i mo_c (Nat.le_of_ble_eq_true rfl) (Nat.le_of_ble_eq_true rfl) rfl ?_
  refine x_aload_n dm_0_4 rfl ?_
  refine x_bipush (16) dm_0_5 (by decide) ?_
  refine im_chk _ (fun ho1 => ?_)
  refine x_newI 16 dm_0_7 ma_I rfl (by decide) rfl (Nat.le_of_ble_eq_true rfl) ho1 ?_
  refine im_chk _ (fun hk3 => ?_)
  refine x_putFR dm_0_9 fl_0_9 rfl rfl rfl rfl hk3 ?_
  refine x_aload_n dm_0_12 rfl ?_
  refine x_bipush (16) dm_0_13 (by decide) ?_
  refine im_chk _ (fun ho5 => ?_)
  refine x_newI 16 dm_0_15 ma_I rfl (by decide) rfl (Nat.le_of_ble_eq_true rfl) ho5 ?_
  refine im_chk _ (fun hk7 => ?_)
  refine x_putFR dm_0_17 fl_0_13 rfl rfl rfl rfl hk7 ?_
  refine x_aload_n dm_0_20 rfl ?_
  refine x_bipush (16) dm_0_21 (by decide) ?_
  refine im_chk _ (fun ho9 => ?_)
  refine x_newI 16 dm_0_23 ma_I rfl (by decide) rfl (Nat.le_of_ble_eq_true rfl) ho9 ?_
  refine im_chk _ (fun hk11 => ?_)
  refine x_putFR dm_0_25 fl_0_16 rfl rfl rfl rfl hk11 ?_
  exact x_return dm_0_28 rfl
/-- FencedModules$Code.<init>()V -/
def fn_4 (j : Nat) (h : im_H) : Option (im_H) :=
  if im_oa h [(0, .inr (some j))] [.inr (some j)] = true then (let h2 : im_H := im_nw h (1, 31) 31; if h2.2.1 j = (0, 1) then (let h4 : im_H := im_pR h2 j 0 (some h.1.1); some h4) else none) else none
set_option maxRecDepth 100000 in
set_option maxHeartbeats 4000000 in
theorem tn_4 (j : Nat) (h : im_H) : im_Go im_zV 1 fm_4 0 (im_en 0 [.inr (some j)]) [] h (fn_4 j h) := by
  unfold fn_4
  refine x_aload_n dm_4_0 rfl ?_
  refine x_objinit dm_4_1 ml_1_1 mo_i mo_c (Nat.le_of_ble_eq_true rfl) (Nat.le_of_ble_eq_true rfl) rfl ?_
  refine x_aload_n dm_4_4 rfl ?_
  refine x_bipush (31) dm_4_5 (by decide) ?_
  refine im_chk _ (fun ho1 => ?_)
  refine x_newI 31 dm_4_7 ma_I rfl (by decide) rfl (Nat.le_of_ble_eq_true rfl) ho1 ?_
  refine im_chk _ (fun hk3 => ?_)
  refine x_putFR dm_4_9 fl_1_9 rfl rfl rfl rfl hk3 ?_
  exact x_return dm_4_12 rfl
/-- FencedModules$Machine.sandboxAt(I)LFencedModules$Sandbox; -/
def fn_31 (j : Nat) (x1 : Int32) (h : im_H) : Option (Option Nat × im_H) :=
  (fn_45 x1 h).bind fun b1 => if b1.1 = 0 then (some (none, b1.2)) else (if b1.2.2.1 j = (0, 4) then (((im_gR b1.2 j 1)).bind fun q4 => if im_in b1.2 3 q4 x1 ∧ (b1.2.2.1 q4).2 ≤ 32 then (some ((im_gR b1.2 q4 (x1).toNatClampNeg), b1.2)) else none) else none)
set_option maxRecDepth 100000 in
set_option maxHeartbeats 4000000 in
theorem tn_31 (j : Nat) (x1 : Int32) (h : im_H) : im_Go im_zR 1 fm_31 0 (im_en 0 [.inr (some j), .inl x1]) [] h (fn_31 j x1 h) := by
  unfold fn_31
  refine x_iload_n dm_31_0 rfl ?_
  refine im_callI mf_45 rfl (tn_45 x1 h) (im_runS (as := [.inl x1]) (rest := []) dm_31_1 mf_45 (Nat.le_of_ble_eq_true rfl) ml_4_22 mi_45 mp_45 (Nat.le_of_ble_eq_true rfl)) rfl (fun b1 hb1 => ?_)
  refine x_if_eq 16 dm_31_4 rfl (fun c2 => ?_) (fun c2 => ?_)
  · refine x_null dm_31_16 ?_
    exact x_areturn dm_31_17 rfl
  · refine x_aload_n dm_31_7 rfl ?_
    refine im_chk _ (fun hk3 => ?_)
    refine x_getR dm_31_8 fl_4_15 rfl rfl hk3 ?_
    refine x_iload_n dm_31_11 rfl ?_
    refine im_bind (fun q4 hq4 => ?_)
    refine im_chk _ (fun hi5 => ?_)
    refine x_aaload dm_31_12 hq4 hi5 ?_
    refine x_goto 17 dm_31_13 rfl ?_
    exact x_areturn dm_31_17 rfl
/-- FencedModules$Source.<init>()V -/
def fn_55 (j : Nat) (h : im_H) : Option (im_H) :=
  if im_oa h [(0, .inr (some j))] [.inr (some j)] = true then (let h2 : im_H := im_nw h (1, 24) 24; if h2.2.1 j = (0, 6) then (let h4 : im_H := im_pR h2 j 0 (some h.1.1); if im_oa h4 [(0, .inr (some j))] [.inr (some j)] = true then (let h6 : im_H := im_nw h4 (1, 24) 24; if h6.2.1 j = (0, 6) then (let h8 : im_H := im_pR h6 j 1 (some h4.1.1); if im_oa h8 [(0, .inr (some j))] [.inr (some j)] = true then (let h10 : im_H := im_nw h8 (1, 24) 24; if h10.2.1 j = (0, 6) then (let h12 : im_H := im_pR h10 j 2 (some h8.1.1); if im_oa h12 [(0, .inr (some j))] [.inr (some j)] = true then (let h14 : im_H := im_nw h12 (1, 24) 24; if h14.2.1 j = (0, 6) then (let h16 : im_H := im_pR h14 j 3 (some h12.1.1); if im_oa h16 [(0, .inr (some j))] [.inr (some j)] = true then (let h18 : im_H := im_nw h16 (1, 8) 8; if h18.2.1 j = (0, 6) then (let h20 : im_H := im_pR h18 j 4 (some h16.1.1); if h20.2.1 j = (0, 6) then ((fn_150 (im_gR h20 j 4) (-1 : Int32) h20).bind fun b22 => some b22) else none) else none) else none) else none) else none) else none) else none) else none) else none) else none) else none
set_option maxRecDepth 100000 in
set_option maxHeartbeats 4000000 in
theorem tn_55 (j : Nat) (h : im_H) : im_Go im_zV 1 fm_55 0 (im_en 0 [.inr (some j)]) [] h (fn_55 j h) := by
  unfold fn_55
  refine x_aload_n dm_55_0 rfl ?_
  refine x_objinit dm_55_1 ml_6_1 mo_i mo_c (Nat.le_of_ble_eq_true rfl) (Nat.le_of_ble_eq_true rfl) rfl ?_
  refine x_aload_n dm_55_4 rfl ?_
  refine x_bipush (24) dm_55_5 (by decide) ?_
  refine im_chk _ (fun ho1 => ?_)
  refine x_newI 24 dm_55_7 ma_I rfl (by decide) rfl (Nat.le_of_ble_eq_true rfl) ho1 ?_
  refine im_chk _ (fun hk3 => ?_)
  refine x_putFR dm_55_9 fl_6_9 rfl rfl rfl rfl hk3 ?_
  refine x_aload_n dm_55_12 rfl ?_
  refine x_bipush (24) dm_55_13 (by decide) ?_
  refine im_chk _ (fun ho5 => ?_)
  refine x_newI 24 dm_55_15 ma_I rfl (by decide) rfl (Nat.le_of_ble_eq_true rfl) ho5 ?_
  refine im_chk _ (fun hk7 => ?_)
  refine x_putFR dm_55_17 fl_6_13 rfl rfl rfl rfl hk7 ?_
  refine x_aload_n dm_55_20 rfl ?_
  refine x_bipush (24) dm_55_21 (by decide) ?_
  refine im_chk _ (fun ho9 => ?_)
  refine x_newI 24 dm_55_23 ma_I rfl (by decide) rfl (Nat.le_of_ble_eq_true rfl) ho9 ?_
  refine im_chk _ (fun hk11 => ?_)
  refine x_putFR dm_55_25 fl_6_16 rfl rfl rfl rfl hk11 ?_
  refine x_aload_n dm_55_28 rfl ?_
  refine x_bipush (24) dm_55_29 (by decide) ?_
  refine im_chk _ (fun ho13 => ?_)
  refine x_newI 24 dm_55_31 ma_I rfl (by decide) rfl (Nat.le_of_ble_eq_true rfl) ho13 ?_
  refine im_chk _ (fun hk15 => ?_)
  refine x_putFR dm_55_33 fl_6_19 rfl rfl rfl rfl hk15 ?_
  refine x_aload_n dm_55_36 rfl ?_
  refine x_bipush (8) dm_55_37 (by decide) ?_
  refine im_chk _ (fun ho17 => ?_)
  refine x_newI 8 dm_55_39 ma_I rfl (by decide) rfl (Nat.le_of_ble_eq_true rfl) ho17 ?_
  refine im_chk _ (fun hk19 => ?_)
  refine x_putFR dm_55_41 fl_6_22 rfl rfl rfl rfl hk19 ?_
  refine x_aload_n dm_55_44 rfl ?_
  refine im_chk _ (fun hk21 => ?_)
  refine x_getR dm_55_45 fl_6_22 rfl rfl hk21 ?_
  refine x_iconst (-1) dm_55_48 (by decide) ?_
  refine im_callV mf_150 rfl (tn_150 _ (-1 : Int32) _) (im_runS (as := [.inr _, .inl (-1 : Int32)]) (rest := []) dm_55_49 mf_150 (Nat.le_of_ble_eq_true rfl) ml_6_25 mi_150 mp_150 (Nat.le_of_ble_eq_true rfl)) rfl (fun b22 hb22 => ?_)
  exact x_return dm_55_52 rfl
/-- FencedModules$Desk.<init>()V -/
def fn_9 (j : Nat) (h : im_H) : Option (im_H) :=
  if im_oa h [(0, .inr (some j))] [.inr (some j)] = true then (let h2 : im_H := im_nw h (0, 0) 4; if ([(0, .inr (some j))] : im_L).all (fun q => im_ok h2.1.1 q.2) = true ∧ ([.inr (some h.1.1), .inr (some j)] : List im_V).all (im_ok h2.1.1) = true then ((fn_0 h.1.1 h2).bind fun b3 => if b3.2.1 j = (0, 2) then (let h6 : im_H := im_pR b3 j 0 (some h.1.1); some h6) else none) else none) else none
set_option maxRecDepth 100000 in
set_option maxHeartbeats 4000000 in
theorem tn_9 (j : Nat) (h : im_H) : im_Go im_zV 2 fm_9 0 (im_en 0 [.inr (some j)]) [] h (fn_9 j h) := by
  unfold fn_9
  refine x_aload_n dm_9_0 rfl ?_
  refine x_objinit dm_9_1 ml_2_1 mo_i mo_c (Nat.le_of_ble_eq_true rfl) (Nat.le_of_ble_eq_true rfl) rfl ?_
  refine x_aload_n dm_9_4 rfl ?_
  refine im_chk _ (fun ho1 => ?_)
  refine x_new dm_9_5 fc_0 ct_0 cl_2_7 cn_0 ci_0 rfl ho1 ?_
  refine x_dup dm_9_8 ?_
  refine im_chk _ (fun ho4 => ?_)
  refine im_callA mf_0 rfl (tn_0 _ _) (im_runI (as := []) (rest := [.inr _, .inr (some j)]) dm_9_9 mf_0 (Nat.le_of_ble_eq_true rfl) rfl ml_2_9 mi_0 rfl mp_0 (Nat.le_of_ble_eq_true rfl) rfl) rfl ho4 (fun b3 hb3 => ?_)
  refine im_chk _ (fun hk5 => ?_)
  refine x_putFR dm_9_12 fl_2_10 rfl rfl rfl rfl hk5 ?_
  exact x_return dm_9_15 rfl
/-- FencedModules$Follower.<init>()V -/
def fn_17 (j : Nat) (h : im_H) : Option (im_H) :=
  if im_oa h [(0, .inr (some j))] [.inr (some j)] = true then (let h2 : im_H := im_nw h (0, 2) 3; if ([(0, .inr (some j))] : im_L).all (fun q => im_ok h2.1.1 q.2) = true ∧ ([.inr (some h.1.1), .inr (some j)] : List im_V).all (im_ok h2.1.1) = true then ((fn_9 h.1.1 h2).bind fun b3 => if b3.2.1 j = (0, 3) then (let h6 : im_H := im_pR b3 j 0 (some h.1.1); if im_oa h6 [(0, .inr (some j))] [.inr (some j)] = true then (let h8 : im_H := im_nw h6 (1, 21) 21; if h8.2.1 j = (0, 3) then (let h10 : im_H := im_pR h8 j 1 (some h6.1.1); if im_oa h10 [(0, .inr (some j))] [.inr (some j)] = true then (let h12 : im_H := im_nw h10 (1, 21) 21; if h12.2.1 j = (0, 3) then (let h14 : im_H := im_pR h12 j 2 (some h10.1.1); some h14) else none) else none) else none) else none) else none) else none) else none
set_option maxRecDepth 100000 in
set_option maxHeartbeats 4000000 in
theorem tn_17 (j : Nat) (h : im_H) : im_Go im_zV 3 fm_17 0 (im_en 0 [.inr (some j)]) [] h (fn_17 j h) := by
  unfold fn_17
  refine x_aload_n dm_17_0 rfl ?_
  refine x_objinit dm_17_1 ml_3_7 mo_i mo_c (Nat.le_of_ble_eq_true rfl) (Nat.le_of_ble_eq_true rfl) rfl ?_
  refine x_aload_n dm_17_4 rfl ?_
  refine im_chk _ (fun ho1 => ?_)
  refine x_new dm_17_5 fc_2 ct_2 cl_3_13 cn_2 ci_2 rfl ho1 ?_
  refine x_dup dm_17_8 ?_
  refine im_chk _ (fun ho4 => ?_)
  refine im_callA mf_9 rfl (tn_9 _ _) (im_runI (as := []) (rest := [.inr _, .inr (some j)]) dm_17_9 mf_9 (Nat.le_of_ble_eq_true rfl) rfl ml_3_15 mi_9 rfl mp_9 (Nat.le_of_ble_eq_true rfl) rfl) rfl ho4 (fun b3 hb3 => ?_)
  refine im_chk _ (fun hk5 => ?_)
  refine x_putFR dm_17_12 fl_3_16 rfl rfl rfl rfl hk5 ?_
  refine x_aload_n dm_17_15 rfl ?_
  refine x_bipush (21) dm_17_16 (by decide) ?_
  refine im_chk _ (fun ho7 => ?_)
  refine x_newI 21 dm_17_18 ma_I rfl (by decide) rfl (Nat.le_of_ble_eq_true rfl) ho7 ?_
  refine im_chk _ (fun hk9 => ?_)
  refine x_putFR dm_17_20 fl_3_20 rfl rfl rfl rfl hk9 ?_
  refine x_aload_n dm_17_23 rfl ?_
  refine x_bipush (21) dm_17_24 (by decide) ?_
  refine im_chk _ (fun ho11 => ?_)
  refine x_newI 21 dm_17_26 ma_I rfl (by decide) rfl (Nat.le_of_ble_eq_true rfl) ho11 ?_
  refine im_chk _ (fun hk13 => ?_)
  refine x_putFR dm_17_28 fl_3_24 rfl rfl rfl rfl hk13 ?_
  exact x_return dm_17_31 rfl
/-- FencedModules$Sandbox.<init>(I)V -/
def fn_44 (j : Nat) (x1 : Int32) (h : im_H) : Option (im_H) :=
  if im_oa h [(0, .inr (some j)), (1, .inl x1)] [.inr (some j)] = true then (let h2 : im_H := im_nw h (1, 8) 8; if h2.2.1 j = (0, 5) then (let h4 : im_H := im_pR h2 j 1 (some h.1.1); if im_oa h4 [(0, .inr (some j)), (1, .inl x1)] [.inr (some j)] = true then (let h6 : im_H := im_nw h4 (1, 12) 12; if h6.2.1 j = (0, 5) then (let h8 : im_H := im_pR h6 j 2 (some h4.1.1); if im_oa h8 [(0, .inr (some j)), (1, .inl x1)] [.inr (some j)] = true then (let h10 : im_H := im_nw h8 (0, 2) 3; if ([(0, .inr (some j)), (1, .inl x1)] : im_L).all (fun q => im_ok h10.1.1 q.2) = true ∧ ([.inr (some h8.1.1), .inr (some j)] : List im_V).all (im_ok h10.1.1) = true then ((fn_9 h8.1.1 h10).bind fun b11 => if b11.2.1 j = (0, 5) then (let h14 : im_H := im_pR b11 j 3 (some h8.1.1); if im_oa h14 [(0, .inr (some j)), (1, .inl x1)] [.inr (some j)] = true then (let h16 : im_H := im_nw h14 (1, 4) 4; if h16.2.1 j = (0, 5) then (let h18 : im_H := im_pR h16 j 7 (some h14.1.1); if im_oa h18 [(0, .inr (some j)), (1, .inl x1)] [.inr (some j)] = true then (let h20 : im_H := im_nw h18 (1, 8) 8; if h20.2.1 j = (0, 5) then (let h22 : im_H := im_pR h20 j 8 (some h18.1.1); if h22.2.1 j = (0, 5) then (let h24 : im_H := im_pI h22 j 0 x1; some h24) else none) else none) else none) else none) else none) else none) else none) else none) else none) else none) else none) else none
set_option maxRecDepth 100000 in
set_option maxHeartbeats 4000000 in
theorem tn_44 (j : Nat) (x1 : Int32) (h : im_H) : im_Go im_zV 3 fm_44 0 (im_en 0 [.inr (some j), .inl x1]) [] h (fn_44 j x1 h) := by
  unfold fn_44
  refine x_aload_n dm_44_0 rfl ?_
  refine x_objinit dm_44_1 ml_5_1 mo_i mo_c (Nat.le_of_ble_eq_true rfl) (Nat.le_of_ble_eq_true rfl) rfl ?_
  refine x_aload_n dm_44_4 rfl ?_
  refine x_bipush (8) dm_44_5 (by decide) ?_
  refine im_chk _ (fun ho1 => ?_)
  refine x_newI 8 dm_44_7 ma_I rfl (by decide) rfl (Nat.le_of_ble_eq_true rfl) ho1 ?_
  refine im_chk _ (fun hk3 => ?_)
  refine x_putFR dm_44_9 fl_5_9 rfl rfl rfl rfl hk3 ?_
  refine x_aload_n dm_44_12 rfl ?_
  refine x_bipush (12) dm_44_13 (by decide) ?_
  refine im_chk _ (fun ho5 => ?_)
  refine x_newI 12 dm_44_15 ma_I rfl (by decide) rfl (Nat.le_of_ble_eq_true rfl) ho5 ?_
  refine im_chk _ (fun hk7 => ?_)
  refine x_putFR dm_44_17 fl_5_13 rfl rfl rfl rfl hk7 ?_
  refine x_aload_n dm_44_20 rfl ?_
  refine im_chk _ (fun ho9 => ?_)
  refine x_new dm_44_21 fc_2 ct_2 cl_5_16 cn_2 ci_2 rfl ho9 ?_
  refine x_dup dm_44_24 ?_
  refine im_chk _ (fun ho12 => ?_)
  refine im_callA mf_9 rfl (tn_9 _ _) (im_runI (as := []) (rest := [.inr _, .inr (some j)]) dm_44_25 mf_9 (Nat.le_of_ble_eq_true rfl) rfl ml_5_18 mi_9 rfl mp_9 (Nat.le_of_ble_eq_true rfl) rfl) rfl ho12 (fun b11 hb11 => ?_)
  refine im_chk _ (fun hk13 => ?_)
  refine x_putFR dm_44_28 fl_5_19 rfl rfl rfl rfl hk13 ?_
  refine x_aload_n dm_44_31 rfl ?_
  refine x_iconst (4) dm_44_32 (by decide) ?_
  refine im_chk _ (fun ho15 => ?_)
  refine x_newI 4 dm_44_33 ma_I rfl (by decide) rfl (Nat.le_of_ble_eq_true rfl) ho15 ?_
  refine im_chk _ (fun hk17 => ?_)
  refine x_putFR dm_44_35 fl_5_23 rfl rfl rfl rfl hk17 ?_
  refine x_aload_n dm_44_38 rfl ?_
  refine x_bipush (8) dm_44_39 (by decide) ?_
  refine im_chk _ (fun ho19 => ?_)
  refine x_newI 8 dm_44_41 ma_I rfl (by decide) rfl (Nat.le_of_ble_eq_true rfl) ho19 ?_
  refine im_chk _ (fun hk21 => ?_)
  refine x_putFR dm_44_43 fl_5_26 rfl rfl rfl rfl hk21 ?_
  refine x_aload_n dm_44_46 rfl ?_
  refine x_iload_n dm_44_47 rfl ?_
  refine im_chk _ (fun hk23 => ?_)
  refine x_putFI dm_44_48 fl_5_29 rfl rfl rfl rfl hk23 ?_
  exact x_return dm_44_51 rfl
def fn_30_23 (j : Nat) : Nat → Int32 → im_H → Option (im_H)
  | 0, _, _ => none
  | n + 1, y1, h =>
    if (3 : Int32) ≤ y1 then (some h) else (if h.2.1 j = (0, 4) then (if im_oa h [(0, .inr (some j)), (1, .inl y1)] [.inl y1, .inr (im_gR h j 1)] = true then (let h4 : im_H := im_nw h (0, 5) 11; if ([(0, .inr (some j)), (1, .inl y1)] : im_L).all (fun q => im_ok h4.1.1 q.2) = true ∧ ([.inr (some h.1.1), .inl y1, .inr (im_gR h j 1)] : List im_V).all (im_ok h4.1.1) = true then ((fn_44 h.1.1 y1 h4).bind fun b5 => ((im_gR h j 1)).bind fun q7 => if b5.2.1 h.1.1 = (0, 5) then (if im_in b5 3 q7 y1 ∧ (b5.2.1 q7).2 ≤ 32 then (let h10 : im_H := im_pR b5 q7 (y1).toNatClampNeg (some h.1.1); let v11 : Int32 := (y1 + (1 : Int32)); fn_30_23 j n v11 h10) else none) else none) else none) else none) else none)
set_option maxRecDepth 100000 in
set_option maxHeartbeats 4000000 in
theorem tn_30_23 (j : Nat) : ∀ (n : Nat) (y1 : Int32) (h : im_H), im_Go im_zV 4 fm_30 23 [(0, .inr (some j)), (1, .inl y1)] [] h (fn_30_23 j n y1 h)
  | 0, y1, h => im_none
  | n + 1, y1, h => by
    have ih := tn_30_23 j n
    unfold fn_30_23
    refine x_iload_n dm_30_23 rfl ?_
    refine x_iconst (3) dm_30_24 (by decide) ?_
    refine x_icmp_ge 48 dm_30_25 rfl (fun c1 => ?_) (fun c1 => ?_)
    · exact x_return dm_30_48 rfl
    · refine x_aload_n dm_30_28 rfl ?_
      refine im_chk _ (fun hk2 => ?_)
      refine x_getR dm_30_29 fl_4_15 rfl rfl hk2 ?_
      refine x_iload_n dm_30_32 rfl ?_
      refine im_chk _ (fun ho3 => ?_)
      refine x_new dm_30_33 fc_5 ct_5 cl_4_13 cn_5 ci_5 rfl ho3 ?_
      refine x_dup dm_30_36 ?_
      refine x_iload_n dm_30_37 rfl ?_
      refine im_chk _ (fun ho6 => ?_)
      refine im_callA mf_44 rfl (tn_44 _ y1 _) (im_runI (as := [.inl y1]) (rest := [.inr _, .inl y1, .inr _]) dm_30_38 mf_44 (Nat.le_of_ble_eq_true rfl) rfl ml_4_19 mi_44 rfl mp_44 (Nat.le_of_ble_eq_true rfl) rfl) rfl ho6 (fun b5 hb5 => ?_)
      refine im_bind (fun q7 hq7 => ?_)
      refine im_chk _ (fun hk8 => ?_)
      refine im_chk _ (fun hi9 => ?_)
      refine x_aastore dm_30_41 hq7 rfl hk8 hi9 ?_
      refine x_iinc (1) dm_30_42 rfl (by decide) (Nat.le_of_ble_eq_true rfl) ?_
      refine x_goto 23 dm_30_45 rfl ?_
      exact im_lsub [(0, .inr (some j)), (1, .inl _)] (im_sb_c rfl (im_sb_c rfl im_sb_n)) (ih _ _)
/-- FencedModules$Machine.<init>()V -/
def fn_30 (j : Nat) (h : im_H) : Option (im_H) :=
  if im_oa h [(0, .inr (some j))] [.inr (some j)] = true then (let h2 : im_H := im_nw h (1, 256) 256; if h2.2.1 j = (0, 4) then (let h4 : im_H := im_pR h2 j 0 (some h.1.1); if im_oa h4 [(0, .inr (some j))] [.inr (some j)] = true then (let h6 : im_H := im_nw h4 (3, 3) 3; if h6.2.1 j = (0, 4) then (let h8 : im_H := im_pR h6 j 1 (some h4.1.1); fn_30_23 j 1000 (0 : Int32) h8) else none) else none) else none) else none
set_option maxRecDepth 100000 in
set_option maxHeartbeats 4000000 in
theorem tn_30 (j : Nat) (h : im_H) : im_Go im_zV 4 fm_30 0 (im_en 0 [.inr (some j)]) [] h (fn_30 j h) := by
  unfold fn_30
  refine x_aload_n dm_30_0 rfl ?_
  refine x_objinit dm_30_1 ml_4_1 mo_i mo_c (Nat.le_of_ble_eq_true rfl) (Nat.le_of_ble_eq_true rfl) rfl ?_
  refine x_aload_n dm_30_4 rfl ?_
  refine x_sipush (256) dm_30_5 (by decide) ?_
  refine im_chk _ (fun ho1 => ?_)
  refine x_newI 256 dm_30_8 ma_I rfl (by decide) rfl (Nat.le_of_ble_eq_true rfl) ho1 ?_
  refine im_chk _ (fun hk3 => ?_)
  refine x_putFR dm_30_10 fl_4_9 rfl rfl rfl rfl hk3 ?_
  refine x_aload_n dm_30_13 rfl ?_
  refine x_iconst (3) dm_30_14 (by decide) ?_
  refine im_chk _ (fun ho5 => ?_)
  refine x_newA 3 dm_30_15 cl_4_13 rfl (by decide) rfl (Nat.le_of_ble_eq_true rfl) ho5 ?_
  refine im_chk _ (fun hk7 => ?_)
  refine x_putFR dm_30_18 fl_4_15 rfl rfl rfl rfl hk7 ?_
  refine x_iconst (0) dm_30_21 (by decide) ?_
  refine x_istore_n dm_30_22 (Nat.le_of_ble_eq_true rfl) ?_
  exact im_lsub [(0, .inr (some j)), (1, .inl (0 : Int32))] (im_sb_c rfl (im_sb_c rfl im_sb_n)) (tn_30_23 j 1000 (0 : Int32) _)
/-- FencedModules.<init>()V -/
def fn_72 (j : Nat) (h : im_H) : Option (im_H) :=
  if im_oa h [(0, .inr (some j))] [.inr (some j)] = true then (let h2 : im_H := im_nw h (0, 6) 6; if ([(0, .inr (some j))] : im_L).all (fun q => im_ok h2.1.1 q.2) = true ∧ ([.inr (some h.1.1), .inr (some j)] : List im_V).all (im_ok h2.1.1) = true then ((fn_55 h.1.1 h2).bind fun b3 => if b3.2.1 j = (0, 7) then (let h6 : im_H := im_pR b3 j 0 (some h.1.1); if im_oa h6 [(0, .inr (some j))] [.inr (some j)] = true then (let h8 : im_H := im_nw h6 (0, 1) 2; if ([(0, .inr (some j))] : im_L).all (fun q => im_ok h8.1.1 q.2) = true ∧ ([.inr (some h6.1.1), .inr (some j)] : List im_V).all (im_ok h8.1.1) = true then ((fn_4 h6.1.1 h8).bind fun b9 => if b9.2.1 j = (0, 7) then (let h12 : im_H := im_pR b9 j 1 (some h6.1.1); if im_oa h12 [(0, .inr (some j))] [.inr (some j)] = true then (let h14 : im_H := im_nw h12 (0, 4) 4; if ([(0, .inr (some j))] : im_L).all (fun q => im_ok h14.1.1 q.2) = true ∧ ([.inr (some h12.1.1), .inr (some j)] : List im_V).all (im_ok h14.1.1) = true then ((fn_30 h12.1.1 h14).bind fun b15 => if b15.2.1 j = (0, 7) then (let h18 : im_H := im_pR b15 j 2 (some h12.1.1); if im_oa h18 [(0, .inr (some j))] [.inr (some j)] = true then (let h20 : im_H := im_nw h18 (0, 3) 4; if ([(0, .inr (some j))] : im_L).all (fun q => im_ok h20.1.1 q.2) = true ∧ ([.inr (some h18.1.1), .inr (some j)] : List im_V).all (im_ok h20.1.1) = true then ((fn_17 h18.1.1 h20).bind fun b21 => if b21.2.1 j = (0, 7) then (let h24 : im_H := im_pR b21 j 3 (some h18.1.1); some h24) else none) else none) else none) else none) else none) else none) else none) else none) else none) else none) else none) else none
set_option maxRecDepth 100000 in
set_option maxHeartbeats 4000000 in
theorem tn_72 (j : Nat) (h : im_H) : im_Go im_zV 5 fm_72 0 (im_en 0 [.inr (some j)]) [] h (fn_72 j h) := by
  unfold fn_72
  refine x_aload_n dm_72_0 rfl ?_
  refine x_objinit dm_72_1 ml_7_1 mo_i mo_c (Nat.le_of_ble_eq_true rfl) (Nat.le_of_ble_eq_true rfl) rfl ?_
  refine x_aload_n dm_72_4 rfl ?_
  refine im_chk _ (fun ho1 => ?_)
  refine x_new dm_72_5 fc_6 ct_6 cl_7_7 cn_6 ci_6 rfl ho1 ?_
  refine x_dup dm_72_8 ?_
  refine im_chk _ (fun ho4 => ?_)
  refine im_callA mf_55 rfl (tn_55 _ _) (im_runI (as := []) (rest := [.inr _, .inr (some j)]) dm_72_9 mf_55 (Nat.le_of_ble_eq_true rfl) rfl ml_7_9 mi_55 rfl mp_55 (Nat.le_of_ble_eq_true rfl) rfl) rfl ho4 (fun b3 hb3 => ?_)
  refine im_chk _ (fun hk5 => ?_)
  refine x_putFR dm_72_12 fl_7_10 rfl rfl rfl rfl hk5 ?_
  refine x_aload_n dm_72_15 rfl ?_
  refine im_chk _ (fun ho7 => ?_)
  refine x_new dm_72_16 fc_1 ct_1 cl_7_16 cn_1 ci_1 rfl ho7 ?_
  refine x_dup dm_72_19 ?_
  refine im_chk _ (fun ho10 => ?_)
  refine im_callA mf_4 rfl (tn_4 _ _) (im_runI (as := []) (rest := [.inr _, .inr (some j)]) dm_72_20 mf_4 (Nat.le_of_ble_eq_true rfl) rfl ml_7_18 mi_4 rfl mp_4 (Nat.le_of_ble_eq_true rfl) rfl) rfl ho10 (fun b9 hb9 => ?_)
  refine im_chk _ (fun hk11 => ?_)
  refine x_putFR dm_72_23 fl_7_19 rfl rfl rfl rfl hk11 ?_
  refine x_aload_n dm_72_26 rfl ?_
  refine im_chk _ (fun ho13 => ?_)
  refine x_new dm_72_27 fc_4 ct_4 cl_7_23 cn_4 ci_4 rfl ho13 ?_
  refine x_dup dm_72_30 ?_
  refine im_chk _ (fun ho16 => ?_)
  refine im_callA mf_30 rfl (tn_30 _ _) (im_runI (as := []) (rest := [.inr _, .inr (some j)]) dm_72_31 mf_30 (Nat.le_of_ble_eq_true rfl) rfl ml_7_25 mi_30 rfl mp_30 (Nat.le_of_ble_eq_true rfl) rfl) rfl ho16 (fun b15 hb15 => ?_)
  refine im_chk _ (fun hk17 => ?_)
  refine x_putFR dm_72_34 fl_7_26 rfl rfl rfl rfl hk17 ?_
  refine x_aload_n dm_72_37 rfl ?_
  refine im_chk _ (fun ho19 => ?_)
  refine x_new dm_72_38 fc_3 ct_3 cl_7_30 cn_3 ci_3 rfl ho19 ?_
  refine x_dup dm_72_41 ?_
  refine im_chk _ (fun ho22 => ?_)
  refine im_callA mf_17 rfl (tn_17 _ _) (im_runI (as := []) (rest := [.inr _, .inr (some j)]) dm_72_42 mf_17 (Nat.le_of_ble_eq_true rfl) rfl ml_7_32 mi_17 rfl mp_17 (Nat.le_of_ble_eq_true rfl) rfl) rfl ho22 (fun b21 hb21 => ?_)
  refine im_chk _ (fun hk23 => ?_)
  refine x_putFR dm_72_45 fl_7_33 rfl rfl rfl rfl hk23 ?_
  exact x_return dm_72_48 rfl
