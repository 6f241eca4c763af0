/-- FencedModules$Machine.answerCall(LFencedModules$Sandbox;II)V -/
def fn_41 (j : Nat) (x1 : Option Nat) (x2 : Int32) (x3 : Int32) (h : im_H) : Option (im_H) :=
  (x1).bind fun q1 => if h.2.1 q1 = (0, 5) then (let o3 : Option Nat := (im_gR h q1 1); (o3).bind fun q4 => if im_in h 1 q4 (1 : Int32) then (if im_in h 1 q4 (2 : Int32) then (((im_gR h q1 3)).bind fun q7 => if h.2.1 q7 = (0, 2) then ((fn_14 q7 x2 (im_gI h q4 ((1 : Int32)).toNatClampNeg) (im_gI h q4 ((2 : Int32)).toNatClampNeg) h).bind fun b9 => if x2 = 0 then (if b9.2.1 q1 = (0, 5) then ((fn_49 q1 (2 : Int32) x3 b9).bind fun b12 => some b12) else none) else (if x2 = 1 then (if im_in b9 1 q4 (1 : Int32) then (if b9.2.1 q1 = (0, 5) then ((fn_53 q1 (im_gI b9 q4 ((1 : Int32)).toNatClampNeg) b9).bind fun b16 => if im_in b16 1 q4 (1 : Int32) then (let h18 : im_H := im_pI b16 q4 ((1 : Int32)).toNatClampNeg (0 : Int32); some h18) else none) else none) else none) else (if x2 = 2 then (if b9.2.1 q1 = (0, 5) then (((im_gR b9 q1 3)).bind fun q21 => if b9.2.1 q21 = (0, 2) then ((fn_16 q21 x1 b9).bind fun b23 => if im_in b23.2 1 q4 (1 : Int32) then (let h25 : im_H := im_pI b23.2 q4 ((1 : Int32)).toNatClampNeg b23.1; some h25) else none) else none) else none) else (if x2 = 3 then (if b9.2.1 q1 = (0, 5) then (if im_in b9 1 q4 (1 : Int32) then (((im_gR b9 q1 3)).bind fun q29 => if b9.2.1 q29 = (0, 2) then ((fn_15 q29 (im_gI b9 q4 ((1 : Int32)).toNatClampNeg) b9).bind fun b31 => if im_in b31.2 1 q4 (1 : Int32) then (let h33 : im_H := im_pI b31.2 q4 ((1 : Int32)).toNatClampNeg b31.1; some h33) else none) else none) else none) else none) else (if x2 = 4 then (if im_in b9 1 q4 (1 : Int32) then (if im_in b9 1 q4 (2 : Int32) then (if b9.2.1 j = (0, 4) then ((fn_42 j x1 (im_gI b9 q4 ((1 : Int32)).toNatClampNeg) (im_gI b9 q4 ((2 : Int32)).toNatClampNeg) b9).bind fun b38 => if im_in b38.2 1 q4 (1 : Int32) then (let h40 : im_H := im_pI b38.2 q4 ((1 : Int32)).toNatClampNeg b38.1; some h40) else none) else none) else none) else none) else (if x2 = 5 then (if im_in b9 1 q4 (1 : Int32) then (if im_in b9 1 q4 (2 : Int32) then (if b9.2.1 j = (0, 4) then ((fn_43 j (im_gI b9 q4 ((1 : Int32)).toNatClampNeg) (im_gI b9 q4 ((2 : Int32)).toNatClampNeg) b9).bind fun b45 => if im_in b45.2 1 q4 (1 : Int32) then (let h47 : im_H := im_pI b45.2 q4 ((1 : Int32)).toNatClampNeg b45.1; some h47) else none) else none) else none) else none) else (if x2 = 6 then (if b9.2.1 q1 = (0, 5) then ((fn_52 q1 b9).bind fun b50 => if im_in b50.2 1 q4 (1 : Int32) then (let h52 : im_H := im_pI b50.2 q4 ((1 : Int32)).toNatClampNeg b50.1; some h52) else none) else none) else (some b9)))))))) else none) else none) else none) else none
set_option maxRecDepth 100000 in
set_option maxHeartbeats 4000000 in
theorem tn_41 (j : Nat) (x1 : Option Nat) (x2 : Int32) (x3 : Int32) (h : im_H) : im_Go im_zV 3 fm_41 0 (im_en 0 [.inr (some j), .inr x1, .inl x2, .inl x3]) [] h (fn_41 j x1 x2 x3 h) := by
  unfold fn_41
  refine x_aload_n dm_41_0 rfl ?_
  refine im_bind (fun q1 hq1 => ?_)
  refine im_chk _ (fun hk2 => ?_)
  refine x_getR dm_41_1 fl_4_96 rfl hq1 hk2 ?_
  refine x_astore dm_41_4 (Nat.le_of_ble_eq_true rfl) ?_
  refine x_aload_n dm_41_6 rfl ?_
  refine x_getR dm_41_7 fl_4_114 rfl hq1 hk2 ?_
  refine x_iload_n dm_41_10 rfl ?_
  refine x_aload dm_41_11 rfl ?_
  refine x_iconst (1) dm_41_13 (by decide) ?_
  refine im_bind (fun q4 hq4 => ?_)
  refine im_chk _ (fun hi5 => ?_)
  refine x_iaload dm_41_14 hq4 hi5 ?_
  refine x_aload dm_41_15 rfl ?_
  refine x_iconst (2) dm_41_17 (by decide) ?_
  refine im_chk _ (fun hi6 => ?_)
  refine x_iaload dm_41_18 hq4 hi6 ?_
  refine im_bind (fun q7 hq7 => ?_)
  refine im_chk _ (fun hk8 => ?_)
  refine im_callV mf_14 rfl (im_eqo hq7 (tn_14 q7 x2 _ _ h)) (im_runV (as := [.inl x2, .inl _, .inl _]) (rest := []) dm_41_19 mf_14 (Nat.le_of_ble_eq_true rfl) ml_4_118 mi_14 ms_14 mp_14 (Nat.le_of_ble_eq_true rfl) hq7 hk8 ⟨_, _, rfl⟩) rfl (fun b9 hb9 => ?_)
  refine x_iload_n dm_41_22 rfl ?_
  refine im_test _ (fun c10 => ?_) (fun c10 => ?_)
  · refine x_tabIn 0 64 dm_41_23 c10 (by decide) (by decide) rfl rfl ?_
    refine x_aload_n dm_41_64 rfl ?_
    refine x_iconst (2) dm_41_65 (by decide) ?_
    refine x_iload_n dm_41_66 rfl ?_
    refine im_chk _ (fun hk11 => ?_)
    refine im_callV mf_49 rfl (im_eqo hq1 (tn_49 q1 (2 : Int32) x3 b9)) (im_runV (as := [.inl (2 : Int32), .inl x3]) (rest := []) dm_41_67 mf_49 (Nat.le_of_ble_eq_true rfl) ml_4_107 mi_49 ms_49 mp_49 (Nat.le_of_ble_eq_true rfl) hq1 hk11 ⟨_, _, rfl⟩) rfl (fun b12 hb12 => ?_)
    refine x_goto 172 dm_41_70 rfl ?_
    exact x_return dm_41_172 rfl
  refine im_test _ (fun c13 => ?_) (fun c13 => ?_)
  · refine x_tabIn 1 73 dm_41_23 c13 (by decide) (by decide) rfl rfl ?_
    refine x_aload_n dm_41_73 rfl ?_
    refine x_aload dm_41_74 rfl ?_
    refine x_iconst (1) dm_41_76 (by decide) ?_
    refine im_chk _ (fun hi14 => ?_)
    refine x_iaload dm_41_77 hq4 hi14 ?_
    refine im_chk _ (fun hk15 => ?_)
    refine im_callV mf_53 rfl (im_eqo hq1 (tn_53 q1 _ b9)) (im_runV (as := [.inl _]) (rest := []) dm_41_78 mf_53 (Nat.le_of_ble_eq_true rfl) ml_4_124 mi_53 ms_53 mp_53 (Nat.le_of_ble_eq_true rfl) hq1 hk15 ⟨_, _, rfl⟩) rfl (fun b16 hb16 => ?_)
    refine x_aload dm_41_81 rfl ?_
    refine x_iconst (1) dm_41_83 (by decide) ?_
    refine x_iconst (0) dm_41_84 (by decide) ?_
    refine im_chk _ (fun hi17 => ?_)
    refine x_iastore dm_41_85 hq4 hi17 ?_
    refine x_goto 172 dm_41_86 rfl ?_
    exact x_return dm_41_172 rfl
  refine im_test _ (fun c19 => ?_) (fun c19 => ?_)
  · refine x_tabIn 2 89 dm_41_23 c19 (by decide) (by decide) rfl rfl ?_
    refine x_aload dm_41_89 rfl ?_
    refine x_iconst (1) dm_41_91 (by decide) ?_
    refine x_aload_n dm_41_92 rfl ?_
    refine im_chk _ (fun hk20 => ?_)
    refine x_getR dm_41_93 fl_4_114 rfl hq1 hk20 ?_
    refine x_aload_n dm_41_96 rfl ?_
    refine im_bind (fun q21 hq21 => ?_)
    refine im_chk _ (fun hk22 => ?_)
    refine im_callI mf_16 rfl (im_eqo hq21 (tn_16 q21 x1 b9)) (im_runV (as := [.inr x1]) (rest := [.inl (1 : Int32), .inr _]) dm_41_97 mf_16 (Nat.le_of_ble_eq_true rfl) ml_4_127 mi_16 ms_16 mp_16 (Nat.le_of_ble_eq_true rfl) hq21 hk22 ⟨_, _, rfl⟩) rfl (fun b23 hb23 => ?_)
    refine im_chk _ (fun hi24 => ?_)
    refine x_iastore dm_41_100 hq4 hi24 ?_
    refine x_goto 172 dm_41_101 rfl ?_
    exact x_return dm_41_172 rfl
  refine im_test _ (fun c26 => ?_) (fun c26 => ?_)
  · refine x_tabIn 3 104 dm_41_23 c26 (by decide) (by decide) rfl rfl ?_
    refine x_aload dm_41_104 rfl ?_
    refine x_iconst (1) dm_41_106 (by decide) ?_
    refine x_aload_n dm_41_107 rfl ?_
    refine im_chk _ (fun hk27 => ?_)
    refine x_getR dm_41_108 fl_4_114 rfl hq1 hk27 ?_
    refine x_aload dm_41_111 rfl ?_
    refine x_iconst (1) dm_41_113 (by decide) ?_
    refine im_chk _ (fun hi28 => ?_)
    refine x_iaload dm_41_114 hq4 hi28 ?_
    refine im_bind (fun q29 hq29 => ?_)
    refine im_chk _ (fun hk30 => ?_)
    refine im_callI mf_15 rfl (im_eqo hq29 (tn_15 q29 _ b9)) (im_runV (as := [.inl _]) (rest := [.inl (1 : Int32), .inr _]) dm_41_115 mf_15 (Nat.le_of_ble_eq_true rfl) ml_4_131 mi_15 ms_15 mp_15 (Nat.le_of_ble_eq_true rfl) hq29 hk30 ⟨_, _, rfl⟩) rfl (fun b31 hb31 => ?_)
    refine im_chk _ (fun hi32 => ?_)
    refine x_iastore dm_41_118 hq4 hi32 ?_
    refine x_goto 172 dm_41_119 rfl ?_
    exact x_return dm_41_172 rfl
  refine im_test _ (fun c34 => ?_) (fun c34 => ?_)
  · refine x_tabIn 4 122 dm_41_23 c34 (by decide) (by decide) rfl rfl ?_
    refine x_aload dm_41_122 rfl ?_
    refine x_iconst (1) dm_41_124 (by decide) ?_
    refine x_aload_n dm_41_125 rfl ?_
    refine x_aload_n dm_41_126 rfl ?_
    refine x_aload dm_41_127 rfl ?_
    refine x_iconst (1) dm_41_129 (by decide) ?_
    refine im_chk _ (fun hi35 => ?_)
    refine x_iaload dm_41_130 hq4 hi35 ?_
    refine x_aload dm_41_131 rfl ?_
    refine x_iconst (2) dm_41_133 (by decide) ?_
    refine im_chk _ (fun hi36 => ?_)
    refine x_iaload dm_41_134 hq4 hi36 ?_
    refine im_chk _ (fun hk37 => ?_)
    refine im_callI mf_42 rfl (tn_42 j x1 _ _ b9) (im_runV (as := [.inr x1, .inl _, .inl _]) (rest := [.inl (1 : Int32), .inr _]) dm_41_135 mf_42 (Nat.le_of_ble_eq_true rfl) ml_4_134 mi_42 ms_42 mp_42 (Nat.le_of_ble_eq_true rfl) rfl hk37 ⟨_, _, rfl⟩) rfl (fun b38 hb38 => ?_)
    refine im_chk _ (fun hi39 => ?_)
    refine x_iastore dm_41_138 hq4 hi39 ?_
    refine x_goto 172 dm_41_139 rfl ?_
    exact x_return dm_41_172 rfl
  refine im_test _ (fun c41 => ?_) (fun c41 => ?_)
  · refine x_tabIn 5 142 dm_41_23 c41 (by decide) (by decide) rfl rfl ?_
    refine x_aload dm_41_142 rfl ?_
    refine x_iconst (1) dm_41_144 (by decide) ?_
    refine x_aload_n dm_41_145 rfl ?_
    refine x_aload dm_41_146 rfl ?_
    refine x_iconst (1) dm_41_148 (by decide) ?_
    refine im_chk _ (fun hi42 => ?_)
    refine x_iaload dm_41_149 hq4 hi42 ?_
    refine x_aload dm_41_150 rfl ?_
    refine x_iconst (2) dm_41_152 (by decide) ?_
    refine im_chk _ (fun hi43 => ?_)
    refine x_iaload dm_41_153 hq4 hi43 ?_
    refine im_chk _ (fun hk44 => ?_)
    refine im_callI mf_43 rfl (tn_43 j _ _ b9) (im_runV (as := [.inl _, .inl _]) (rest := [.inl (1 : Int32), .inr _]) dm_41_154 mf_43 (Nat.le_of_ble_eq_true rfl) ml_4_138 mi_43 ms_43 mp_43 (Nat.le_of_ble_eq_true rfl) rfl hk44 ⟨_, _, rfl⟩) rfl (fun b45 hb45 => ?_)
    refine im_chk _ (fun hi46 => ?_)
    refine x_iastore dm_41_157 hq4 hi46 ?_
    refine x_goto 172 dm_41_158 rfl ?_
    exact x_return dm_41_172 rfl
  refine im_test _ (fun c48 => ?_) (fun c48 => ?_)
  · refine x_tabIn 6 161 dm_41_23 c48 (by decide) (by decide) rfl rfl ?_
    refine x_aload dm_41_161 rfl ?_
    refine x_iconst (1) dm_41_163 (by decide) ?_
    refine x_aload_n dm_41_164 rfl ?_
    refine im_chk _ (fun hk49 => ?_)
    refine im_callI mf_52 rfl (im_eqo hq1 (tn_52 q1 b9)) (im_runV (as := []) (rest := [.inl (1 : Int32), .inr _]) dm_41_165 mf_52 (Nat.le_of_ble_eq_true rfl) ml_4_142 mi_52 ms_52 mp_52 (Nat.le_of_ble_eq_true rfl) hq1 hk49 ⟨_, _, rfl⟩) rfl (fun b50 hb50 => ?_)
    refine im_chk _ (fun hi51 => ?_)
    refine x_iastore dm_41_168 hq4 hi51 ?_
    refine x_goto 172 dm_41_169 rfl ?_
    exact x_return dm_41_172 rfl
  refine x_tabOut 172 dm_41_23 (im_swout (0) 7 (by decide) (by decide) (fun i hi => match i, hi with | 0, _ => c10 | 1, _ => c13 | 2, _ => c19 | 3, _ => c26 | 4, _ => c34 | 5, _ => c41 | 6, _ => c48 | i + 7, hi => absurd hi (by omega))) rfl ?_
  exact x_return dm_41_172 rfl
/-- FencedModules$Sandbox.<init>(I)V -/
def fn_44 (j : Nat) (x1 : Int32) (h : im_H) : Option (im_H) :=
  if im_oa h [(0, .inr (some j)), (1, .inl x1)] [.inr (some j)] = true then (let h2 : im_H := im_nw h (1, 8) 8; if h2.2.1 j = (0, 5) then (let h4 : im_H := im_pR h2 j 1 (some h.1.1); if im_oa h4 [(0, .inr (some j)), (1, .inl x1)] [.inr (some j)] = true then (let h6 : im_H := im_nw h4 (1, 12) 12; if h6.2.1 j = (0, 5) then (let h8 : im_H := im_pR h6 j 2 (some h4.1.1); if im_oa h8 [(0, .inr (some j)), (1, .inl x1)] [.inr (some j)] = true then (let h10 : im_H := im_nw h8 (0, 2) 3; if ([(0, .inr (some j)), (1, .inl x1)] : im_L).all (fun q => im_ok h10.1.1 q.2) = true ∧ ([.inr (some h8.1.1), .inr (some j)] : List im_V).all (im_ok h10.1.1) = true then ((fn_9 h8.1.1 h10).bind fun b11 => if b11.2.1 j = (0, 5) then (let h14 : im_H := im_pR b11 j 3 (some h8.1.1); if im_oa h14 [(0, .inr (some j)), (1, .inl x1)] [.inr (some j)] = true then (let h16 : im_H := im_nw h14 (1, 4) 4; if h16.2.1 j = (0, 5) then (let h18 : im_H := im_pR h16 j 7 (some h14.1.1); if im_oa h18 [(0, .inr (some j)), (1, .inl x1)] [.inr (some j)] = true then (let h20 : im_H := im_nw h18 (1, 8) 8; if h20.2.1 j = (0, 5) then (let h22 : im_H := im_pR h20 j 8 (some h18.1.1); if h22.2.1 j = (0, 5) then (let h24 : im_H := im_pI h22 j 0 x1; some h24) else none) else none) else none) else none) else none) else none) else none) else none) else none) else none) else none) else none
set_option maxRecDepth 100000 in
set_option maxHeartbeats 4000000 in
theorem tn_44 (j : Nat) (x1 : Int32) (h : im_H) : im_Go im_zV 3 fm_44 0 (im_en 0 [.inr (some j), .inl x1]) [] h (fn_44 j x1 h) := by
  unfold fn_44
  refine x_aload_n dm_44_0 rfl ?_
  refine x_objinit dm_44_1 ml_5_1 mo_i mo_c (Nat.le_of_ble_eq_true rfl) (Nat.le_of_ble_eq_true rfl) rfl ?_
  refine x_aload_n dm_44_4 rfl ?_
  refine x_bipush (8) dm_44_5 (by decide) ?_
  refine im_chk _ (fun ho1 => ?_)
  refine x_newI 8 dm_44_7 ma_I rfl (by decide) rfl (Nat.le_of_ble_eq_true rfl) ho1 ?_
  refine im_chk _ (fun hk3 => ?_)
  refine x_putFR dm_44_9 fl_5_9 rfl rfl rfl rfl hk3 ?_
  refine x_aload_n dm_44_12 rfl ?_
  refine x_bipush (12) dm_44_13 (by decide) ?_
  refine im_chk _ (fun ho5 => ?_)
  refine x_newI 12 dm_44_15 ma_I rfl (by decide) rfl (Nat.le_of_ble_eq_true rfl) ho5 ?_
  refine im_chk _ (fun hk7 => ?_)
  refine x_putFR dm_44_17 fl_5_13 rfl rfl rfl rfl hk7 ?_
  refine x_aload_n dm_44_20 rfl ?_
  refine im_chk _ (fun ho9 => ?_)
  refine x_new dm_44_21 fc_2 ct_2 cl_5_16 cn_2 ci_2 rfl ho9 ?_
  refine x_dup dm_44_24 ?_
  refine im_chk _ (fun ho12 => ?_)
  refine im_callA mf_9 rfl (tn_9 _ _) (im_runI (as := []) (rest := [.inr _, .inr (some j)]) dm_44_25 mf_9 (Nat.le_of_ble_eq_true rfl) rfl ml_5_18 mi_9 rfl mp_9 (Nat.le_of_ble_eq_true rfl) rfl) rfl ho12 (fun b11 hb11 => ?_)
  refine im_chk _ (fun hk13 => ?_)
  refine x_putFR dm_44_28 fl_5_19 rfl rfl rfl rfl hk13 ?_
  refine x_aload_n dm_44_31 rfl ?_
  refine x_iconst (4) dm_44_32 (by decide) ?_
  refine im_chk _ (fun ho15 => ?_)
  refine x_newI 4 dm_44_33 ma_I rfl (by decide) rfl (Nat.le_of_ble_eq_true rfl) ho15 ?_
  refine im_chk _ (fun hk17 => ?_)
  refine x_putFR dm_44_35 fl_5_23 rfl rfl rfl rfl hk17 ?_
  refine x_aload_n dm_44_38 rfl ?_
  refine x_bipush (8) dm_44_39 (by decide) ?_
  refine im_chk _ (fun ho19 => ?_)
  refine x_newI 8 dm_44_41 ma_I rfl (by decide) rfl (Nat.le_of_ble_eq_true rfl) ho19 ?_
  refine im_chk _ (fun hk21 => ?_)
  refine x_putFR dm_44_43 fl_5_26 rfl rfl rfl rfl hk21 ?_
  refine x_aload_n dm_44_46 rfl ?_
  refine x_iload_n dm_44_47 rfl ?_
  refine im_chk _ (fun hk23 => ?_)
  refine x_putFI dm_44_48 fl_5_29 rfl rfl rfl rfl hk23 ?_
  exact x_return dm_44_51 rfl
def fn_67_2 (j : Nat) : Nat → Int32 → im_H → Option (Int32 × im_H)
  | 0, _, _ => none
  | n + 1, y1, h =>
    if h.2.1 j = (0, 6) then (if (im_gI h j 5) ≤ y1 then ((fn_68 j (im_gI h j 5) h).bind fun b3 => if (31 : Int32) < (b3.1 + (1 : Int32)) then (some ((0 : Int32), b3.2)) else (some ((1 : Int32), b3.2))) else ((fn_70 j y1 h).bind fun b5 => if b5.1 = 0 then (some ((0 : Int32), b5.2)) else (if b5.2.2.1 j = (0, 6) then ((fn_71 j y1 b5.2).bind fun b8 => if b8.1 = 0 then (some ((0 : Int32), b8.2)) else (let v10 : Int32 := (y1 + (1 : Int32)); fn_67_2 j n v10 b8.2)) else none))) else none
set_option maxRecDepth 100000 in
set_option maxHeartbeats 4000000 in
theorem tn_67_2 (j : Nat) : ∀ (n : Nat) (y1 : Int32) (h : im_H), im_Go im_zI 3 fm_67 2 [(0, .inr (some j)), (1, .inl y1)] [] h (fn_67_2 j n y1 h)
  | 0, y1, h => im_none
  | n + 1, y1, h => by
    have ih := tn_67_2 j n
    unfold fn_67_2
    refine x_iload_n dm_67_2 rfl ?_
    refine x_aload_n dm_67_3 rfl ?_
    refine im_chk _ (fun hk1 => ?_)
    refine x_getI dm_67_4 fl_6_31 rfl rfl hk1 ?_
    refine x_icmp_ge 34 dm_67_7 rfl (fun c2 => ?_) (fun c2 => ?_)
    · refine x_aload_n dm_67_34 rfl ?_
      refine x_aload_n dm_67_35 rfl ?_
      refine x_getI dm_67_36 fl_6_31 rfl rfl hk1 ?_
      refine im_callI mf_68 rfl (tn_68 j _ h) (im_runV (as := [.inl _]) (rest := []) dm_67_39 mf_68 (Nat.le_of_ble_eq_true rfl) ml_6_52 mi_68 ms_68 mp_68 (Nat.le_of_ble_eq_true rfl) rfl hk1 ⟨_, _, rfl⟩) rfl (fun b3 hb3 => ?_)
      refine x_iconst (1) dm_67_42 (by decide) ?_
      refine x_iadd dm_67_43 ?_
      refine x_bipush (31) dm_67_44 (by decide) ?_
      refine x_icmp_gt 53 dm_67_46 rfl (fun c4 => ?_) (fun c4 => ?_)
      · refine x_iconst (0) dm_67_53 (by decide) ?_
        exact x_zreturn dm_67_54 rfl (by decide)
      · refine x_iconst (1) dm_67_49 (by decide) ?_
        refine x_goto 54 dm_67_50 rfl ?_
        exact x_zreturn dm_67_54 rfl (by decide)
    · refine x_aload_n dm_67_10 rfl ?_
      refine x_iload_n dm_67_11 rfl ?_
      refine im_callI mf_70 rfl (tn_70 j y1 h) (im_runV (as := [.inl y1]) (rest := []) dm_67_12 mf_70 (Nat.le_of_ble_eq_true rfl) ml_6_46 mi_70 ms_70 mp_70 (Nat.le_of_ble_eq_true rfl) rfl hk1 ⟨_, _, rfl⟩) rfl (fun b5 hb5 => ?_)
      refine x_if_eq 26 dm_67_15 rfl (fun c6 => ?_) (fun c6 => ?_)
      · refine x_iconst (0) dm_67_26 (by decide) ?_
        exact x_zreturn dm_67_27 rfl (by decide)
      · refine x_aload_n dm_67_18 rfl ?_
        refine x_iload_n dm_67_19 rfl ?_
        refine im_chk _ (fun hk7 => ?_)
        refine im_callI mf_71 rfl (tn_71 j y1 b5.2) (im_runV (as := [.inl y1]) (rest := []) dm_67_20 mf_71 (Nat.le_of_ble_eq_true rfl) ml_6_49 mi_71 ms_71 mp_71 (Nat.le_of_ble_eq_true rfl) rfl hk7 ⟨_, _, rfl⟩) rfl (fun b8 hb8 => ?_)
        refine x_if_ne 28 dm_67_23 rfl (fun c9 => ?_) (fun c9 => ?_)
        · refine x_iconst (0) dm_67_26 (by decide) ?_
          exact x_zreturn dm_67_27 rfl (by decide)
        · refine x_iinc (1) dm_67_28 rfl (by decide) (Nat.le_of_ble_eq_true rfl) ?_
          refine x_goto 2 dm_67_31 rfl ?_
          exact im_lsub [(0, .inr (some j)), (1, .inl _)] (im_sb_c rfl (im_sb_c rfl im_sb_n)) (ih _ b8.2)
/-- FencedModules$Source.canBeRewritten()Z -/
def fn_67 (j : Nat) (h : im_H) : Option (Int32 × im_H) :=
  fn_67_2 j 1000 (0 : Int32) h
set_option maxRecDepth 100000 in
set_option maxHeartbeats 4000000 in
theorem tn_67 (j : Nat) (h : im_H) : im_Go im_zI 3 fm_67 0 (im_en 0 [.inr (some j)]) [] h (fn_67 j h) := by
  unfold fn_67
  refine x_iconst (0) dm_67_0 (by decide) ?_
  refine x_istore_n dm_67_1 (Nat.le_of_ble_eq_true rfl) ?_
  exact im_lsub [(0, .inr (some j)), (1, .inl (0 : Int32))] (im_sb_c rfl (im_sb_c rfl im_sb_n)) (tn_67_2 j 1000 (0 : Int32) h)
/-- FencedModules$Rewriter.distance(LFencedModules$Source;ILFencedModules$Code;)I -/
def fn_137 (x0 : Option Nat) (x1 : Int32) (x2 : Option Nat) (h : im_H) : Option (Int32 × im_H) :=
  (fn_136 x0 x1 h).bind fun b1 => (x2).bind fun q2 => if b1.2.2.1 q2 = (0, 1) then ((fn_7 q2 b1.2).bind fun b4 => some ((b1.1 - (b4.1 + (1 : Int32))), b4.2)) else none
set_option maxRecDepth 100000 in
set_option maxHeartbeats 4000000 in
theorem tn_137 (x0 : Option Nat) (x1 : Int32) (x2 : Option Nat) (h : im_H) : im_Go im_zI 3 fm_137 0 (im_en 0 [.inr x0, .inl x1, .inr x2]) [] h (fn_137 x0 x1 x2 h) := by
  unfold fn_137
  refine x_aload_n dm_137_0 rfl ?_
  refine x_iload_n dm_137_1 rfl ?_
  refine im_callI mf_136 rfl (tn_136 x0 x1 h) (im_runS (as := [.inr x0, .inl x1]) (rest := []) dm_137_2 mf_136 (Nat.le_of_ble_eq_true rfl) ml_9_59 mi_136 mp_136 (Nat.le_of_ble_eq_true rfl)) rfl (fun b1 hb1 => ?_)
  refine x_aload_n dm_137_5 rfl ?_
  refine im_bind (fun q2 hq2 => ?_)
  refine im_chk _ (fun hk3 => ?_)
  refine im_callI mf_7 rfl (im_eqo hq2 (tn_7 q2 b1.2)) (im_runV (as := []) (rest := [.inl b1.1]) dm_137_6 mf_7 (Nat.le_of_ble_eq_true rfl) ml_9_76 mi_7 ms_7 mp_7 (Nat.le_of_ble_eq_true rfl) hq2 hk3 ⟨_, _, rfl⟩) rfl (fun b4 hb4 => ?_)
  refine x_iconst (1) dm_137_9 (by decide) ?_
  refine x_iadd dm_137_10 ?_
  refine x_isub dm_137_11 ?_
  exact x_ireturn dm_137_12 rfl
def fn_139_2  : Nat → Option Nat → Int32 → Int32 → im_H → Option (Int32 × im_H)
  | 0, _, _, _, _ => none
  | n + 1, y0, y1, y2, h =>
    (y0).bind fun q1 => if h.2.1 q1 = (0, 1) then ((fn_7 q1 h).bind fun b3 => if b3.1 ≤ y2 then (some ((-1 : Int32), b3.2)) else ((fn_140 y0 y2 b3.2).bind fun b5 => if b5.1 = 0 then (some (y2, b5.2)) else ((fn_141 y0 y2 y1 b5.2).bind fun b7 => if b7.1 = 0 then (some (y2, b7.2)) else (let v9 : Int32 := (y2 + (1 : Int32)); fn_139_2  n y0 y1 v9 b7.2)))) else none
set_option maxRecDepth 100000 in
set_option maxHeartbeats 4000000 in
theorem tn_139_2  : ∀ (n : Nat) (y0 : Option Nat) (y1 : Int32) (y2 : Int32) (h : im_H), im_Go im_zI 3 fm_139 2 [(0, .inr y0), (1, .inl y1), (2, .inl y2)] [] h (fn_139_2  n y0 y1 y2 h)
  | 0, y0, y1, y2, h => im_none
  | n + 1, y0, y1, y2, h => by
    have ih := tn_139_2  n
    unfold fn_139_2
    refine x_iload_n dm_139_2 rfl ?_
    refine x_aload_n dm_139_3 rfl ?_
    refine im_bind (fun q1 hq1 => ?_)
    refine im_chk _ (fun hk2 => ?_)
    refine im_callI mf_7 rfl (im_eqo hq1 (tn_7 q1 h)) (im_runV (as := []) (rest := [.inl y2]) dm_139_4 mf_7 (Nat.le_of_ble_eq_true rfl) ml_10_7 mi_7 ms_7 mp_7 (Nat.le_of_ble_eq_true rfl) hq1 hk2 ⟨_, _, rfl⟩) rfl (fun b3 hb3 => ?_)
    refine x_icmp_ge 35 dm_139_7 rfl (fun c4 => ?_) (fun c4 => ?_)
    · refine x_iconst (-1) dm_139_35 (by decide) ?_
      exact x_ireturn dm_139_36 rfl
    · refine x_aload_n dm_139_10 rfl ?_
      refine x_iload_n dm_139_11 rfl ?_
      refine im_callI mf_140 rfl (tn_140 y0 y2 b3.2) (im_runS (as := [.inr y0, .inl y2]) (rest := []) dm_139_12 mf_140 (Nat.le_of_ble_eq_true rfl) ml_10_13 mi_140 mp_140 (Nat.le_of_ble_eq_true rfl)) rfl (fun b5 hb5 => ?_)
      refine x_if_eq 27 dm_139_15 rfl (fun c6 => ?_) (fun c6 => ?_)
      · refine x_iload_n dm_139_27 rfl ?_
        exact x_ireturn dm_139_28 rfl
      · refine x_aload_n dm_139_18 rfl ?_
        refine x_iload_n dm_139_19 rfl ?_
        refine x_iload_n dm_139_20 rfl ?_
        refine im_callI mf_141 rfl (tn_141 y0 y2 y1 b5.2) (im_runS (as := [.inr y0, .inl y2, .inl y1]) (rest := []) dm_139_21 mf_141 (Nat.le_of_ble_eq_true rfl) ml_10_19 mi_141 mp_141 (Nat.le_of_ble_eq_true rfl)) rfl (fun b7 hb7 => ?_)
        refine x_if_ne 29 dm_139_24 rfl (fun c8 => ?_) (fun c8 => ?_)
        · refine x_iload_n dm_139_27 rfl ?_
          exact x_ireturn dm_139_28 rfl
        · refine x_iinc (1) dm_139_29 rfl (by decide) (Nat.le_of_ble_eq_true rfl) ?_
          refine x_goto 2 dm_139_32 rfl ?_
          exact im_lsub [(0, .inr y0), (1, .inl y1), (2, .inl _)] (im_sb_c rfl (im_sb_c rfl (im_sb_c rfl im_sb_n))) (ih y0 y1 _ b7.2)
/-- FencedModules$Verifier.firstUnsafe(LFencedModules$Code;I)I -/
def fn_139 (x0 : Option Nat) (x1 : Int32) (h : im_H) : Option (Int32 × im_H) :=
  fn_139_2 1000 x0 x1 (0 : Int32) h
set_option maxRecDepth 100000 in
set_option maxHeartbeats 4000000 in
theorem tn_139 (x0 : Option Nat) (x1 : Int32) (h : im_H) : im_Go im_zI 3 fm_139 0 (im_en 0 [.inr x0, .inl x1]) [] h (fn_139 x0 x1 h) := by
  unfold fn_139
  refine x_iconst (0) dm_139_0 (by decide) ?_
  refine x_istore_n dm_139_1 (Nat.le_of_ble_eq_true rfl) ?_
  exact im_lsub [(0, .inr x0), (1, .inl x1), (2, .inl (0 : Int32))] (im_sb_c rfl (im_sb_c rfl (im_sb_c rfl im_sb_n))) (tn_139_2 1000 x0 x1 (0 : Int32) h)
def fn_19_87 (j : Nat) (y4 : Int32) (y5 : Int32) (h : im_H) : Option (Int32 × im_H) :=
  if h.2.1 j = (0, 3) then (((im_gR h j 1)).bind fun q2 => if im_in h 1 q2 y4 then ((fn_24 ((im_gI h q2 (y4).toNatClampNeg) + y5) h).bind fun b4 => if b4.1 = 0 then (some ((5 : Int32), b4.2)) else (some ((0 : Int32), b4.2))) else none) else none
set_option maxRecDepth 100000 in
set_option maxHeartbeats 4000000 in
theorem tn_19_87 (j : Nat) (y4 : Int32) (y5 : Int32) (h : im_H) : im_Go im_zI 4 fm_19 87 [(0, .inr (some j)), (4, .inl y4), (5, .inl y5)] [] h (fn_19_87 j y4 y5 h) := by
  unfold fn_19_87
  refine x_aload_n dm_19_87 rfl ?_
  refine im_chk _ (fun hk1 => ?_)
  refine x_getR dm_19_88 fl_3_20 rfl rfl hk1 ?_
  refine x_iload dm_19_91 rfl ?_
  refine im_bind (fun q2 hq2 => ?_)
  refine im_chk _ (fun hi3 => ?_)
  refine x_iaload dm_19_93 hq2 hi3 ?_
  refine x_iload dm_19_94 rfl ?_
  refine x_iadd dm_19_96 ?_
  refine im_callI mf_24 rfl (tn_24 _ h) (im_runS (as := [.inl _]) (rest := []) dm_19_97 mf_24 (Nat.le_of_ble_eq_true rfl) ml_3_71 mi_24 mp_24 (Nat.le_of_ble_eq_true rfl)) rfl (fun b4 hb4 => ?_)
  refine x_if_ne 105 dm_19_100 rfl (fun c5 => ?_) (fun c5 => ?_)
  · refine x_iconst (5) dm_19_103 (by decide) ?_
    exact x_ireturn dm_19_104 rfl
  · refine x_iconst (0) dm_19_105 (by decide) ?_
    exact x_ireturn dm_19_106 rfl
def fn_19_75 (j : Nat) (y2 : Int32) (y4 : Int32) (y5 : Int32) (h : im_H) : Option (Int32 × im_H) :=
  if y2 = (8 : Int32) then (fn_19_87 j y4 y5 h) else (if y2 = (9 : Int32) then (fn_19_87 j y4 y5 h) else (some ((0 : Int32), h)))
set_option maxRecDepth 100000 in
set_option maxHeartbeats 4000000 in
theorem tn_19_75 (j : Nat) (y2 : Int32) (y4 : Int32) (y5 : Int32) (h : im_H) : im_Go im_zI 4 fm_19 75 [(0, .inr (some j)), (2, .inl y2), (4, .inl y4), (5, .inl y5)] [] h (fn_19_75 j y2 y4 y5 h) := by
  unfold fn_19_75
  refine x_iload_n dm_19_75 rfl ?_
  refine x_bipush (8) dm_19_76 (by decide) ?_
  refine x_icmp_eq 87 dm_19_78 rfl (fun c1 => ?_) (fun c1 => ?_)
  · exact im_lsub [(0, .inr (some j)), (4, .inl y4), (5, .inl y5)] (im_sb_c rfl (im_sb_c rfl (im_sb_c rfl im_sb_n))) (tn_19_87 j y4 y5 h)
  · refine x_iload_n dm_19_81 rfl ?_
    refine x_bipush (9) dm_19_82 (by decide) ?_
    refine x_icmp_ne 105 dm_19_84 rfl (fun c2 => ?_) (fun c2 => ?_)
    · exact im_lsub [(0, .inr (some j)), (4, .inl y4), (5, .inl y5)] (im_sb_c rfl (im_sb_c rfl (im_sb_c rfl im_sb_n))) (tn_19_87 j y4 y5 h)
    · refine x_iconst (0) dm_19_105 (by decide) ?_
      exact x_ireturn dm_19_106 rfl
/-- FencedModules$Follower.reasonToEnd(LFencedModules$Source;)I -/
def fn_19 (j : Nat) (x1 : Option Nat) (h : im_H) : Option (Int32 × im_H) :=
  if h.2.1 j = (0, 3) then ((x1).bind fun q2 => if h.2.1 q2 = (0, 6) then ((fn_61 q2 (im_gI h j 3) h).bind fun b4 => if b4.2.2.1 j = (0, 3) then (if b4.2.2.1 q2 = (0, 6) then ((fn_62 q2 (im_gI b4.2 j 3) b4.2).bind fun b7 => if b7.2.2.1 j = (0, 3) then (if b7.2.2.1 q2 = (0, 6) then ((fn_63 q2 (im_gI b7.2 j 3) b7.2).bind fun b10 => if b10.2.2.1 j = (0, 3) then (if b10.2.2.1 q2 = (0, 6) then ((fn_64 q2 (im_gI b10.2 j 3) b10.2).bind fun b13 => if b4.1 = 0 then (some ((2 : Int32), b13.2)) else (if b13.2.2.1 j = (0, 3) then ((fn_20 j b4.1 b7.1 b10.1 b13.1 b13.2).bind fun b16 => if b16.1 = 0 then (if b4.1 = (13 : Int32) then (if b16.2.2.1 j = (0, 3) then ((fn_23 j b7.1 b16.2).bind fun b20 => if b20.1 = 0 then (some ((4 : Int32), b20.2)) else (fn_19_75 j b4.1 b10.1 b13.1 b20.2)) else none) else (fn_19_75 j b4.1 b10.1 b13.1 b16.2)) else (some ((3 : Int32), b16.2))) else none)) else none) else none) else none) else none) else none) else none) else none) else none
set_option maxRecDepth 100000 in
set_option maxHeartbeats 4000000 in
theorem tn_19 (j : Nat) (x1 : Option Nat) (h : im_H) : im_Go im_zI 4 fm_19 0 (im_en 0 [.inr (some j), .inr x1]) [] h (fn_19 j x1 h) := by
  unfold fn_19
  refine x_aload_n dm_19_0 rfl ?_
  refine x_aload_n dm_19_1 rfl ?_
  refine im_chk _ (fun hk1 => ?_)
  refine x_getI dm_19_2 fl_3_36 rfl rfl hk1 ?_
  refine im_bind (fun q2 hq2 => ?_)
  refine im_chk _ (fun hk3 => ?_)
  refine im_callI mf_61 rfl (im_eqo hq2 (tn_61 q2 _ h)) (im_runV (as := [.inl _]) (rest := []) dm_19_5 mf_61 (Nat.le_of_ble_eq_true rfl) ml_3_48 mi_61 ms_61 mp_61 (Nat.le_of_ble_eq_true rfl) hq2 hk3 ⟨_, _, rfl⟩) rfl (fun b4 hb4 => ?_)
  refine x_istore_n dm_19_8 (Nat.le_of_ble_eq_true rfl) ?_
  refine x_aload_n dm_19_9 rfl ?_
  refine x_aload_n dm_19_10 rfl ?_
  refine im_chk _ (fun hk5 => ?_)
  refine x_getI dm_19_11 fl_3_36 rfl rfl hk5 ?_
  refine im_chk _ (fun hk6 => ?_)
  refine im_callI mf_62 rfl (im_eqo hq2 (tn_62 q2 _ b4.2)) (im_runV (as := [.inl _]) (rest := []) dm_19_14 mf_62 (Nat.le_of_ble_eq_true rfl) ml_3_52 mi_62 ms_62 mp_62 (Nat.le_of_ble_eq_true rfl) hq2 hk6 ⟨_, _, rfl⟩) rfl (fun b7 hb7 => ?_)
  refine x_istore_n dm_19_17 (Nat.le_of_ble_eq_true rfl) ?_
  refine x_aload_n dm_19_18 rfl ?_
  refine x_aload_n dm_19_19 rfl ?_
  refine im_chk _ (fun hk8 => ?_)
  refine x_getI dm_19_20 fl_3_36 rfl rfl hk8 ?_
  refine im_chk _ (fun hk9 => ?_)
  refine im_callI mf_63 rfl (im_eqo hq2 (tn_63 q2 _ b7.2)) (im_runV (as := [.inl _]) (rest := []) dm_19_23 mf_63 (Nat.le_of_ble_eq_true rfl) ml_3_55 mi_63 ms_63 mp_63 (Nat.le_of_ble_eq_true rfl) hq2 hk9 ⟨_, _, rfl⟩) rfl (fun b10 hb10 => ?_)
  refine x_istore dm_19_26 (Nat.le_of_ble_eq_true rfl) ?_
  refine x_aload_n dm_19_28 rfl ?_
  refine x_aload_n dm_19_29 rfl ?_
  refine im_chk _ (fun hk11 => ?_)
  refine x_getI dm_19_30 fl_3_36 rfl rfl hk11 ?_
  refine im_chk _ (fun hk12 => ?_)
  refine im_callI mf_64 rfl (im_eqo hq2 (tn_64 q2 _ b10.2)) (im_runV (as := [.inl _]) (rest := []) dm_19_33 mf_64 (Nat.le_of_ble_eq_true rfl) ml_3_58 mi_64 ms_64 mp_64 (Nat.le_of_ble_eq_true rfl) hq2 hk12 ⟨_, _, rfl⟩) rfl (fun b13 hb13 => ?_)
  refine x_istore dm_19_36 (Nat.le_of_ble_eq_true rfl) ?_
  refine x_iload_n dm_19_38 rfl ?_
  refine x_if_ne 44 dm_19_39 rfl (fun c14 => ?_) (fun c14 => ?_)
  · refine x_iconst (2) dm_19_42 (by decide) ?_
    exact x_ireturn dm_19_43 rfl
  · refine x_aload_n dm_19_44 rfl ?_
    refine x_iload_n dm_19_45 rfl ?_
    refine x_iload_n dm_19_46 rfl ?_
    refine x_iload dm_19_47 rfl ?_
    refine x_iload dm_19_49 rfl ?_
    refine im_chk _ (fun hk15 => ?_)
    refine im_callI mf_20 rfl (tn_20 j b4.1 b7.1 b10.1 b13.1 b13.2) (im_runV (as := [.inl b4.1, .inl b7.1, .inl b10.1, .inl b13.1]) (rest := []) dm_19_51 mf_20 (Nat.le_of_ble_eq_true rfl) ml_3_61 mi_20 ms_20 mp_20 (Nat.le_of_ble_eq_true rfl) rfl hk15 ⟨_, _, rfl⟩) rfl (fun b16 hb16 => ?_)
    refine x_if_eq 59 dm_19_54 rfl (fun c17 => ?_) (fun c17 => ?_)
    · refine x_iload_n dm_19_59 rfl ?_
      refine x_bipush (13) dm_19_60 (by decide) ?_
      refine x_icmp_ne 75 dm_19_62 rfl (fun c18 => ?_) (fun c18 => ?_)
      · refine x_aload_n dm_19_65 rfl ?_
        refine x_iload_n dm_19_66 rfl ?_
        refine im_chk _ (fun hk19 => ?_)
        refine im_callI mf_23 rfl (tn_23 j b7.1 b16.2) (im_runV (as := [.inl b7.1]) (rest := []) dm_19_67 mf_23 (Nat.le_of_ble_eq_true rfl) ml_3_67 mi_23 ms_23 mp_23 (Nat.le_of_ble_eq_true rfl) rfl hk19 ⟨_, _, rfl⟩) rfl (fun b20 hb20 => ?_)
        refine x_if_ne 75 dm_19_70 rfl (fun c21 => ?_) (fun c21 => ?_)
        · refine x_iconst (4) dm_19_73 (by decide) ?_
          exact x_ireturn dm_19_74 rfl
        · exact im_lsub [(0, .inr (some j)), (2, .inl b4.1), (4, .inl b10.1), (5, .inl b13.1)] (im_sb_c rfl (im_sb_c rfl (im_sb_c rfl (im_sb_c rfl im_sb_n)))) (tn_19_75 j b4.1 b10.1 b13.1 b20.2)
      · exact im_lsub [(0, .inr (some j)), (2, .inl b4.1), (4, .inl b10.1), (5, .inl b13.1)] (im_sb_c rfl (im_sb_c rfl (im_sb_c rfl (im_sb_c rfl im_sb_n)))) (tn_19_75 j b4.1 b10.1 b13.1 b16.2)
    · refine x_iconst (3) dm_19_57 (by decide) ?_
      exact x_ireturn dm_19_58 rfl
def fn_30_23 (j : Nat) : Nat → Int32 → im_H → Option (im_H)
  | 0, _, _ => none
  | n + 1, y1, h =>
    if (3 : Int32) ≤ y1 then (some h) else (if h.2.1 j = (0, 4) then (if im_oa h [(0, .inr (some j)), (1, .inl y1)] [.inl y1, .inr (im_gR h j 1)] = true then (let h4 : im_H := im_nw h (0, 5) 11; if ([(0, .inr (some j)), (1, .inl y1)] : im_L).all (fun q => im_ok h4.1.1 q.2) = true ∧ ([.inr (some h.1.1), .inl y1, .inr (im_gR h j 1)] : List im_V).all (im_ok h4.1.1) = true then ((fn_44 h.1.1 y1 h4).bind fun b5 => ((im_gR h j 1)).bind fun q7 => if b5.2.1 h.1.1 = (0, 5) then (if im_in b5 3 q7 y1 ∧ (b5.2.1 q7).2 ≤ 32 then (let h10 : im_H := im_pR b5 q7 (y1).toNatClampNeg (some h.1.1); let v11 : Int32 := (y1 + (1 : Int32)); fn_30_23 j n v11 h10) else none) else none) else none) else none) else none)
set_option maxRecDepth 100000 in
set_option maxHeartbeats 4000000 in
theorem tn_30_23 (j : Nat) : ∀ (n : Nat) (y1 : Int32) (h : im_H), im_Go im_zV 4 fm_30 23 [(0, .inr (some j)), (1, .inl y1)] [] h (fn_30_23 j n y1 h)
  | 0, y1, h => im_none
  | n + 1, y1, h => by
    have ih := tn_30_23 j n
    unfold fn_30_23
    refine x_iload_n dm_30_23 rfl ?_
    refine x_iconst (3) dm_30_24 (by decide) ?_
    refine x_icmp_ge 48 dm_30_25 rfl (fun c1 => ?_) (fun c1 => ?_)
    · exact x_return dm_30_48 rfl
    · refine x_aload_n dm_30_28 rfl ?_
      refine im_chk _ (fun hk2 => ?_)
      refine x_getR dm_30_29 fl_4_15 rfl rfl hk2 ?_
      refine x_iload_n dm_30_32 rfl ?_
      refine im_chk _ (fun ho3 => ?_)
      refine x_new dm_30_33 fc_5 ct_5 cl_4_13 cn_5 ci_5 rfl ho3 ?_
      refine x_dup dm_30_36 ?_
      refine x_iload_n dm_30_37 rfl ?_
      refine im_chk _ (fun ho6 => ?_)
      refine im_callA mf_44 rfl (tn_44 _ y1 _) (im_runI (as := [.inl y1]) (rest := [.inr _, .inl y1, .inr _]) dm_30_38 mf_44 (Nat.le_of_ble_eq_true rfl) rfl ml_4_19 mi_44 rfl mp_44 (Nat.le_of_ble_eq_true rfl) rfl) rfl ho6 (fun b5 hb5 => ?_)
      refine im_bind (fun q7 hq7 => ?_)
      refine im_chk _ (fun hk8 => ?_)
      refine im_chk _ (fun hi9 => ?_)
      refine x_aastore dm_30_41 hq7 rfl hk8 hi9 ?_
      refine x_iinc (1) dm_30_42 rfl (by decide) (Nat.le_of_ble_eq_true rfl) ?_
      refine x_goto 23 dm_30_45 rfl ?_
      exact im_lsub [(0, .inr (some j)), (1, .inl _)] (im_sb_c rfl (im_sb_c rfl im_sb_n)) (ih _ _)
/-- FencedModules$Machine.<init>()V -/
def fn_30 (j : Nat) (h : im_H) : Option (im_H) :=
  if im_oa h [(0, .inr (some j))] [.inr (some j)] = true then (let h2 : im_H := im_nw h (1, 256) 256; if h2.2.1 j = (0, 4) then (let h4 : im_H := im_pR h2 j 0 (some h.1.1); if im_oa h4 [(0, .inr (some j))] [.inr (some j)] = true then (let h6 : im_H := im_nw h4 (3, 3) 3; if h6.2.1 j = (0, 4) then (let h8 : im_H := im_pR h6 j 1 (some h4.1.1); fn_30_23 j 1000 (0 : Int32) h8) else none) else none) else none) else none
set_option maxRecDepth 100000 in
set_option maxHeartbeats 4000000 in
theorem tn_30 (j : Nat) (h : im_H) : im_Go im_zV 4 fm_30 0 (im_en 0 [.inr (some j)]) [] h (fn_30 j h) := by
  unfold fn_30
  refine x_aload_n dm_30_0 rfl ?_
  refine x_objinit dm_30_1 ml_4_1 mo_i mo_c (Nat.le_of_ble_eq_true rfl) (Nat.le_of_ble_eq_true rfl) rfl ?_
  refine x_aload_n dm_30_4 rfl ?_
  refine x_sipush (256) dm_30_5 (by decide) ?_
  refine im_chk _ (fun ho1 => ?_)
  refine x_newI 256 dm_30_8 ma_I rfl (by decide) rfl (Nat.le_of_ble_eq_true rfl) ho1 ?_
  refine im_chk _ (fun hk3 => ?_)
  refine x_putFR dm_30_10 fl_4_9 rfl rfl rfl rfl hk3 ?_
  refine x_aload_n dm_30_13 rfl ?_
  refine x_iconst (3) dm_30_14 (by decide) ?_
  refine im_chk _ (fun ho5 => ?_)
  refine x_newA 3 dm_30_15 cl_4_13 rfl (by decide) rfl (Nat.le_of_ble_eq_true rfl) ho5 ?_
  refine im_chk _ (fun hk7 => ?_)
  refine x_putFR dm_30_18 fl_4_15 rfl rfl rfl rfl hk7 ?_
  refine x_iconst (0) dm_30_21 (by decide) ?_
  refine x_istore_n dm_30_22 (Nat.le_of_ble_eq_true rfl) ?_
  exact im_lsub [(0, .inr (some j)), (1, .inl (0 : Int32))] (im_sb_c rfl (im_sb_c rfl im_sb_n)) (tn_30_23 j 1000 (0 : Int32) _)
def fn_40_222 (j : Nat) (y1 : Option Nat) (y2 : Int32) (h : im_H) : Option (im_H) :=
  (y1).bind fun q1 => if h.2.1 q1 = (0, 5) then ((fn_49 q1 (3 : Int32) y2 h).bind fun b3 => some b3) else none
set_option maxRecDepth 100000 in
set_option maxHeartbeats 4000000 in
theorem tn_40_222 (j : Nat) (y1 : Option Nat) (y2 : Int32) (h : im_H) : im_Go im_zV 4 fm_40 222 [(1, .inr y1), (2, .inl y2)] [] h (fn_40_222 j y1 y2 h) := by
  unfold fn_40_222
  refine x_aload_n dm_40_222 rfl ?_
  refine x_iconst (3) dm_40_223 (by decide) ?_
  refine x_iload_n dm_40_224 rfl ?_
  refine im_bind (fun q1 hq1 => ?_)
  refine im_chk _ (fun hk2 => ?_)
  refine im_callV mf_49 rfl (im_eqo hq1 (tn_49 q1 (3 : Int32) y2 h)) (im_runV (as := [.inl (3 : Int32), .inl y2]) (rest := []) dm_40_225 mf_49 (Nat.le_of_ble_eq_true rfl) ml_4_107 mi_49 ms_49 mp_49 (Nat.le_of_ble_eq_true rfl) hq1 hk2 ⟨_, _, rfl⟩) rfl (fun b3 hb3 => ?_)
  refine x_goto 253 dm_40_228 rfl ?_
  exact x_return dm_40_253 rfl
def fn_40_231 (j : Nat) (y4 : Int32) (y5 : Int32) (y6 : Int32) (y7 : Int32) (y8 : Option Nat) (h : im_H) : Option (im_H) :=
  (y8).bind fun q1 => if im_in h 1 q1 y5 then (if im_in h 1 q1 y6 then ((fn_148 y4 (im_gI h q1 (y5).toNatClampNeg) (im_gI h q1 (y6).toNatClampNeg) y7 h).bind fun b4 => if im_in b4.2 1 q1 y5 then (let h6 : im_H := im_pI b4.2 q1 (y5).toNatClampNeg b4.1; some h6) else none) else none) else none
set_option maxRecDepth 100000 in
set_option maxHeartbeats 4000000 in
theorem tn_40_231 (j : Nat) (y4 : Int32) (y5 : Int32) (y6 : Int32) (y7 : Int32) (y8 : Option Nat) (h : im_H) : im_Go im_zV 4 fm_40 231 [(4, .inl y4), (5, .inl y5), (6, .inl y6), (7, .inl y7), (8, .inr y8)] [] h (fn_40_231 j y4 y5 y6 y7 y8 h) := by
  unfold fn_40_231
  refine x_aload dm_40_231 rfl ?_
  refine x_iload dm_40_233 rfl ?_
  refine x_iload dm_40_235 rfl ?_
  refine x_aload dm_40_237 rfl ?_
  refine x_iload dm_40_239 rfl ?_
  refine im_bind (fun q1 hq1 => ?_)
  refine im_chk _ (fun hi2 => ?_)
  refine x_iaload dm_40_241 hq1 hi2 ?_
  refine x_aload dm_40_242 rfl ?_
  refine x_iload dm_40_244 rfl ?_
  refine im_chk _ (fun hi3 => ?_)
  refine x_iaload dm_40_246 hq1 hi3 ?_
  refine x_iload dm_40_247 rfl ?_
  refine im_callI mf_148 rfl (tn_148 y4 _ _ y7 h) (im_runS (as := [.inl y4, .inl _, .inl _, .inl y7]) (rest := [.inl y5, .inr y8]) dm_40_249 mf_148 (Nat.le_of_ble_eq_true rfl) ml_4_110 mi_148 mp_148 (Nat.le_of_ble_eq_true rfl)) rfl (fun b4 hb4 => ?_)
  refine im_chk _ (fun hi5 => ?_)
  refine x_iastore dm_40_252 hq1 hi5 ?_
  exact x_return dm_40_253 rfl
def fn_40_168 (j : Nat) (y1 : Option Nat) (y2 : Int32) (y4 : Int32) (y5 : Int32) (y6 : Int32) (y7 : Int32) (y8 : Option Nat) (h : im_H) : Option (im_H) :=
  (y8).bind fun q1 => if im_in h 1 q1 y5 then (if im_in h 1 q1 y6 then ((fn_149 y4 (im_gI h q1 (y5).toNatClampNeg) (im_gI h q1 (y6).toNatClampNeg) h).bind fun b4 => if b4.1 = 0 then (some b4.2) else ((y1).bind fun q6 => if b4.2.2.1 q6 = (0, 5) then (let h8 : im_H := im_pI b4.2 q6 5 ((y2 + (1 : Int32)) + y7); some h8) else none)) else none) else none
set_option maxRecDepth 100000 in
set_option maxHeartbeats 4000000 in
theorem tn_40_168 (j : Nat) (y1 : Option Nat) (y2 : Int32) (y4 : Int32) (y5 : Int32) (y6 : Int32) (y7 : Int32) (y8 : Option Nat) (h : im_H) : im_Go im_zV 4 fm_40 168 [(1, .inr y1), (2, .inl y2), (4, .inl y4), (5, .inl y5), (6, .inl y6), (7, .inl y7), (8, .inr y8)] [] h (fn_40_168 j y1 y2 y4 y5 y6 y7 y8 h) := by
  unfold fn_40_168
  refine x_iload dm_40_168 rfl ?_
  refine x_aload dm_40_170 rfl ?_
  refine x_iload dm_40_172 rfl ?_
  refine im_bind (fun q1 hq1 => ?_)
  refine im_chk _ (fun hi2 => ?_)
  refine x_iaload dm_40_174 hq1 hi2 ?_
  refine x_aload dm_40_175 rfl ?_
  refine x_iload dm_40_177 rfl ?_
  refine im_chk _ (fun hi3 => ?_)
  refine x_iaload dm_40_179 hq1 hi3 ?_
  refine im_callI mf_149 rfl (tn_149 y4 _ _ h) (im_runS (as := [.inl y4, .inl _, .inl _]) (rest := []) dm_40_180 mf_149 (Nat.le_of_ble_eq_true rfl) ml_4_99 mi_149 mp_149 (Nat.le_of_ble_eq_true rfl)) rfl (fun b4 hb4 => ?_)
  refine x_if_eq 253 dm_40_183 rfl (fun c5 => ?_) (fun c5 => ?_)
  · exact x_return dm_40_253 rfl
  · refine x_aload_n dm_40_186 rfl ?_
    refine x_iload_n dm_40_187 rfl ?_
    refine x_iconst (1) dm_40_188 (by decide) ?_
    refine x_iadd dm_40_189 ?_
    refine x_iload dm_40_190 rfl ?_
    refine x_iadd dm_40_192 ?_
    refine im_bind (fun q6 hq6 => ?_)
    refine im_chk _ (fun hk7 => ?_)
    refine x_putI dm_40_193 fl_4_76 rfl hq6 hk7 ?_
    refine x_goto 253 dm_40_196 rfl ?_
    exact x_return dm_40_253 rfl
/-- FencedModules$Machine.execute(LFencedModules$Sandbox;)V -/
def fn_40 (j : Nat) (x1 : Option Nat) (h : im_H) : Option (im_H) :=
  (x1).bind fun q1 => if h.2.1 q1 = (0, 5) then (let v3 : Int32 := (im_gI h q1 5); if h.2.1 j = (0, 4) then ((fn_32 j v3 h).bind fun b5 => (fn_143 b5.1 b5.2).bind fun b6 => (fn_144 b5.1 b6.2).bind fun b7 => (fn_145 b5.1 b7.2).bind fun b8 => (fn_146 b5.1 b8.2).bind fun b9 => if b9.2.2.1 q1 = (0, 5) then (let o11 : Option Nat := (im_gR b9.2 q1 1); let h12 : im_H := im_pI b9.2 q1 5 (v3 + (1 : Int32)); if b6.1 = 0 then (fn_40_222 j x1 v3 h12) else (if b6.1 = 1 then (fn_40_231 j b6.1 b7.1 b8.1 b9.1 o11 h12) else (if b6.1 = 2 then (fn_40_231 j b6.1 b7.1 b8.1 b9.1 o11 h12) else (if b6.1 = 3 then (fn_40_231 j b6.1 b7.1 b8.1 b9.1 o11 h12) else (if b6.1 = 4 then (fn_40_231 j b6.1 b7.1 b8.1 b9.1 o11 h12) else (if b6.1 = 5 then (fn_40_231 j b6.1 b7.1 b8.1 b9.1 o11 h12) else (if b6.1 = 6 then (fn_40_231 j b6.1 b7.1 b8.1 b9.1 o11 h12) else (if b6.1 = 7 then (fn_40_231 j b6.1 b7.1 b8.1 b9.1 o11 h12) else (if b6.1 = 8 then ((o11).bind fun q22 => if im_in b9.2 1 q22 b8.1 then (if b9.2.2.1 j = (0, 4) then ((fn_32 j ((im_gI h12 q22 (b8.1).toNatClampNeg) + b9.1) h12).bind fun b25 => if im_in b25.2 1 q22 b7.1 then (let h27 : im_H := im_pI b25.2 q22 (b7.1).toNatClampNeg b25.1; some h27) else none) else none) else none) else (if b6.1 = 9 then ((o11).bind fun q29 => if im_in b9.2 1 q29 b8.1 then (if im_in b9.2 1 q29 b7.1 then (if b9.2.2.1 j = (0, 4) then ((fn_33 j ((im_gI h12 q29 (b8.1).toNatClampNeg) + b9.1) (im_gI h12 q29 (b7.1).toNatClampNeg) h12).bind fun b33 => some b33) else none) else none) else none) else (if b6.1 = 10 then (fn_40_168 j x1 v3 b6.1 b7.1 b8.1 b9.1 o11 h12) else (if b6.1 = 11 then (fn_40_168 j x1 v3 b6.1 b7.1 b8.1 b9.1 o11 h12) else (if b6.1 = 12 then (fn_40_168 j x1 v3 b6.1 b7.1 b8.1 b9.1 o11 h12) else (if b6.1 = 13 then ((o11).bind fun q38 => if im_in b9.2 1 q38 b7.1 then (let h40 : im_H := im_pI h12 q1 5 (im_gI h12 q38 (b7.1).toNatClampNeg); some h40) else none) else (if b6.1 = 14 then (if b9.2.2.1 j = (0, 4) then ((fn_41 j x1 b9.1 v3 h12).bind fun b43 => some b43) else none) else (if b6.1 = 15 then (fn_40_222 j x1 v3 h12) else (fn_40_231 j b6.1 b7.1 b8.1 b9.1 o11 h12))))))))))))))))) else none) else none) else none
set_option maxRecDepth 100000 in
set_option maxHeartbeats 4000000 in
theorem tn_40 (j : Nat) (x1 : Option Nat) (h : im_H) : im_Go im_zV 4 fm_40 0 (im_en 0 [.inr (some j), .inr x1]) [] h (fn_40 j x1 h) := by
  unfold fn_40
  refine x_aload_n dm_40_0 rfl ?_
  refine im_bind (fun q1 hq1 => ?_)
  refine im_chk _ (fun hk2 => ?_)
  refine x_getI dm_40_1 fl_4_76 rfl hq1 hk2 ?_
  refine x_istore_n dm_40_4 (Nat.le_of_ble_eq_true rfl) ?_
  refine x_aload_n dm_40_5 rfl ?_
  refine x_iload_n dm_40_6 rfl ?_
  refine im_chk _ (fun hk4 => ?_)
  refine im_callI mf_32 rfl (tn_32 j _ h) (im_runV (as := [.inl _]) (rest := []) dm_40_7 mf_32 (Nat.le_of_ble_eq_true rfl) ml_4_79 mi_32 ms_32 mp_32 (Nat.le_of_ble_eq_true rfl) rfl hk4 ⟨_, _, rfl⟩) rfl (fun b5 hb5 => ?_)
  refine x_istore_n dm_40_10 (Nat.le_of_ble_eq_true rfl) ?_
  refine x_iload_n dm_40_11 rfl ?_
  refine im_callI mf_143 rfl (tn_143 b5.1 b5.2) (im_runS (as := [.inl b5.1]) (rest := []) dm_40_12 mf_143 (Nat.le_of_ble_eq_true rfl) ml_4_82 mi_143 mp_143 (Nat.le_of_ble_eq_true rfl)) rfl (fun b6 hb6 => ?_)
  refine x_istore dm_40_15 (Nat.le_of_ble_eq_true rfl) ?_
  refine x_iload_n dm_40_17 rfl ?_
  refine im_callI mf_144 rfl (tn_144 b5.1 b6.2) (im_runS (as := [.inl b5.1]) (rest := []) dm_40_18 mf_144 (Nat.le_of_ble_eq_true rfl) ml_4_87 mi_144 mp_144 (Nat.le_of_ble_eq_true rfl)) rfl (fun b7 hb7 => ?_)
  refine x_istore dm_40_21 (Nat.le_of_ble_eq_true rfl) ?_
  refine x_iload_n dm_40_23 rfl ?_
  refine im_callI mf_145 rfl (tn_145 b5.1 b7.2) (im_runS (as := [.inl b5.1]) (rest := []) dm_40_24 mf_145 (Nat.le_of_ble_eq_true rfl) ml_4_90 mi_145 mp_145 (Nat.le_of_ble_eq_true rfl)) rfl (fun b8 hb8 => ?_)
  refine x_istore dm_40_27 (Nat.le_of_ble_eq_true rfl) ?_
  refine x_iload_n dm_40_29 rfl ?_
  refine im_callI mf_146 rfl (tn_146 b5.1 b8.2) (im_runS (as := [.inl b5.1]) (rest := []) dm_40_30 mf_146 (Nat.le_of_ble_eq_true rfl) ml_4_93 mi_146 mp_146 (Nat.le_of_ble_eq_true rfl)) rfl (fun b9 hb9 => ?_)
  refine x_istore dm_40_33 (Nat.le_of_ble_eq_true rfl) ?_
  refine x_aload_n dm_40_35 rfl ?_
  refine im_chk _ (fun hk10 => ?_)
  refine x_getR dm_40_36 fl_4_96 rfl hq1 hk10 ?_
  refine x_astore dm_40_39 (Nat.le_of_ble_eq_true rfl) ?_
  refine x_aload_n dm_40_41 rfl ?_
  refine x_iload_n dm_40_42 rfl ?_
  refine x_iconst (1) dm_40_43 (by decide) ?_
  refine x_iadd dm_40_44 ?_
  refine x_putI dm_40_45 fl_4_76 rfl hq1 hk10 ?_
  refine x_iload dm_40_48 rfl ?_
  refine im_test _ (fun c13 => ?_) (fun c13 => ?_)
  · refine x_tabIn 0 222 dm_40_50 c13 (by decide) (by decide) rfl rfl ?_
    exact im_lsub [(1, .inr x1), (2, .inl _)] (im_sb_c rfl (im_sb_c rfl im_sb_n)) (tn_40_222 j x1 _ _)
  refine im_test _ (fun c14 => ?_) (fun c14 => ?_)
  · refine x_tabIn 1 231 dm_40_50 c14 (by decide) (by decide) rfl rfl ?_
    exact im_lsub [(4, .inl b6.1), (5, .inl b7.1), (6, .inl b8.1), (7, .inl b9.1), (8, .inr _)] (im_sb_c rfl (im_sb_c rfl (im_sb_c rfl (im_sb_c rfl (im_sb_c rfl im_sb_n))))) (tn_40_231 j b6.1 b7.1 b8.1 b9.1 _ _)
  refine im_test _ (fun c15 => ?_) (fun c15 => ?_)
  · refine x_tabIn 2 231 dm_40_50 c15 (by decide) (by decide) rfl rfl ?_
    exact im_lsub [(4, .inl b6.1), (5, .inl b7.1), (6, .inl b8.1), (7, .inl b9.1), (8, .inr _)] (im_sb_c rfl (im_sb_c rfl (im_sb_c rfl (im_sb_c rfl (im_sb_c rfl im_sb_n))))) (tn_40_231 j b6.1 b7.1 b8.1 b9.1 _ _)
  refine im_test _ (fun c16 => ?_) (fun c16 => ?_)
  · refine x_tabIn 3 231 dm_40_50 c16 (by decide) (by decide) rfl rfl ?_
    exact im_lsub [(4, .inl b6.1), (5, .inl b7.1), (6, .inl b8.1), (7, .inl b9.1), (8, .inr _)] (im_sb_c rfl (im_sb_c rfl (im_sb_c rfl (im_sb_c rfl (im_sb_c rfl im_sb_n))))) (tn_40_231 j b6.1 b7.1 b8.1 b9.1 _ _)
  refine im_test _ (fun c17 => ?_) (fun c17 => ?_)
  · refine x_tabIn 4 231 dm_40_50 c17 (by decide) (by decide) rfl rfl ?_
    exact im_lsub [(4, .inl b6.1), (5, .inl b7.1), (6, .inl b8.1), (7, .inl b9.1), (8, .inr _)] (im_sb_c rfl (im_sb_c rfl (im_sb_c rfl (im_sb_c rfl (im_sb_c rfl im_sb_n))))) (tn_40_231 j b6.1 b7.1 b8.1 b9.1 _ _)
  refine im_test _ (fun c18 => ?_) (fun c18 => ?_)
  · refine x_tabIn 5 231 dm_40_50 c18 (by decide) (by decide) rfl rfl ?_
    exact im_lsub [(4, .inl b6.1), (5, .inl b7.1), (6, .inl b8.1), (7, .inl b9.1), (8, .inr _)] (im_sb_c rfl (im_sb_c rfl (im_sb_c rfl (im_sb_c rfl (im_sb_c rfl im_sb_n))))) (tn_40_231 j b6.1 b7.1 b8.1 b9.1 _ _)
  refine im_test _ (fun c19 => ?_) (fun c19 => ?_)
  · refine x_tabIn 6 231 dm_40_50 c19 (by decide) (by decide) rfl rfl ?_
    exact im_lsub [(4, .inl b6.1), (5, .inl b7.1), (6, .inl b8.1), (7, .inl b9.1), (8, .inr _)] (im_sb_c rfl (im_sb_c rfl (im_sb_c rfl (im_sb_c rfl (im_sb_c rfl im_sb_n))))) (tn_40_231 j b6.1 b7.1 b8.1 b9.1 _ _)
  refine im_test _ (fun c20 => ?_) (fun c20 => ?_)
  · refine x_tabIn 7 231 dm_40_50 c20 (by decide) (by decide) rfl rfl ?_
    exact im_lsub [(4, .inl b6.1), (5, .inl b7.1), (6, .inl b8.1), (7, .inl b9.1), (8, .inr _)] (im_sb_c rfl (im_sb_c rfl (im_sb_c rfl (im_sb_c rfl (im_sb_c rfl im_sb_n))))) (tn_40_231 j b6.1 b7.1 b8.1 b9.1 _ _)
  refine im_test _ (fun c21 => ?_) (fun c21 => ?_)
  · refine x_tabIn 8 128 dm_40_50 c21 (by decide) (by decide) rfl rfl ?_
    refine x_aload dm_40_128 rfl ?_
    refine x_iload dm_40_130 rfl ?_
    refine x_aload_n dm_40_132 rfl ?_
    refine x_aload dm_40_133 rfl ?_
    refine x_iload dm_40_135 rfl ?_
    refine im_bind (fun q22 hq22 => ?_)
    refine im_chk _ (fun hi23 => ?_)
    refine x_iaload dm_40_137 hq22 hi23 ?_
    refine x_iload dm_40_138 rfl ?_
    refine x_iadd dm_40_140 ?_
    refine im_chk _ (fun hk24 => ?_)
    refine im_callI mf_32 rfl (tn_32 j _ _) (im_runV (as := [.inl _]) (rest := [.inl b7.1, .inr _]) dm_40_141 mf_32 (Nat.le_of_ble_eq_true rfl) ml_4_79 mi_32 ms_32 mp_32 (Nat.le_of_ble_eq_true rfl) rfl hk24 ⟨_, _, rfl⟩) rfl (fun b25 hb25 => ?_)
    refine im_chk _ (fun hi26 => ?_)
    refine x_iastore dm_40_144 hq22 hi26 ?_
    refine x_goto 253 dm_40_145 rfl ?_
    exact x_return dm_40_253 rfl
  refine im_test _ (fun c28 => ?_) (fun c28 => ?_)
  · refine x_tabIn 9 148 dm_40_50 c28 (by decide) (by decide) rfl rfl ?_
    refine x_aload_n dm_40_148 rfl ?_
    refine x_aload dm_40_149 rfl ?_
    refine x_iload dm_40_151 rfl ?_
    refine im_bind (fun q29 hq29 => ?_)
    refine im_chk _ (fun hi30 => ?_)
    refine x_iaload dm_40_153 hq29 hi30 ?_
    refine x_iload dm_40_154 rfl ?_
    refine x_iadd dm_40_156 ?_
    refine x_aload dm_40_157 rfl ?_
    refine x_iload dm_40_159 rfl ?_
    refine im_chk _ (fun hi31 => ?_)
    refine x_iaload dm_40_161 hq29 hi31 ?_
    refine im_chk _ (fun hk32 => ?_)
    refine im_callV mf_33 rfl (tn_33 j _ _ _) (im_runV (as := [.inl _, .inl _]) (rest := []) dm_40_162 mf_33 (Nat.le_of_ble_eq_true rfl) ml_4_39 mi_33 ms_33 mp_33 (Nat.le_of_ble_eq_true rfl) rfl hk32 ⟨_, _, rfl⟩) rfl (fun b33 hb33 => ?_)
    refine x_goto 253 dm_40_165 rfl ?_
    exact x_return dm_40_253 rfl
  refine im_test _ (fun c34 => ?_) (fun c34 => ?_)
  · refine x_tabIn 10 168 dm_40_50 c34 (by decide) (by decide) rfl rfl ?_
    exact im_lsub [(1, .inr x1), (2, .inl _), (4, .inl b6.1), (5, .inl b7.1), (6, .inl b8.1), (7, .inl b9.1), (8, .inr _)] (im_sb_c rfl (im_sb_c rfl (im_sb_c rfl (im_sb_c rfl (im_sb_c rfl (im_sb_c rfl (im_sb_c rfl im_sb_n))))))) (tn_40_168 j x1 _ b6.1 b7.1 b8.1 b9.1 _ _)
  refine im_test _ (fun c35 => ?_) (fun c35 => ?_)
  · refine x_tabIn 11 168 dm_40_50 c35 (by decide) (by decide) rfl rfl ?_
    exact im_lsub [(1, .inr x1), (2, .inl _), (4, .inl b6.1), (5, .inl b7.1), (6, .inl b8.1), (7, .inl b9.1), (8, .inr _)] (im_sb_c rfl (im_sb_c rfl (im_sb_c rfl (im_sb_c rfl (im_sb_c rfl (im_sb_c rfl (im_sb_c rfl im_sb_n))))))) (tn_40_168 j x1 _ b6.1 b7.1 b8.1 b9.1 _ _)
  refine im_test _ (fun c36 => ?_) (fun c36 => ?_)
  · refine x_tabIn 12 168 dm_40_50 c36 (by decide) (by decide) rfl rfl ?_
    exact im_lsub [(1, .inr x1), (2, .inl _), (4, .inl b6.1), (5, .inl b7.1), (6, .inl b8.1), (7, .inl b9.1), (8, .inr _)] (im_sb_c rfl (im_sb_c rfl (im_sb_c rfl (im_sb_c rfl (im_sb_c rfl (im_sb_c rfl (im_sb_c rfl im_sb_n))))))) (tn_40_168 j x1 _ b6.1 b7.1 b8.1 b9.1 _ _)
  refine im_test _ (fun c37 => ?_) (fun c37 => ?_)
  · refine x_tabIn 13 199 dm_40_50 c37 (by decide) (by decide) rfl rfl ?_
    refine x_aload_n dm_40_199 rfl ?_
    refine x_aload dm_40_200 rfl ?_
    refine x_iload dm_40_202 rfl ?_
    refine im_bind (fun q38 hq38 => ?_)
    refine im_chk _ (fun hi39 => ?_)
    refine x_iaload dm_40_204 hq38 hi39 ?_
    refine x_putI dm_40_205 fl_4_76 rfl hq1 hk10 ?_
    refine x_goto 253 dm_40_208 rfl ?_
    exact x_return dm_40_253 rfl
  refine im_test _ (fun c41 => ?_) (fun c41 => ?_)
  · refine x_tabIn 14 211 dm_40_50 c41 (by decide) (by decide) rfl rfl ?_
    refine x_aload_n dm_40_211 rfl ?_
    refine x_aload_n dm_40_212 rfl ?_
    refine x_iload dm_40_213 rfl ?_
    refine x_iload_n dm_40_215 rfl ?_
    refine im_chk _ (fun hk42 => ?_)
    refine im_callV mf_41 rfl (tn_41 j x1 b9.1 _ _) (im_runV (as := [.inr x1, .inl b9.1, .inl _]) (rest := []) dm_40_216 mf_41 (Nat.le_of_ble_eq_true rfl) ml_4_103 mi_41 ms_41 mp_41 (Nat.le_of_ble_eq_true rfl) rfl hk42 ⟨_, _, rfl⟩) rfl (fun b43 hb43 => ?_)
    refine x_goto 253 dm_40_219 rfl ?_
    exact x_return dm_40_253 rfl
  refine im_test _ (fun c44 => ?_) (fun c44 => ?_)
  · refine x_tabIn 15 222 dm_40_50 c44 (by decide) (by decide) rfl rfl ?_
    exact im_lsub [(1, .inr x1), (2, .inl _)] (im_sb_c rfl (im_sb_c rfl im_sb_n)) (tn_40_222 j x1 _ _)
  refine x_tabOut 231 dm_40_50 (im_swout (0) 16 (by decide) (by decide) (fun i hi => match i, hi with | 0, _ => c13 | 1, _ => c14 | 2, _ => c15 | 3, _ => c16 | 4, _ => c17 | 5, _ => c18 | 6, _ => c19 | 7, _ => c20 | 8, _ => c21 | 9, _ => c28 | 10, _ => c34 | 11, _ => c35 | 12, _ => c36 | 13, _ => c37 | 14, _ => c41 | 15, _ => c44 | i + 16, hi => absurd hi (by omega))) rfl ?_
  exact im_lsub [(4, .inl b6.1), (5, .inl b7.1), (6, .inl b8.1), (7, .inl b9.1), (8, .inr _)] (im_sb_c rfl (im_sb_c rfl (im_sb_c rfl (im_sb_c rfl (im_sb_c rfl im_sb_n))))) (tn_40_231 j b6.1 b7.1 b8.1 b9.1 _ _)
/-- FencedModules.verify(I)I -/
def fn_79 (j : Nat) (x1 : Int32) (h : im_H) : Option (Int32 × im_H) :=
  (fn_45 x1 h).bind fun b1 => if b1.1 = 0 then (some ((-2 : Int32), b1.2)) else (if b1.2.2.1 j = (0, 7) then ((fn_139 (im_gR b1.2 j 1) x1 b1.2).bind fun b4 => some (b4.1, b4.2)) else none)
set_option maxRecDepth 100000 in
set_option maxHeartbeats 4000000 in
theorem tn_79 (j : Nat) (x1 : Int32) (h : im_H) : im_Go im_zI 4 fm_79 0 (im_en 0 [.inr (some j), .inl x1]) [] h (fn_79 j x1 h) := by
  unfold fn_79
  refine x_iload_n dm_79_0 rfl ?_
  refine im_callI mf_45 rfl (tn_45 x1 h) (im_runS (as := [.inl x1]) (rest := []) dm_79_1 mf_45 (Nat.le_of_ble_eq_true rfl) ml_7_49 mi_45 mp_45 (Nat.le_of_ble_eq_true rfl)) rfl (fun b1 hb1 => ?_)
  refine x_if_eq 18 dm_79_4 rfl (fun c2 => ?_) (fun c2 => ?_)
  · refine x_bipush (-2) dm_79_18 (by decide) ?_
    exact x_ireturn dm_79_20 rfl
  · refine x_aload_n dm_79_7 rfl ?_
    refine im_chk _ (fun hk3 => ?_)
    refine x_getR dm_79_8 fl_7_19 rfl rfl hk3 ?_
    refine x_iload_n dm_79_11 rfl ?_
    refine im_callI mf_139 rfl (tn_139 _ x1 b1.2) (im_runS (as := [.inr _, .inl x1]) (rest := []) dm_79_12 mf_139 (Nat.le_of_ble_eq_true rfl) ml_7_75 mi_139 mp_139 (Nat.le_of_ble_eq_true rfl)) rfl (fun b4 hb4 => ?_)
    refine x_goto 20 dm_79_15 rfl ?_
    exact x_ireturn dm_79_20 rfl
