/-- FencedModulesModel.<init>()V -/
def fn_91 (j : Nat) (h : im_H) : Option (im_H) :=
  if im_oa h [(0, .inr (some j))] [.inr (some j)] = true then (let h2 : im_H := im_nw h (1, 256) 256; if h2.2.1 j = (0, 8) then (let h4 : im_H := im_pR h2 j 0 (some h.1.1); if im_oa h4 [(0, .inr (some j))] [.inr (some j)] = true then (let h6 : im_H := im_nw h4 (1, 3) 3; if h6.2.1 j = (0, 8) then (let h8 : im_H := im_pR h6 j 1 (some h4.1.1); if im_oa h8 [(0, .inr (some j))] [.inr (some j)] = true then (let h10 : im_H := im_nw h8 (1, 24) 24; if h10.2.1 j = (0, 8) then (let h12 : im_H := im_pR h10 j 2 (some h8.1.1); if im_oa h12 [(0, .inr (some j))] [.inr (some j)] = true then (let h14 : im_H := im_nw h12 (1, 3) 3; if h14.2.1 j = (0, 8) then (let h16 : im_H := im_pR h14 j 3 (some h12.1.1); if im_oa h16 [(0, .inr (some j))] [.inr (some j)] = true then (let h18 : im_H := im_nw h16 (1, 3) 3; if h18.2.1 j = (0, 8) then (let h20 : im_H := im_pR h18 j 4 (some h16.1.1); if im_oa h20 [(0, .inr (some j))] [.inr (some j)] = true then (let h22 : im_H := im_nw h20 (1, 12) 12; if h22.2.1 j = (0, 8) then (let h24 : im_H := im_pR h22 j 5 (some h20.1.1); if im_oa h24 [(0, .inr (some j))] [.inr (some j)] = true then (let h26 : im_H := im_nw h24 (1, 3) 3; if h26.2.1 j = (0, 8) then (let h28 : im_H := im_pR h26 j 6 (some h24.1.1); if im_oa h28 [(0, .inr (some j))] [.inr (some j)] = true then (let h30 : im_H := im_nw h28 (1, 36) 36; if h30.2.1 j = (0, 8) then (let h32 : im_H := im_pR h30 j 7 (some h28.1.1); if im_oa h32 [(0, .inr (some j))] [.inr (some j)] = true then (let h34 : im_H := im_nw h32 (1, 3) 3; if h34.2.1 j = (0, 8) then (let h36 : im_H := im_pR h34 j 8 (some h32.1.1); if im_oa h36 [(0, .inr (some j))] [.inr (some j)] = true then (let h38 : im_H := im_nw h36 (1, 3) 3; if h38.2.1 j = (0, 8) then (let h40 : im_H := im_pR h38 j 9 (some h36.1.1); if im_oa h40 [(0, .inr (some j))] [.inr (some j)] = true then (let h42 : im_H := im_nw h40 (1, 24) 24; if h42.2.1 j = (0, 8) then (let h44 : im_H := im_pR h42 j 10 (some h40.1.1); if im_oa h44 [(0, .inr (some j))] [.inr (some j)] = true then (let h46 : im_H := im_nw h44 (1, 3) 3; if h46.2.1 j = (0, 8) then (let h48 : im_H := im_pR h46 j 11 (some h44.1.1); if im_oa h48 [(0, .inr (some j))] [.inr (some j)] = true then (let h50 : im_H := im_nw h48 (1, 3) 3; if h50.2.1 j = (0, 8) then (let h52 : im_H := im_pR h50 j 12 (some h48.1.1); if im_oa h52 [(0, .inr (some j))] [.inr (some j)] = true then (let h54 : im_H := im_nw h52 (1, 144) 144; if h54.2.1 j = (0, 8) then (let h56 : im_H := im_pR h54 j 13 (some h52.1.1); if im_oa h56 [(0, .inr (some j))] [.inr (some j)] = true then (let h58 : im_H := im_nw h56 (1, 24) 24; if h58.2.1 j = (0, 8) then (let h60 : im_H := im_pR h58 j 17 (some h56.1.1); if im_oa h60 [(0, .inr (some j))] [.inr (some j)] = true then (let h62 : im_H := im_nw h60 (1, 24) 24; if h62.2.1 j = (0, 8) then (let h64 : im_H := im_pR h62 j 18 (some h60.1.1); if im_oa h64 [(0, .inr (some j))] [.inr (some j)] = true then (let h66 : im_H := im_nw h64 (1, 24) 24; if h66.2.1 j = (0, 8) then (let h68 : im_H := im_pR h66 j 19 (some h64.1.1); if im_oa h68 [(0, .inr (some j))] [.inr (some j)] = true then (let h70 : im_H := im_nw h68 (1, 24) 24; if h70.2.1 j = (0, 8) then (let h72 : im_H := im_pR h70 j 20 (some h68.1.1); if im_oa h72 [(0, .inr (some j))] [.inr (some j)] = true then (let h74 : im_H := im_nw h72 (2, 8) 8; if h74.2.1 j = (0, 8) then (let h76 : im_H := im_pR h74 j 21 (some h72.1.1); if im_oa h76 [(0, .inr (some j))] [.inr (some j)] = true then (let h78 : im_H := im_nw h76 (1, 8) 8; if h78.2.1 j = (0, 8) then (let h80 : im_H := im_pR h78 j 22 (some h76.1.1); if im_oa h80 [(0, .inr (some j))] [.inr (some j)] = true then (let h82 : im_H := im_nw h80 (1, 31) 31; if h82.2.1 j = (0, 8) then (let h84 : im_H := im_pR h82 j 24 (some h80.1.1); if im_oa h84 [(0, .inr (some j))] [.inr (some j)] = true then (let h86 : im_H := im_nw h84 (1, 24) 24; if h86.2.1 j = (0, 8) then (let h88 : im_H := im_pR h86 j 25 (some h84.1.1); if im_oa h88 [(0, .inr (some j))] [.inr (some j)] = true then (let h90 : im_H := im_nw h88 (2, 24) 24; if h90.2.1 j = (0, 8) then (let h92 : im_H := im_pR h90 j 26 (some h88.1.1); if im_oa h92 [(0, .inr (some j))] [.inr (some j)] = true then (let h94 : im_H := im_nw h92 (1, 48) 48; if h94.2.1 j = (0, 8) then (let h96 : im_H := im_pR h94 j 31 (some h92.1.1); some h96) else none) else none) else none) else none) else none) else none) else none) else none) else none) else none) else none) else none) else none) else none) else none) else none) else none) else none) else none) else none) else none) else none) else none) else none) else none) else none) else none) else none) else none) else none) else none) else none) else none) else none) else none) else none) else none) else none) else none) else none) else none) else none) else none) else none) else none) else none) else none) else none
set_option maxRecDepth 100000 in
set_option maxHeartbeats 4000000 in
theorem tn_91 (j : Nat) (h : im_H) : im_Go im_zV 1 fm_91 0 (im_en 0 [.inr (some j)]) [] h (fn_91 j h) := by
  unfold fn_91
  refine x_aload_n dm_91_0 rfl ?_
  refine x_objinit dm_91_1 ml_8_1 mo_i mo_c (Nat.le_of_ble_eq_true rfl) (Nat.le_of_ble_eq_true rfl) rfl ?_
  refine x_aload_n dm_91_4 rfl ?_
  refine x_sipush (256) dm_91_5 (by decide) ?_
  refine im_chk _ (fun ho1 => ?_)
  refine x_newI 256 dm_91_8 ma_I rfl (by decide) rfl (Nat.le_of_ble_eq_true rfl) ho1 ?_
  refine im_chk _ (fun hk3 => ?_)
  refine x_putFR dm_91_10 fl_8_7 rfl rfl rfl rfl hk3 ?_
  refine x_aload_n dm_91_13 rfl ?_
  refine x_iconst (3) dm_91_14 (by decide) ?_
  refine im_chk _ (fun ho5 => ?_)
  refine x_newI 3 dm_91_15 ma_I rfl (by decide) rfl (Nat.le_of_ble_eq_true rfl) ho5 ?_
  refine im_chk _ (fun hk7 => ?_)
  refine x_putFR dm_91_17 fl_8_13 rfl rfl rfl rfl hk7 ?_
  refine x_aload_n dm_91_20 rfl ?_
  refine x_bipush (24) dm_91_21 (by decide) ?_
  refine im_chk _ (fun ho9 => ?_)
  refine x_newI 24 dm_91_23 ma_I rfl (by decide) rfl (Nat.le_of_ble_eq_true rfl) ho9 ?_
  refine im_chk _ (fun hk11 => ?_)
  refine x_putFR dm_91_25 fl_8_16 rfl rfl rfl rfl hk11 ?_
  refine x_aload_n dm_91_28 rfl ?_
  refine x_iconst (3) dm_91_29 (by decide) ?_
  refine im_chk _ (fun ho13 => ?_)
  refine x_newI 3 dm_91_30 ma_I rfl (by decide) rfl (Nat.le_of_ble_eq_true rfl) ho13 ?_
  refine im_chk _ (fun hk15 => ?_)
  refine x_putFR dm_91_32 fl_8_19 rfl rfl rfl rfl hk15 ?_
  refine x_aload_n dm_91_35 rfl ?_
  refine x_iconst (3) dm_91_36 (by decide) ?_
  refine im_chk _ (fun ho17 => ?_)
  refine x_newI 3 dm_91_37 ma_I rfl (by decide) rfl (Nat.le_of_ble_eq_true rfl) ho17 ?_
  refine im_chk _ (fun hk19 => ?_)
  refine x_putFR dm_91_39 fl_8_22 rfl rfl rfl rfl hk19 ?_
  refine x_aload_n dm_91_42 rfl ?_
  refine x_bipush (12) dm_91_43 (by decide) ?_
  refine im_chk _ (fun ho21 => ?_)
  refine x_newI 12 dm_91_45 ma_I rfl (by decide) rfl (Nat.le_of_ble_eq_true rfl) ho21 ?_
  refine im_chk _ (fun hk23 => ?_)
  refine x_putFR dm_91_47 fl_8_25 rfl rfl rfl rfl hk23 ?_
  refine x_aload_n dm_91_50 rfl ?_
  refine x_iconst (3) dm_91_51 (by decide) ?_
  refine im_chk _ (fun ho25 => ?_)
  refine x_newI 3 dm_91_52 ma_I rfl (by decide) rfl (Nat.le_of_ble_eq_true rfl) ho25 ?_
  refine im_chk _ (fun hk27 => ?_)
  refine x_putFR dm_91_54 fl_8_28 rfl rfl rfl rfl hk27 ?_
  refine x_aload_n dm_91_57 rfl ?_
  refine x_bipush (36) dm_91_58 (by decide) ?_
  refine im_chk _ (fun ho29 => ?_)
  refine x_newI 36 dm_91_60 ma_I rfl (by decide) rfl (Nat.le_of_ble_eq_true rfl) ho29 ?_
  refine im_chk _ (fun hk31 => ?_)
  refine x_putFR dm_91_62 fl_8_31 rfl rfl rfl rfl hk31 ?_
  refine x_aload_n dm_91_65 rfl ?_
  refine x_iconst (3) dm_91_66 (by decide) ?_
  refine im_chk _ (fun ho33 => ?_)
  refine x_newI 3 dm_91_67 ma_I rfl (by decide) rfl (Nat.le_of_ble_eq_true rfl) ho33 ?_
  refine im_chk _ (fun hk35 => ?_)
  refine x_putFR dm_91_69 fl_8_34 rfl rfl rfl rfl hk35 ?_
  refine x_aload_n dm_91_72 rfl ?_
  refine x_iconst (3) dm_91_73 (by decide) ?_
  refine im_chk _ (fun ho37 => ?_)
  refine x_newI 3 dm_91_74 ma_I rfl (by decide) rfl (Nat.le_of_ble_eq_true rfl) ho37 ?_
  refine im_chk _ (fun hk39 => ?_)
  refine x_putFR dm_91_76 fl_8_37 rfl rfl rfl rfl hk39 ?_
  refine x_aload_n dm_91_79 rfl ?_
  refine x_bipush (24) dm_91_80 (by decide) ?_
  refine im_chk _ (fun ho41 => ?_)
  refine x_newI 24 dm_91_82 ma_I rfl (by decide) rfl (Nat.le_of_ble_eq_true rfl) ho41 ?_
  refine im_chk _ (fun hk43 => ?_)
  refine x_putFR dm_91_84 fl_8_40 rfl rfl rfl rfl hk43 ?_
  refine x_aload_n dm_91_87 rfl ?_
  refine x_iconst (3) dm_91_88 (by decide) ?_
  refine im_chk _ (fun ho45 => ?_)
  refine x_newI 3 dm_91_89 ma_I rfl (by decide) rfl (Nat.le_of_ble_eq_true rfl) ho45 ?_
  refine im_chk _ (fun hk47 => ?_)
  refine x_putFR dm_91_91 fl_8_43 rfl rfl rfl rfl hk47 ?_
  refine x_aload_n dm_91_94 rfl ?_
  refine x_iconst (3) dm_91_95 (by decide) ?_
  refine im_chk _ (fun ho49 => ?_)
  refine x_newI 3 dm_91_96 ma_I rfl (by decide) rfl (Nat.le_of_ble_eq_true rfl) ho49 ?_
  refine im_chk _ (fun hk51 => ?_)
  refine x_putFR dm_91_98 fl_8_46 rfl rfl rfl rfl hk51 ?_
  refine x_aload_n dm_91_101 rfl ?_
  refine x_sipush (144) dm_91_102 (by decide) ?_
  refine im_chk _ (fun ho53 => ?_)
  refine x_newI 144 dm_91_105 ma_I rfl (by decide) rfl (Nat.le_of_ble_eq_true rfl) ho53 ?_
  refine im_chk _ (fun hk55 => ?_)
  refine x_putFR dm_91_107 fl_8_49 rfl rfl rfl rfl hk55 ?_
  refine x_aload_n dm_91_110 rfl ?_
  refine x_bipush (24) dm_91_111 (by decide) ?_
  refine im_chk _ (fun ho57 => ?_)
  refine x_newI 24 dm_91_113 ma_I rfl (by decide) rfl (Nat.le_of_ble_eq_true rfl) ho57 ?_
  refine im_chk _ (fun hk59 => ?_)
  refine x_putFR dm_91_115 fl_8_52 rfl rfl rfl rfl hk59 ?_
  refine x_aload_n dm_91_118 rfl ?_
  refine x_bipush (24) dm_91_119 (by decide) ?_
  refine im_chk _ (fun ho61 => ?_)
  refine x_newI 24 dm_91_121 ma_I rfl (by decide) rfl (Nat.le_of_ble_eq_true rfl) ho61 ?_
  refine im_chk _ (fun hk63 => ?_)
  refine x_putFR dm_91_123 fl_8_55 rfl rfl rfl rfl hk63 ?_
  refine x_aload_n dm_91_126 rfl ?_
  refine x_bipush (24) dm_91_127 (by decide) ?_
  refine im_chk _ (fun ho65 => ?_)
  refine x_newI 24 dm_91_129 ma_I rfl (by decide) rfl (Nat.le_of_ble_eq_true rfl) ho65 ?_
  refine im_chk _ (fun hk67 => ?_)
  refine x_putFR dm_91_131 fl_8_58 rfl rfl rfl rfl hk67 ?_
  refine x_aload_n dm_91_134 rfl ?_
  refine x_bipush (24) dm_91_135 (by decide) ?_
  refine im_chk _ (fun ho69 => ?_)
  refine x_newI 24 dm_91_137 ma_I rfl (by decide) rfl (Nat.le_of_ble_eq_true rfl) ho69 ?_
  refine im_chk _ (fun hk71 => ?_)
  refine x_putFR dm_91_139 fl_8_61 rfl rfl rfl rfl hk71 ?_
  refine x_aload_n dm_91_142 rfl ?_
  refine x_bipush (8) dm_91_143 (by decide) ?_
  refine im_chk _ (fun ho73 => ?_)
  refine x_newZ 8 dm_91_145 ma_Z rfl (by decide) rfl (Nat.le_of_ble_eq_true rfl) ho73 ?_
  refine im_chk _ (fun hk75 => ?_)
  refine x_putFR dm_91_147 fl_8_64 rfl rfl rfl rfl hk75 ?_
  refine x_aload_n dm_91_150 rfl ?_
  refine x_bipush (8) dm_91_151 (by decide) ?_
  refine im_chk _ (fun ho77 => ?_)
  refine x_newI 8 dm_91_153 ma_I rfl (by decide) rfl (Nat.le_of_ble_eq_true rfl) ho77 ?_
  refine im_chk _ (fun hk79 => ?_)
  refine x_putFR dm_91_155 fl_8_68 rfl rfl rfl rfl hk79 ?_
  refine x_aload_n dm_91_158 rfl ?_
  refine x_bipush (31) dm_91_159 (by decide) ?_
  refine im_chk _ (fun ho81 => ?_)
  refine x_newI 31 dm_91_161 ma_I rfl (by decide) rfl (Nat.le_of_ble_eq_true rfl) ho81 ?_
  refine im_chk _ (fun hk83 => ?_)
  refine x_putFR dm_91_163 fl_8_71 rfl rfl rfl rfl hk83 ?_
  refine x_aload_n dm_91_166 rfl ?_
  refine x_bipush (24) dm_91_167 (by decide) ?_
  refine im_chk _ (fun ho85 => ?_)
  refine x_newI 24 dm_91_169 ma_I rfl (by decide) rfl (Nat.le_of_ble_eq_true rfl) ho85 ?_
  refine im_chk _ (fun hk87 => ?_)
  refine x_putFR dm_91_171 fl_8_74 rfl rfl rfl rfl hk87 ?_
  refine x_aload_n dm_91_174 rfl ?_
  refine x_bipush (24) dm_91_175 (by decide) ?_
  refine im_chk _ (fun ho89 => ?_)
  refine x_newZ 24 dm_91_177 ma_Z rfl (by decide) rfl (Nat.le_of_ble_eq_true rfl) ho89 ?_
  refine im_chk _ (fun hk91 => ?_)
  refine x_putFR dm_91_179 fl_8_77 rfl rfl rfl rfl hk91 ?_
  refine x_aload_n dm_91_182 rfl ?_
  refine x_bipush (48) dm_91_183 (by decide) ?_
  refine im_chk _ (fun ho93 => ?_)
  refine x_newI 48 dm_91_185 ma_I rfl (by decide) rfl (Nat.le_of_ble_eq_true rfl) ho93 ?_
  refine im_chk _ (fun hk95 => ?_)
  refine x_putFR dm_91_187 fl_8_80 rfl rfl rfl rfl hk95 ?_
  exact x_return dm_91_190 rfl
