def gn_120_122 (r15 : Int32 → Int32 → im_M → Option (Int32 × im_M)) (y1 : Int32) (y2 : Int32) (M : im_M) : Option (Int32 × im_M) :=
  (gn_119 M).bind fun b1 => r15 y1 y2 b1
set_option maxRecDepth 100000 in
set_option maxHeartbeats 4000000 in
theorem tg_120_122 (r15 : Int32 → Int32 → im_M → Option (Int32 × im_M)) (hr15 : ∀ (y1 : Int32) (y2 : Int32) (M : im_M), im_Go zR_I 4 fm_120 15 [(0, .inr (some 0)), (1, .inl y1), (2, .inl y2)] [] (st_hR M) (r15 y1 y2 M)) (y1 : Int32) (y2 : Int32) (M : im_M) : im_Go zR_I 4 fm_120 122 [(0, .inr (some 0)), (1, .inl y1), (2, .inl y2)] [] (st_hR M) (gn_120_122 r15 y1 y2 M) := by
  unfold gn_120_122
  refine x_aload_n dm_120_122 rfl ?_
  refine im_callRV mf_119 rfl (tg_119 M) (im_runV (as := []) (rest := []) dm_120_123 mf_119 (Nat.le_of_ble_eq_true rfl) ml_8_163 mi_119 ms_119 mp_119 (Nat.le_of_ble_eq_true rfl) rfl rfl ⟨_, _, rfl⟩) rfl (fun b1 hb1 => ?_)
  refine x_goto 15 dm_120_126 rfl ?_
  exact im_lsub [(0, .inr (some 0)), (1, .inl y1), (2, .inl y2)] (im_sb_c rfl (im_sb_c rfl (im_sb_c rfl im_sb_n))) (hr15 y1 y2 b1)
def gn_120_80 (r15 : Int32 → Int32 → im_M → Option (Int32 × im_M)) (y1 : Int32) (y2 : Int32) (M : im_M) : Option (Int32 × im_M) :=
  (gn_116 (M 0 14) M).bind fun b1 => let v2 : Int32 := (y2 + (1 : Int32)); let M3 : im_M := im_u b1 0 15 ((b1 0 15) + (1 : Int32)); if (M3 0 15) = (3 : Int32) then (gn_120_122 r15 y1 v2 M3) else (if st_ib (M3 0 14) 3 then (if (M3 2 ((M3 0 14)).toNatClampNeg) = (1 : Int32) then (r15 y1 v2 M3) else (gn_120_122 r15 y1 v2 M3)) else none)
set_option maxRecDepth 100000 in
set_option maxHeartbeats 4000000 in
theorem tg_120_80 (r15 : Int32 → Int32 → im_M → Option (Int32 × im_M)) (hr15 : ∀ (y1 : Int32) (y2 : Int32) (M : im_M), im_Go zR_I 4 fm_120 15 [(0, .inr (some 0)), (1, .inl y1), (2, .inl y2)] [] (st_hR M) (r15 y1 y2 M)) (y1 : Int32) (y2 : Int32) (M : im_M) : im_Go zR_I 4 fm_120 80 [(0, .inr (some 0)), (1, .inl y1), (2, .inl y2)] [] (st_hR M) (gn_120_80 r15 y1 y2 M) := by
  unfold gn_120_80
  refine x_aload_n dm_120_80 rfl ?_
  refine x_aload_n dm_120_81 rfl ?_
  refine x_getI dm_120_82 fl_8_138 rfl rfl rfl ?_
  refine im_callRV mf_116 rfl (tg_116 _ M) (im_runV (as := [.inl _]) (rest := []) dm_120_85 mf_116 (Nat.le_of_ble_eq_true rfl) ml_8_166 mi_116 ms_116 mp_116 (Nat.le_of_ble_eq_true rfl) rfl rfl ⟨_, _, rfl⟩) rfl (fun b1 hb1 => ?_)
  refine x_iinc (1) dm_120_88 rfl (by decide) (Nat.le_of_ble_eq_true rfl) ?_
  refine x_aload_n dm_120_91 rfl ?_
  refine x_dup dm_120_92 ?_
  refine x_getI dm_120_93 fl_8_141 rfl rfl rfl ?_
  refine x_iconst (1) dm_120_96 (by decide) ?_
  refine x_iadd dm_120_97 ?_
  refine x_putIR dm_120_98 fl_8_141 rfl rfl rfl ?_
  refine x_aload_n dm_120_101 rfl ?_
  refine x_getI dm_120_102 fl_8_141 rfl rfl rfl ?_
  refine x_iconst (3) dm_120_105 (by decide) ?_
  refine x_icmp_eq 122 dm_120_106 rfl (fun c4 => ?_) (fun c4 => ?_)
  · exact im_lsub [(0, .inr (some 0)), (1, .inl y1), (2, .inl _)] (im_sb_c rfl (im_sb_c rfl (im_sb_c rfl im_sb_n))) (tg_120_122 r15 hr15 y1 _ _)
  · refine x_aload_n dm_120_109 rfl ?_
    refine x_getRC dm_120_110 fl_8_13 rfl rfl rfl rfl ?_
    refine x_aload_n dm_120_113 rfl ?_
    refine x_getI dm_120_114 fl_8_138 rfl rfl rfl ?_
    refine im_chk _ (fun hi5 => ?_)
    refine x_ialoadX _ rfl dm_120_117 rfl (mk_in rfl hi5) ?_
    refine x_iconst (1) dm_120_118 (by decide) ?_
    refine x_icmp_eq 15 dm_120_119 rfl (fun c6 => ?_) (fun c6 => ?_)
    · exact im_lsub [(0, .inr (some 0)), (1, .inl y1), (2, .inl _)] (im_sb_c rfl (im_sb_c rfl (im_sb_c rfl im_sb_n))) (hr15 y1 _ _)
    · exact im_lsub [(0, .inr (some 0)), (1, .inl y1), (2, .inl _)] (im_sb_c rfl (im_sb_c rfl (im_sb_c rfl im_sb_n))) (tg_120_122 r15 hr15 y1 _ _)
def gn_120_52 (r15 : Int32 → Int32 → im_M → Option (Int32 × im_M)) : Nat → Int32 → Int32 → Int32 → im_M → Option (Int32 × im_M)
  | 0, _, _, _, _ => none
  | n + 1, y1, y2, y3, M =>
    if (2 : Int32) ≤ y3 then (gn_120_80 r15 y1 y2 M) else (if st_ib (M 0 14) 3 then (if (M 2 ((M 0 14)).toNatClampNeg) = (1 : Int32) then (gn_120_80 r15 y1 y2 M) else ((gn_119 M).bind fun b4 => let v5 : Int32 := (y3 + (1 : Int32)); gn_120_52 r15 n y1 y2 v5 b4)) else none)
set_option maxRecDepth 100000 in
set_option maxHeartbeats 4000000 in
theorem tg_120_52 (r15 : Int32 → Int32 → im_M → Option (Int32 × im_M)) (hr15 : ∀ (y1 : Int32) (y2 : Int32) (M : im_M), im_Go zR_I 4 fm_120 15 [(0, .inr (some 0)), (1, .inl y1), (2, .inl y2)] [] (st_hR M) (r15 y1 y2 M)) : ∀ (n : Nat) (y1 : Int32) (y2 : Int32) (y3 : Int32) (M : im_M), im_Go zR_I 4 fm_120 52 [(0, .inr (some 0)), (1, .inl y1), (2, .inl y2), (3, .inl y3)] [] (st_hR M) (gn_120_52 r15 n y1 y2 y3 M)
  | 0, y1, y2, y3, M => im_none
  | n + 1, y1, y2, y3, M => by
    have ih := tg_120_52 r15 hr15 n
    unfold gn_120_52
    refine x_iload_n dm_120_52 rfl ?_
    refine x_iconst (2) dm_120_53 (by decide) ?_
    refine x_icmp_ge 80 dm_120_54 rfl (fun c1 => ?_) (fun c1 => ?_)
    · exact im_lsub [(0, .inr (some 0)), (1, .inl y1), (2, .inl y2)] (im_sb_c rfl (im_sb_c rfl (im_sb_c rfl im_sb_n))) (tg_120_80 r15 hr15 y1 y2 M)
    · refine x_aload_n dm_120_57 rfl ?_
      refine x_getRC dm_120_58 fl_8_13 rfl rfl rfl rfl ?_
      refine x_aload_n dm_120_61 rfl ?_
      refine x_getI dm_120_62 fl_8_138 rfl rfl rfl ?_
      refine im_chk _ (fun hi2 => ?_)
      refine x_ialoadX _ rfl dm_120_65 rfl (mk_in rfl hi2) ?_
      refine x_iconst (1) dm_120_66 (by decide) ?_
      refine x_icmp_eq 80 dm_120_67 rfl (fun c3 => ?_) (fun c3 => ?_)
      · exact im_lsub [(0, .inr (some 0)), (1, .inl y1), (2, .inl y2)] (im_sb_c rfl (im_sb_c rfl (im_sb_c rfl im_sb_n))) (tg_120_80 r15 hr15 y1 y2 M)
      · refine x_aload_n dm_120_70 rfl ?_
        refine im_callRV mf_119 rfl (tg_119 M) (im_runV (as := []) (rest := []) dm_120_71 mf_119 (Nat.le_of_ble_eq_true rfl) ml_8_163 mi_119 ms_119 mp_119 (Nat.le_of_ble_eq_true rfl) rfl rfl ⟨_, _, rfl⟩) rfl (fun b4 hb4 => ?_)
        refine x_iinc (1) dm_120_74 rfl (by decide) (Nat.le_of_ble_eq_true rfl) ?_
        refine x_goto 52 dm_120_77 rfl ?_
        exact im_lsub [(0, .inr (some 0)), (1, .inl y1), (2, .inl y2), (3, .inl _)] (im_sb_c rfl (im_sb_c rfl (im_sb_c rfl (im_sb_c rfl im_sb_n)))) (ih y1 y2 _ b4)
def gn_120_50 (r15 : Int32 → Int32 → im_M → Option (Int32 × im_M)) (y1 : Int32) (y2 : Int32) (M : im_M) : Option (Int32 × im_M) :=
  gn_120_52 r15 1000 y1 y2 (0 : Int32) M
set_option maxRecDepth 100000 in
set_option maxHeartbeats 4000000 in
theorem tg_120_50 (r15 : Int32 → Int32 → im_M → Option (Int32 × im_M)) (hr15 : ∀ (y1 : Int32) (y2 : Int32) (M : im_M), im_Go zR_I 4 fm_120 15 [(0, .inr (some 0)), (1, .inl y1), (2, .inl y2)] [] (st_hR M) (r15 y1 y2 M)) (y1 : Int32) (y2 : Int32) (M : im_M) : im_Go zR_I 4 fm_120 50 [(0, .inr (some 0)), (1, .inl y1), (2, .inl y2)] [] (st_hR M) (gn_120_50 r15 y1 y2 M) := by
  unfold gn_120_50
  refine x_iconst (0) dm_120_50 (by decide) ?_
  refine x_istore_n dm_120_51 (Nat.le_of_ble_eq_true rfl) ?_
  exact im_lsub [(0, .inr (some 0)), (1, .inl y1), (2, .inl y2), (3, .inl (0 : Int32))] (im_sb_c rfl (im_sb_c rfl (im_sb_c rfl (im_sb_c rfl im_sb_n)))) (tg_120_52 r15 hr15 1000 y1 y2 (0 : Int32) M)
def gn_120_15  : Nat → Int32 → Int32 → im_M → Option (Int32 × im_M)
  | 0, _, _, _ => none
  | n + 1, y1, y2, M =>
    if y1 ≤ y2 then (some (y2, M)) else (if (M 2 0) = (1 : Int32) then (gn_120_50 (gn_120_15 n) y1 y2 M) else (if (M 2 1) = (1 : Int32) then (gn_120_50 (gn_120_15 n) y1 y2 M) else (if (M 2 2) = (1 : Int32) then (gn_120_50 (gn_120_15 n) y1 y2 M) else (some (y2, M)))))
set_option maxRecDepth 100000 in
set_option maxHeartbeats 4000000 in
theorem tg_120_15  : ∀ (n : Nat) (y1 : Int32) (y2 : Int32) (M : im_M), im_Go zR_I 4 fm_120 15 [(0, .inr (some 0)), (1, .inl y1), (2, .inl y2)] [] (st_hR M) (gn_120_15  n y1 y2 M)
  | 0, y1, y2, M => im_none
  | n + 1, y1, y2, M => by
    have ih := tg_120_15  n
    unfold gn_120_15
    refine x_iload_n dm_120_15 rfl ?_
    refine x_iload_n dm_120_16 rfl ?_
    refine x_icmp_ge 129 dm_120_17 rfl (fun c1 => ?_) (fun c1 => ?_)
    · refine x_iload_n dm_120_129 rfl ?_
      exact x_iretR dm_120_130 rfl
    · refine x_aload_n dm_120_20 rfl ?_
      refine x_getRC dm_120_21 fl_8_13 rfl rfl rfl rfl ?_
      refine x_iconst (0) dm_120_24 (by decide) ?_
      refine x_ialoadX 0 (by decide) dm_120_25 rfl (mk_in rfl (by decide)) ?_
      refine x_iconst (1) dm_120_26 (by decide) ?_
      refine x_icmp_eq 50 dm_120_27 rfl (fun c2 => ?_) (fun c2 => ?_)
      · exact im_lsub [(0, .inr (some 0)), (1, .inl y1), (2, .inl y2)] (im_sb_c rfl (im_sb_c rfl (im_sb_c rfl im_sb_n))) (tg_120_50 (gn_120_15 n) ih y1 y2 M)
      · refine x_aload_n dm_120_30 rfl ?_
        refine x_getRC dm_120_31 fl_8_13 rfl rfl rfl rfl ?_
        refine x_iconst (1) dm_120_34 (by decide) ?_
        refine x_ialoadX 1 (by decide) dm_120_35 rfl (mk_in rfl (by decide)) ?_
        refine x_iconst (1) dm_120_36 (by decide) ?_
        refine x_icmp_eq 50 dm_120_37 rfl (fun c3 => ?_) (fun c3 => ?_)
        · exact im_lsub [(0, .inr (some 0)), (1, .inl y1), (2, .inl y2)] (im_sb_c rfl (im_sb_c rfl (im_sb_c rfl im_sb_n))) (tg_120_50 (gn_120_15 n) ih y1 y2 M)
        · refine x_aload_n dm_120_40 rfl ?_
          refine x_getRC dm_120_41 fl_8_13 rfl rfl rfl rfl ?_
          refine x_iconst (2) dm_120_44 (by decide) ?_
          refine x_ialoadX 2 (by decide) dm_120_45 rfl (mk_in rfl (by decide)) ?_
          refine x_iconst (1) dm_120_46 (by decide) ?_
          refine x_icmp_ne 129 dm_120_47 rfl (fun c4 => ?_) (fun c4 => ?_)
          · exact im_lsub [(0, .inr (some 0)), (1, .inl y1), (2, .inl y2)] (im_sb_c rfl (im_sb_c rfl (im_sb_c rfl im_sb_n))) (tg_120_50 (gn_120_15 n) ih y1 y2 M)
          · refine x_iload_n dm_120_129 rfl ?_
            exact x_iretR dm_120_130 rfl
/-- FencedModulesModel.run(I)I -/
def gn_120 (x1 : Int32) (M : im_M) : Option (Int32 × im_M) :=
  (gn_92 x1 (0 : Int32) (500 : Int32) M).bind fun b1 => if b1.1 = 0 then (some ((-1 : Int32), b1.2)) else (gn_120_15 1000 x1 (0 : Int32) b1.2)
set_option maxRecDepth 100000 in
set_option maxHeartbeats 4000000 in
theorem tg_120 (x1 : Int32) (M : im_M) : im_Go zR_I 4 fm_120 0 (im_en 0 [.inr (some 0), .inl x1]) [] (st_hR M) (gn_120 x1 M) := by
  unfold gn_120
  refine x_iload_n dm_120_0 rfl ?_
  refine x_iconst (0) dm_120_1 (by decide) ?_
  refine x_sipush (500) dm_120_2 (by decide) ?_
  refine im_callRI mf_92 rfl (tg_92 x1 (0 : Int32) (500 : Int32) M) (im_runS (as := [.inl x1, .inl (0 : Int32), .inl (500 : Int32)]) (rest := []) dm_120_5 mf_92 (Nat.le_of_ble_eq_true rfl) ml_8_83 mi_92 mp_92 (Nat.le_of_ble_eq_true rfl)) rfl (fun b1 hb1 => ?_)
  refine x_if_ne 13 dm_120_8 rfl (fun c2 => ?_) (fun c2 => ?_)
  · refine x_iconst (-1) dm_120_11 (by decide) ?_
    exact x_iretR dm_120_12 rfl
  · refine x_iconst (0) dm_120_13 (by decide) ?_
    refine x_istore_n dm_120_14 (Nat.le_of_ble_eq_true rfl) ?_
    exact im_lsub [(0, .inr (some 0)), (1, .inl x1), (2, .inl (0 : Int32))] (im_sb_c rfl (im_sb_c rfl (im_sb_c rfl im_sb_n))) (tg_120_15 1000 x1 (0 : Int32) b1.2)
def gn_123_75  : Nat → Int32 → Int32 → Int32 → Int32 → im_M → Option (Int32 × im_M)
  | 0, _, _, _, _, _ => none
  | n + 1, y1, y2, y3, y4, M =>
    if y2 ≤ y4 then (some (y3, M)) else (if y3 = 0 then ((gn_124 y1 M).bind fun b3 => let v4 : Int32 := (y4 + (1 : Int32)); gn_123_75 n y1 y2 b3.1 v4 b3.2) else (some (y3, M)))
set_option maxRecDepth 100000 in
set_option maxHeartbeats 4000000 in
theorem tg_123_75  : ∀ (n : Nat) (y1 : Int32) (y2 : Int32) (y3 : Int32) (y4 : Int32) (M : im_M), im_Go zR_I 4 fm_123 75 [(0, .inr (some 0)), (1, .inl y1), (2, .inl y2), (3, .inl y3), (4, .inl y4)] [] (st_hR M) (gn_123_75  n y1 y2 y3 y4 M)
  | 0, y1, y2, y3, y4, M => im_none
  | n + 1, y1, y2, y3, y4, M => by
    have ih := tg_123_75  n
    unfold gn_123_75
    refine x_iload dm_123_75 rfl ?_
    refine x_iload_n dm_123_77 rfl ?_
    refine x_icmp_ge 97 dm_123_78 rfl (fun c1 => ?_) (fun c1 => ?_)
    · refine x_iload_n dm_123_97 rfl ?_
      exact x_iretR dm_123_98 rfl
    · refine x_iload_n dm_123_81 rfl ?_
      refine x_if_ne 97 dm_123_82 rfl (fun c2 => ?_) (fun c2 => ?_)
      · refine x_aload_n dm_123_85 rfl ?_
        refine x_iload_n dm_123_86 rfl ?_
        refine im_callRI mf_124 rfl (tg_124 y1 M) (im_runV (as := [.inl y1]) (rest := []) dm_123_87 mf_124 (Nat.le_of_ble_eq_true rfl) ml_8_185 mi_124 ms_124 mp_124 (Nat.le_of_ble_eq_true rfl) rfl rfl ⟨_, _, rfl⟩) rfl (fun b3 hb3 => ?_)
        refine x_istore_n dm_123_90 (Nat.le_of_ble_eq_true rfl) ?_
        refine x_iinc (1) dm_123_91 rfl (by decide) (Nat.le_of_ble_eq_true rfl) ?_
        refine x_goto 75 dm_123_94 rfl ?_
        exact im_lsub [(0, .inr (some 0)), (1, .inl y1), (2, .inl y2), (3, .inl b3.1), (4, .inl _)] (im_sb_c rfl (im_sb_c rfl (im_sb_c rfl (im_sb_c rfl (im_sb_c rfl im_sb_n))))) (ih y1 y2 b3.1 _ b3.2)
      · refine x_iload_n dm_123_97 rfl ?_
        exact x_iretR dm_123_98 rfl
def gn_123_31  : Nat → Int32 → Int32 → Int32 → im_M → Option (Int32 × im_M)
  | 0, _, _, _, _ => none
  | n + 1, y1, y2, y3, M =>
    if (24 : Int32) ≤ y3 then (let M2 : im_M := im_u M 0 27 (0 : Int32); let M3 : im_M := im_u M2 0 28 (0 : Int32); let M4 : im_M := im_u M3 0 29 (0 : Int32); let M5 : im_M := im_u M4 0 30 (0 : Int32); gn_123_75 1000 y1 y2 (0 : Int32) (0 : Int32) M5) else ((gn_122 y3 (0 : Int32) (0 : Int32) M).bind fun b6 => let v7 : Int32 := (y3 + (1 : Int32)); gn_123_31 n y1 y2 v7 b6)
set_option maxRecDepth 100000 in
set_option maxHeartbeats 4000000 in
theorem tg_123_31  : ∀ (n : Nat) (y1 : Int32) (y2 : Int32) (y3 : Int32) (M : im_M), im_Go zR_I 4 fm_123 31 [(0, .inr (some 0)), (1, .inl y1), (2, .inl y2), (3, .inl y3)] [] (st_hR M) (gn_123_31  n y1 y2 y3 M)
  | 0, y1, y2, y3, M => im_none
  | n + 1, y1, y2, y3, M => by
    have ih := tg_123_31  n
    unfold gn_123_31
    refine x_iload_n dm_123_31 rfl ?_
    refine x_bipush (24) dm_123_32 (by decide) ?_
    refine x_icmp_ge 50 dm_123_34 rfl (fun c1 => ?_) (fun c1 => ?_)
    · refine x_aload_n dm_123_50 rfl ?_
      refine x_iconst (0) dm_123_51 (by decide) ?_
      refine x_putIR dm_123_52 fl_8_173 rfl rfl rfl ?_
      refine x_aload_n dm_123_55 rfl ?_
      refine x_iconst (0) dm_123_56 (by decide) ?_
      refine x_putIR dm_123_57 fl_8_176 rfl rfl rfl ?_
      refine x_aload_n dm_123_60 rfl ?_
      refine x_iconst (0) dm_123_61 (by decide) ?_
      refine x_putIR dm_123_62 fl_8_179 rfl rfl rfl ?_
      refine x_aload_n dm_123_65 rfl ?_
      refine x_iconst (0) dm_123_66 (by decide) ?_
      refine x_putIR dm_123_67 fl_8_182 rfl rfl rfl ?_
      refine x_iconst (0) dm_123_70 (by decide) ?_
      refine x_istore_n dm_123_71 (Nat.le_of_ble_eq_true rfl) ?_
      refine x_iconst (0) dm_123_72 (by decide) ?_
      refine x_istore dm_123_73 (Nat.le_of_ble_eq_true rfl) ?_
      exact im_lsub [(0, .inr (some 0)), (1, .inl y1), (2, .inl y2), (3, .inl (0 : Int32)), (4, .inl (0 : Int32))] (im_sb_c rfl (im_sb_c rfl (im_sb_c rfl (im_sb_c rfl (im_sb_c rfl im_sb_n))))) (tg_123_75 1000 y1 y2 (0 : Int32) (0 : Int32) _)
    · refine x_aload_n dm_123_37 rfl ?_
      refine x_iload_n dm_123_38 rfl ?_
      refine x_iconst (0) dm_123_39 (by decide) ?_
      refine x_iconst (0) dm_123_40 (by decide) ?_
      refine im_callRV mf_122 rfl (tg_122 y3 (0 : Int32) (0 : Int32) M) (im_runV (as := [.inl y3, .inl (0 : Int32), .inl (0 : Int32)]) (rest := []) dm_123_41 mf_122 (Nat.le_of_ble_eq_true rfl) ml_8_169 mi_122 ms_122 mp_122 (Nat.le_of_ble_eq_true rfl) rfl rfl ⟨_, _, rfl⟩) rfl (fun b6 hb6 => ?_)
      refine x_iinc (1) dm_123_44 rfl (by decide) (Nat.le_of_ble_eq_true rfl) ?_
      refine x_goto 31 dm_123_47 rfl ?_
      exact im_lsub [(0, .inr (some 0)), (1, .inl y1), (2, .inl y2), (3, .inl _)] (im_sb_c rfl (im_sb_c rfl (im_sb_c rfl (im_sb_c rfl im_sb_n)))) (ih y1 y2 _ b6)
/-- FencedModulesModel.follow(II)I -/
def gn_123 (x1 : Int32) (x2 : Int32) (M : im_M) : Option (Int32 × im_M) :=
  (gn_92 x2 (0 : Int32) (300 : Int32) M).bind fun b1 => if b1.1 = 0 then (some ((-1 : Int32), b1.2)) else ((gn_92 x1 (0 : Int32) (2 : Int32) b1.2).bind fun b3 => if b3.1 = 0 then (some ((-1 : Int32), b3.2)) else ((gn_98 b3.2).bind fun b5 => if b5.1 = 0 then (some ((-1 : Int32), b5.2)) else (gn_123_31 1000 x1 x2 (0 : Int32) b5.2)))
set_option maxRecDepth 100000 in
set_option maxHeartbeats 4000000 in
theorem tg_123 (x1 : Int32) (x2 : Int32) (M : im_M) : im_Go zR_I 4 fm_123 0 (im_en 0 [.inr (some 0), .inl x1, .inl x2]) [] (st_hR M) (gn_123 x1 x2 M) := by
  unfold gn_123
  refine x_iload_n dm_123_0 rfl ?_
  refine x_iconst (0) dm_123_1 (by decide) ?_
  refine x_sipush (300) dm_123_2 (by decide) ?_
  refine im_callRI mf_92 rfl (tg_92 x2 (0 : Int32) (300 : Int32) M) (im_runS (as := [.inl x2, .inl (0 : Int32), .inl (300 : Int32)]) (rest := []) dm_123_5 mf_92 (Nat.le_of_ble_eq_true rfl) ml_8_83 mi_92 mp_92 (Nat.le_of_ble_eq_true rfl)) rfl (fun b1 hb1 => ?_)
  refine x_if_eq 27 dm_123_8 rfl (fun c2 => ?_) (fun c2 => ?_)
  · refine x_iconst (-1) dm_123_27 (by decide) ?_
    exact x_iretR dm_123_28 rfl
  · refine x_iload_n dm_123_11 rfl ?_
    refine x_iconst (0) dm_123_12 (by decide) ?_
    refine x_iconst (2) dm_123_13 (by decide) ?_
    refine im_callRI mf_92 rfl (tg_92 x1 (0 : Int32) (2 : Int32) b1.2) (im_runS (as := [.inl x1, .inl (0 : Int32), .inl (2 : Int32)]) (rest := []) dm_123_14 mf_92 (Nat.le_of_ble_eq_true rfl) ml_8_83 mi_92 mp_92 (Nat.le_of_ble_eq_true rfl)) rfl (fun b3 hb3 => ?_)
    refine x_if_eq 27 dm_123_17 rfl (fun c4 => ?_) (fun c4 => ?_)
    · refine x_iconst (-1) dm_123_27 (by decide) ?_
      exact x_iretR dm_123_28 rfl
    · refine x_aload_n dm_123_20 rfl ?_
      refine im_callRI mf_98 rfl (tg_98 b3.2) (im_runV (as := []) (rest := []) dm_123_21 mf_98 (Nat.le_of_ble_eq_true rfl) ml_8_104 mi_98 ms_98 mp_98 (Nat.le_of_ble_eq_true rfl) rfl rfl ⟨_, _, rfl⟩) rfl (fun b5 hb5 => ?_)
      refine x_if_ne 29 dm_123_24 rfl (fun c6 => ?_) (fun c6 => ?_)
      · refine x_iconst (-1) dm_123_27 (by decide) ?_
        exact x_iretR dm_123_28 rfl
      · refine x_iconst (0) dm_123_29 (by decide) ?_
        refine x_istore_n dm_123_30 (Nat.le_of_ble_eq_true rfl) ?_
        exact im_lsub [(0, .inr (some 0)), (1, .inl x1), (2, .inl x2), (3, .inl (0 : Int32))] (im_sb_c rfl (im_sb_c rfl (im_sb_c rfl (im_sb_c rfl im_sb_n)))) (tg_123_31 1000 x1 x2 (0 : Int32) b5.2)
def gn_110_52 (r15 : Int32 → Int32 → im_M → Option (Int32 × im_M)) (y1 : Int32) (y3 : Int32) (s0 : Int32) (s1 : Int32) (M : im_M) : Option (Int32 × im_M) :=
  if st_ib s1 256 then (let M2 : im_M := im_u M 1 (s1).toNatClampNeg s0; let v3 : Int32 := (y3 + (1 : Int32)); r15 y1 v3 M2) else none
set_option maxRecDepth 100000 in
set_option maxHeartbeats 4000000 in
theorem tg_110_52 (r15 : Int32 → Int32 → im_M → Option (Int32 × im_M)) (hr15 : ∀ (y1 : Int32) (y3 : Int32) (M : im_M), im_Go zR_I 5 fm_110 15 [(0, .inr (some 0)), (1, .inl y1), (3, .inl y3)] [] (st_hR M) (r15 y1 y3 M)) (y1 : Int32) (y3 : Int32) (s0 : Int32) (s1 : Int32) (M : im_M) : im_Go zR_I 5 fm_110 52 [(0, .inr (some 0)), (1, .inl y1), (3, .inl y3)] [.inl s0, .inl s1, .inr (some 1)] (st_hR M) (gn_110_52 r15 y1 y3 s0 s1 M) := by
  unfold gn_110_52
  refine im_chk _ (fun hi1 => ?_)
  refine x_iastoreR _ rfl dm_110_52 rfl (mk_in rfl hi1) ?_
  refine x_iinc (1) dm_110_53 rfl (by decide) (Nat.le_of_ble_eq_true rfl) ?_
  refine x_goto 15 dm_110_56 rfl ?_
  exact im_lsub [(0, .inr (some 0)), (1, .inl y1), (3, .inl _)] (im_sb_c rfl (im_sb_c rfl (im_sb_c rfl im_sb_n))) (hr15 y1 _ _)
def gn_110_133 (r87 : Int32 → Int32 → im_M → Option (Int32 × im_M)) (y1 : Int32) (y3 : Int32) (s0 : Int32) (s1 : Int32) (M : im_M) : Option (Int32 × im_M) :=
  if st_ib s1 24 then (let M2 : im_M := im_u M 3 (s1).toNatClampNeg s0; let v3 : Int32 := (y3 + (1 : Int32)); r87 y1 v3 M2) else none
set_option maxRecDepth 100000 in
set_option maxHeartbeats 4000000 in
theorem tg_110_133 (r87 : Int32 → Int32 → im_M → Option (Int32 × im_M)) (hr87 : ∀ (y1 : Int32) (y3 : Int32) (M : im_M), im_Go zR_I 5 fm_110 87 [(0, .inr (some 0)), (1, .inl y1), (3, .inl y3)] [] (st_hR M) (r87 y1 y3 M)) (y1 : Int32) (y3 : Int32) (s0 : Int32) (s1 : Int32) (M : im_M) : im_Go zR_I 5 fm_110 133 [(0, .inr (some 0)), (1, .inl y1), (3, .inl y3)] [.inl s0, .inl s1, .inr (some 3)] (st_hR M) (gn_110_133 r87 y1 y3 s0 s1 M) := by
  unfold gn_110_133
  refine im_chk _ (fun hi1 => ?_)
  refine x_iastoreR _ rfl dm_110_133 rfl (mk_in rfl hi1) ?_
  refine x_iinc (1) dm_110_134 rfl (by decide) (Nat.le_of_ble_eq_true rfl) ?_
  refine x_goto 87 dm_110_137 rfl ?_
  exact im_lsub [(0, .inr (some 0)), (1, .inl y1), (3, .inl _)] (im_sb_c rfl (im_sb_c rfl (im_sb_c rfl im_sb_n))) (hr87 y1 _ _)
def gn_110_219 (s0 : Int32) (M : im_M) : Option (Int32 × im_M) :=
  let M1 : im_M := im_u M 0 15 s0; some ((1 : Int32), M1)
set_option maxRecDepth 100000 in
set_option maxHeartbeats 4000000 in
theorem tg_110_219 (s0 : Int32) (M : im_M) : im_Go zR_I 5 fm_110 219 [] [.inl s0, .inr (some 0)] (st_hR M) (gn_110_219 s0 M) := by
  unfold gn_110_219
  refine x_putIR dm_110_219 fl_8_141 rfl rfl rfl ?_
  refine x_iconst (1) dm_110_222 (by decide) ?_
  exact x_zretR dm_110_223 rfl (by decide)
def gn_110_87  : Nat → Int32 → Int32 → im_M → Option (Int32 × im_M)
  | 0, _, _, _ => none
  | n + 1, y1, y3, M =>
    if (8 : Int32) ≤ y3 then (if st_ib y1 3 then (let M3 : im_M := im_u M 4 (y1).toNatClampNeg ((64 : Int32) + ((32 : Int32) * y1)); if st_ib y1 3 then (let M5 : im_M := im_u M3 5 (y1).toNatClampNeg (0 : Int32); if st_ib y1 3 then (let M7 : im_M := im_u M5 7 (y1).toNatClampNeg (0 : Int32); if st_ib y1 3 then (let M9 : im_M := im_u M7 9 (y1).toNatClampNeg (0 : Int32); if st_ib y1 3 then (let M11 : im_M := im_u M9 10 (y1).toNatClampNeg (0 : Int32); if st_ib y1 3 then (let M13 : im_M := im_u M11 12 (y1).toNatClampNeg (0 : Int32); if st_ib y1 3 then (let M15 : im_M := im_u M13 13 (y1).toNatClampNeg (0 : Int32); if st_ib y1 3 then (let M17 : im_M := im_u M15 2 (y1).toNatClampNeg (1 : Int32); if (M17 0 14) = y1 then (gn_110_219 (0 : Int32) M17) else (gn_110_219 (M17 0 15) M17)) else none) else none) else none) else none) else none) else none) else none) else none) else (if y3 = (6 : Int32) then (gn_110_133 (gn_110_87 n) y1 y3 ((16 : Int32) * y1) (((8 : Int32) * y1) + y3) M) else (if y3 = (7 : Int32) then (gn_110_133 (gn_110_87 n) y1 y3 ((64 : Int32) + ((32 : Int32) * y1)) (((8 : Int32) * y1) + y3) M) else (gn_110_133 (gn_110_87 n) y1 y3 (0 : Int32) (((8 : Int32) * y1) + y3) M)))
set_option maxRecDepth 100000 in
set_option maxHeartbeats 4000000 in
theorem tg_110_87  : ∀ (n : Nat) (y1 : Int32) (y3 : Int32) (M : im_M), im_Go zR_I 5 fm_110 87 [(0, .inr (some 0)), (1, .inl y1), (3, .inl y3)] [] (st_hR M) (gn_110_87  n y1 y3 M)
  | 0, y1, y3, M => im_none
  | n + 1, y1, y3, M => by
    have ih := tg_110_87  n
    unfold gn_110_87
    refine x_iload_n dm_110_87 rfl ?_
    refine x_bipush (8) dm_110_88 (by decide) ?_
    refine x_icmp_ge 140 dm_110_90 rfl (fun c1 => ?_) (fun c1 => ?_)
    · refine x_aload_n dm_110_140 rfl ?_
      refine x_getRC dm_110_141 fl_8_19 rfl rfl rfl rfl ?_
      refine x_iload_n dm_110_144 rfl ?_
      refine x_bipush (64) dm_110_145 (by decide) ?_
      refine x_bipush (32) dm_110_147 (by decide) ?_
      refine x_iload_n dm_110_149 rfl ?_
      refine x_imul dm_110_150 ?_
      refine x_iadd dm_110_151 ?_
      refine im_chk _ (fun hi2 => ?_)
      refine x_iastoreR _ rfl dm_110_152 rfl (mk_in rfl hi2) ?_
      refine x_aload_n dm_110_153 rfl ?_
      refine x_getRC dm_110_154 fl_8_22 rfl rfl rfl rfl ?_
      refine x_iload_n dm_110_157 rfl ?_
      refine x_iconst (0) dm_110_158 (by decide) ?_
      refine im_chk _ (fun hi4 => ?_)
      refine x_iastoreR _ rfl dm_110_159 rfl (mk_in rfl hi4) ?_
      refine x_aload_n dm_110_160 rfl ?_
      refine x_getRC dm_110_161 fl_8_28 rfl rfl rfl rfl ?_
      refine x_iload_n dm_110_164 rfl ?_
      refine x_iconst (0) dm_110_165 (by decide) ?_
      refine im_chk _ (fun hi6 => ?_)
      refine x_iastoreR _ rfl dm_110_166 rfl (mk_in rfl hi6) ?_
      refine x_aload_n dm_110_167 rfl ?_
      refine x_getRC dm_110_168 fl_8_34 rfl rfl rfl rfl ?_
      refine x_iload_n dm_110_171 rfl ?_
      refine x_iconst (0) dm_110_172 (by decide) ?_
      refine im_chk _ (fun hi8 => ?_)
      refine x_iastoreR _ rfl dm_110_173 rfl (mk_in rfl hi8) ?_
      refine x_aload_n dm_110_174 rfl ?_
      refine x_getRC dm_110_175 fl_8_37 rfl rfl rfl rfl ?_
      refine x_iload_n dm_110_178 rfl ?_
      refine x_iconst (0) dm_110_179 (by decide) ?_
      refine im_chk _ (fun hi10 => ?_)
      refine x_iastoreR _ rfl dm_110_180 rfl (mk_in rfl hi10) ?_
      refine x_aload_n dm_110_181 rfl ?_
      refine x_getRC dm_110_182 fl_8_43 rfl rfl rfl rfl ?_
      refine x_iload_n dm_110_185 rfl ?_
      refine x_iconst (0) dm_110_186 (by decide) ?_
      refine im_chk _ (fun hi12 => ?_)
      refine x_iastoreR _ rfl dm_110_187 rfl (mk_in rfl hi12) ?_
      refine x_aload_n dm_110_188 rfl ?_
      refine x_getRC dm_110_189 fl_8_46 rfl rfl rfl rfl ?_
      refine x_iload_n dm_110_192 rfl ?_
      refine x_iconst (0) dm_110_193 (by decide) ?_
      refine im_chk _ (fun hi14 => ?_)
      refine x_iastoreR _ rfl dm_110_194 rfl (mk_in rfl hi14) ?_
      refine x_aload_n dm_110_195 rfl ?_
      refine x_getRC dm_110_196 fl_8_13 rfl rfl rfl rfl ?_
      refine x_iload_n dm_110_199 rfl ?_
      refine x_iconst (1) dm_110_200 (by decide) ?_
      refine im_chk _ (fun hi16 => ?_)
      refine x_iastoreR _ rfl dm_110_201 rfl (mk_in rfl hi16) ?_
      refine x_aload_n dm_110_202 rfl ?_
      refine x_aload_n dm_110_203 rfl ?_
      refine x_getI dm_110_204 fl_8_138 rfl rfl rfl ?_
      refine x_iload_n dm_110_207 rfl ?_
      refine x_icmp_ne 215 dm_110_208 rfl (fun c18 => ?_) (fun c18 => ?_)
      · refine x_iconst (0) dm_110_211 (by decide) ?_
        refine x_goto 219 dm_110_212 rfl ?_
        exact im_lsub [] im_sb_n (tg_110_219 (0 : Int32) _)
      · refine x_aload_n dm_110_215 rfl ?_
        refine x_getI dm_110_216 fl_8_141 rfl rfl rfl ?_
        exact im_lsub [] im_sb_n (tg_110_219 _ _)
    · refine x_aload_n dm_110_93 rfl ?_
      refine x_getRC dm_110_94 fl_8_16 rfl rfl rfl rfl ?_
      refine x_bipush (8) dm_110_97 (by decide) ?_
      refine x_iload_n dm_110_99 rfl ?_
      refine x_imul dm_110_100 ?_
      refine x_iload_n dm_110_101 rfl ?_
      refine x_iadd dm_110_102 ?_
      refine x_iload_n dm_110_103 rfl ?_
      refine x_bipush (6) dm_110_104 (by decide) ?_
      refine x_icmp_ne 116 dm_110_106 rfl (fun c19 => ?_) (fun c19 => ?_)
      · refine x_bipush (16) dm_110_109 (by decide) ?_
        refine x_iload_n dm_110_111 rfl ?_
        refine x_imul dm_110_112 ?_
        refine x_goto 133 dm_110_113 rfl ?_
        exact im_lsub [(0, .inr (some 0)), (1, .inl y1), (3, .inl y3)] (im_sb_c rfl (im_sb_c rfl (im_sb_c rfl im_sb_n))) (tg_110_133 (gn_110_87 n) ih y1 y3 _ _ M)
      · refine x_iload_n dm_110_116 rfl ?_
        refine x_bipush (7) dm_110_117 (by decide) ?_
        refine x_icmp_ne 132 dm_110_119 rfl (fun c20 => ?_) (fun c20 => ?_)
        · refine x_bipush (64) dm_110_122 (by decide) ?_
          refine x_bipush (32) dm_110_124 (by decide) ?_
          refine x_iload_n dm_110_126 rfl ?_
          refine x_imul dm_110_127 ?_
          refine x_iadd dm_110_128 ?_
          refine x_goto 133 dm_110_129 rfl ?_
          exact im_lsub [(0, .inr (some 0)), (1, .inl y1), (3, .inl y3)] (im_sb_c rfl (im_sb_c rfl (im_sb_c rfl im_sb_n))) (tg_110_133 (gn_110_87 n) ih y1 y3 _ _ M)
        · refine x_iconst (0) dm_110_132 (by decide) ?_
          exact im_lsub [(0, .inr (some 0)), (1, .inl y1), (3, .inl y3)] (im_sb_c rfl (im_sb_c rfl (im_sb_c rfl im_sb_n))) (tg_110_133 (gn_110_87 n) ih y1 y3 (0 : Int32) _ M)
def gn_110_61  : Nat → Int32 → Int32 → im_M → Option (Int32 × im_M)
  | 0, _, _, _ => none
  | n + 1, y1, y3, M =>
    if (16 : Int32) ≤ y3 then (gn_110_87 1000 y1 (0 : Int32) M) else (if st_ib (((16 : Int32) * y1) + y3) 256 then (let M3 : im_M := im_u M 1 ((((16 : Int32) * y1) + y3)).toNatClampNeg (0 : Int32); let v4 : Int32 := (y3 + (1 : Int32)); gn_110_61 n y1 v4 M3) else none)
set_option maxRecDepth 100000 in
set_option maxHeartbeats 4000000 in
theorem tg_110_61  : ∀ (n : Nat) (y1 : Int32) (y3 : Int32) (M : im_M), im_Go zR_I 5 fm_110 61 [(0, .inr (some 0)), (1, .inl y1), (3, .inl y3)] [] (st_hR M) (gn_110_61  n y1 y3 M)
  | 0, y1, y3, M => im_none
  | n + 1, y1, y3, M => by
    have ih := tg_110_61  n
    unfold gn_110_61
    refine x_iload_n dm_110_61 rfl ?_
    refine x_bipush (16) dm_110_62 (by decide) ?_
    refine x_icmp_ge 85 dm_110_64 rfl (fun c1 => ?_) (fun c1 => ?_)
    · refine x_iconst (0) dm_110_85 (by decide) ?_
      refine x_istore_n dm_110_86 (Nat.le_of_ble_eq_true rfl) ?_
      exact im_lsub [(0, .inr (some 0)), (1, .inl y1), (3, .inl (0 : Int32))] (im_sb_c rfl (im_sb_c rfl (im_sb_c rfl im_sb_n))) (tg_110_87 1000 y1 (0 : Int32) M)
    · refine x_aload_n dm_110_67 rfl ?_
      refine x_getRC dm_110_68 fl_8_7 rfl rfl rfl rfl ?_
      refine x_bipush (16) dm_110_71 (by decide) ?_
      refine x_iload_n dm_110_73 rfl ?_
      refine x_imul dm_110_74 ?_
      refine x_iload_n dm_110_75 rfl ?_
      refine x_iadd dm_110_76 ?_
      refine x_iconst (0) dm_110_77 (by decide) ?_
      refine im_chk _ (fun hi2 => ?_)
      refine x_iastoreR _ rfl dm_110_78 rfl (mk_in rfl hi2) ?_
      refine x_iinc (1) dm_110_79 rfl (by decide) (Nat.le_of_ble_eq_true rfl) ?_
      refine x_goto 61 dm_110_82 rfl ?_
      exact im_lsub [(0, .inr (some 0)), (1, .inl y1), (3, .inl _)] (im_sb_c rfl (im_sb_c rfl (im_sb_c rfl im_sb_n))) (ih y1 _ _)
def gn_110_15  : Nat → Int32 → Int32 → im_M → Option (Int32 × im_M)
  | 0, _, _, _ => none
  | n + 1, y1, y3, M =>
    if (32 : Int32) ≤ y3 then (gn_110_61 1000 y1 (0 : Int32) M) else (if (M 0 23) ≤ y3 then (gn_110_52 (gn_110_15 n) y1 y3 (0 : Int32) (((64 : Int32) + ((32 : Int32) * y1)) + y3) M) else (if st_ib y3 31 then (gn_110_52 (gn_110_15 n) y1 y3 (M 21 (y3).toNatClampNeg) (((64 : Int32) + ((32 : Int32) * y1)) + y3) M) else none))
set_option maxRecDepth 100000 in
set_option maxHeartbeats 4000000 in
theorem tg_110_15  : ∀ (n : Nat) (y1 : Int32) (y3 : Int32) (M : im_M), im_Go zR_I 5 fm_110 15 [(0, .inr (some 0)), (1, .inl y1), (3, .inl y3)] [] (st_hR M) (gn_110_15  n y1 y3 M)
  | 0, y1, y3, M => im_none
  | n + 1, y1, y3, M => by
    have ih := tg_110_15  n
    unfold gn_110_15
    refine x_iload_n dm_110_15 rfl ?_
    refine x_bipush (32) dm_110_16 (by decide) ?_
    refine x_icmp_ge 59 dm_110_18 rfl (fun c1 => ?_) (fun c1 => ?_)
    · refine x_iconst (0) dm_110_59 (by decide) ?_
      refine x_istore_n dm_110_60 (Nat.le_of_ble_eq_true rfl) ?_
      exact im_lsub [(0, .inr (some 0)), (1, .inl y1), (3, .inl (0 : Int32))] (im_sb_c rfl (im_sb_c rfl (im_sb_c rfl im_sb_n))) (tg_110_61 1000 y1 (0 : Int32) M)
    · refine x_aload_n dm_110_21 rfl ?_
      refine x_getRC dm_110_22 fl_8_7 rfl rfl rfl rfl ?_
      refine x_bipush (64) dm_110_25 (by decide) ?_
      refine x_bipush (32) dm_110_27 (by decide) ?_
      refine x_iload_n dm_110_29 rfl ?_
      refine x_imul dm_110_30 ?_
      refine x_iadd dm_110_31 ?_
      refine x_iload_n dm_110_32 rfl ?_
      refine x_iadd dm_110_33 ?_
      refine x_iload_n dm_110_34 rfl ?_
      refine x_aload_n dm_110_35 rfl ?_
      refine x_getI dm_110_36 fl_8_93 rfl rfl rfl ?_
      refine x_icmp_ge 51 dm_110_39 rfl (fun c2 => ?_) (fun c2 => ?_)
      · refine x_iconst (0) dm_110_51 (by decide) ?_
        exact im_lsub [(0, .inr (some 0)), (1, .inl y1), (3, .inl y3)] (im_sb_c rfl (im_sb_c rfl (im_sb_c rfl im_sb_n))) (tg_110_52 (gn_110_15 n) ih y1 y3 (0 : Int32) _ M)
      · refine x_aload_n dm_110_42 rfl ?_
        refine x_getRC dm_110_43 fl_8_71 rfl rfl rfl rfl ?_
        refine x_iload_n dm_110_46 rfl ?_
        refine im_chk _ (fun hi3 => ?_)
        refine x_ialoadX _ rfl dm_110_47 rfl (mk_in rfl hi3) ?_
        refine x_goto 52 dm_110_48 rfl ?_
        exact im_lsub [(0, .inr (some 0)), (1, .inl y1), (3, .inl y3)] (im_sb_c rfl (im_sb_c rfl (im_sb_c rfl im_sb_n))) (tg_110_52 (gn_110_15 n) ih y1 y3 _ _ M)
/-- FencedModulesModel.load(I)Z -/
def gn_110 (x1 : Int32) (M : im_M) : Option (Int32 × im_M) :=
  (gn_109 x1 M).bind fun b1 => if b1.1 = (-1 : Int32) then (gn_110_15 1000 x1 (0 : Int32) b1.2) else (some ((0 : Int32), b1.2))
set_option maxRecDepth 100000 in
set_option maxHeartbeats 4000000 in
theorem tg_110 (x1 : Int32) (M : im_M) : im_Go zR_I 5 fm_110 0 (im_en 0 [.inr (some 0), .inl x1]) [] (st_hR M) (gn_110 x1 M) := by
  unfold gn_110
  refine x_aload_n dm_110_0 rfl ?_
  refine x_iload_n dm_110_1 rfl ?_
  refine im_callRI mf_109 rfl (tg_109 x1 M) (im_runV (as := [.inl x1]) (rest := []) dm_110_2 mf_109 (Nat.le_of_ble_eq_true rfl) ml_8_135 mi_109 ms_109 mp_109 (Nat.le_of_ble_eq_true rfl) rfl rfl ⟨_, _, rfl⟩) rfl (fun b1 hb1 => ?_)
  refine x_istore_n dm_110_5 (Nat.le_of_ble_eq_true rfl) ?_
  refine x_iload_n dm_110_6 rfl ?_
  refine x_iconst (-1) dm_110_7 (by decide) ?_
  refine x_icmp_eq 13 dm_110_8 rfl (fun c2 => ?_) (fun c2 => ?_)
  · refine x_iconst (0) dm_110_13 (by decide) ?_
    refine x_istore_n dm_110_14 (Nat.le_of_ble_eq_true rfl) ?_
    exact im_lsub [(0, .inr (some 0)), (1, .inl x1), (3, .inl (0 : Int32))] (im_sb_c rfl (im_sb_c rfl (im_sb_c rfl im_sb_n))) (tg_110_15 1000 x1 (0 : Int32) b1.2)
  · refine x_iconst (0) dm_110_11 (by decide) ?_
    exact x_zretR dm_110_12 rfl (by decide)
