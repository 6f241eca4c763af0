/-- FencedModules$Source.isLabelSet(I)Z -/
def gn_65 (x1 : Int32) (M : im_M) : Option (Int32 × im_M) :=
  if x1 < 0 then (some ((0 : Int32), M)) else (if (8 : Int32) ≤ x1 then (some ((0 : Int32), M)) else (if st_ib x1 8 then (if (M 6 (x1).toNatClampNeg) = (-1 : Int32) then (some ((0 : Int32), M)) else (some ((1 : Int32), M))) else none))
set_option maxRecDepth 100000 in
set_option maxHeartbeats 4000000 in
theorem tg_65 (x1 : Int32) (M : im_M) : im_Go zC_I 0 fm_65 0 (im_en 0 [.inr (some 1), .inl x1]) [] (st_hC M) (gn_65 x1 M) := by
  unfold gn_65
  refine x_iload_n dm_65_0 rfl ?_
  refine x_if_lt 24 dm_65_1 rfl (fun c1 => ?_) (fun c1 => ?_)
  · refine x_iconst (0) dm_65_24 (by decide) ?_
    exact x_zretC dm_65_25 rfl (by decide)
  · refine x_iload_n dm_65_4 rfl ?_
    refine x_bipush (8) dm_65_5 (by decide) ?_
    refine x_icmp_ge 24 dm_65_7 rfl (fun c2 => ?_) (fun c2 => ?_)
    · refine x_iconst (0) dm_65_24 (by decide) ?_
      exact x_zretC dm_65_25 rfl (by decide)
    · refine x_aload_n dm_65_10 rfl ?_
      refine x_getRC dm_65_11 fl_6_22 rfl rfl rfl rfl ?_
      refine x_iload_n dm_65_14 rfl ?_
      refine im_chk _ (fun hi3 => ?_)
      refine x_ialoadX _ rfl dm_65_15 rfl (mk_in rfl hi3) ?_
      refine x_iconst (-1) dm_65_16 (by decide) ?_
      refine x_icmp_eq 24 dm_65_17 rfl (fun c4 => ?_) (fun c4 => ?_)
      · refine x_iconst (0) dm_65_24 (by decide) ?_
        exact x_zretC dm_65_25 rfl (by decide)
      · refine x_iconst (1) dm_65_20 (by decide) ?_
        refine x_goto 25 dm_65_21 rfl ?_
        exact x_zretC dm_65_25 rfl (by decide)
/-- FencedModules$Source.wordsOf(I)I -/
def gn_69 (x0 : Int32) (M : im_M) : Option (Int32 × im_M) :=
  if x0 = 8 then (some ((4 : Int32), M)) else (if x0 = 9 then (some ((4 : Int32), M)) else (if x0 = 13 then (some ((3 : Int32), M)) else (some ((1 : Int32), M))))
set_option maxRecDepth 100000 in
set_option maxHeartbeats 4000000 in
theorem tg_69 (x0 : Int32) (M : im_M) : im_Go zC_I 0 fm_69 0 (im_en 0 [.inl x0]) [] (st_hC M) (gn_69 x0 M) := by
  unfold gn_69
  refine x_iload_n dm_69_0 rfl ?_
  refine im_test _ (fun c1 => ?_) (fun c1 => ?_)
  · refine x_lookup 36 dm_69_1 rfl (by rw [c1]) rfl ?_
    refine x_iconst (4) dm_69_36 (by decide) ?_
    exact x_iretC dm_69_37 rfl
  refine im_test _ (fun c2 => ?_) (fun c2 => ?_)
  · refine x_lookup 36 dm_69_1 rfl (by rw [c2]) rfl ?_
    refine x_iconst (4) dm_69_36 (by decide) ?_
    exact x_iretC dm_69_37 rfl
  refine im_test _ (fun c3 => ?_) (fun c3 => ?_)
  · refine x_lookup 38 dm_69_1 rfl (by rw [c3]) rfl ?_
    refine x_iconst (3) dm_69_38 (by decide) ?_
    exact x_iretC dm_69_39 rfl
  refine x_lookup 40 dm_69_1 rfl (im_lk3 c1 c2 c3) rfl ?_
  refine x_iconst (1) dm_69_40 (by decide) ?_
  exact x_iretC dm_69_41 rfl
/-- FencedModules$Words.opOf(I)I -/
def gn_143 (x0 : Int32) (M : im_M) : Option (Int32 × im_M) :=
  some ((x0 &&& (15 : Int32)), M)
set_option maxRecDepth 100000 in
set_option maxHeartbeats 4000000 in
theorem tg_143 (x0 : Int32) (M : im_M) : im_Go zC_I 0 fm_143 0 (im_en 0 [.inl x0]) [] (st_hC M) (gn_143 x0 M) := by
  unfold gn_143
  refine x_iload_n dm_143_0 rfl ?_
  refine x_bipush (15) dm_143_1 (by decide) ?_
  refine x_iand dm_143_3 ?_
  exact x_iretC dm_143_4 rfl
/-- FencedModules$Words.aOf(I)I -/
def gn_144 (x0 : Int32) (M : im_M) : Option (Int32 × im_M) :=
  some (((x0 >>> ((4 : Int32) &&& 31)) &&& (7 : Int32)), M)
set_option maxRecDepth 100000 in
set_option maxHeartbeats 4000000 in
theorem tg_144 (x0 : Int32) (M : im_M) : im_Go zC_I 0 fm_144 0 (im_en 0 [.inl x0]) [] (st_hC M) (gn_144 x0 M) := by
  unfold gn_144
  refine x_iload_n dm_144_0 rfl ?_
  refine x_iconst (4) dm_144_1 (by decide) ?_
  refine x_ishr dm_144_2 ?_
  refine x_bipush (7) dm_144_3 (by decide) ?_
  refine x_iand dm_144_5 ?_
  exact x_iretC dm_144_6 rfl
/-- FencedModules$Words.bOf(I)I -/
def gn_145 (x0 : Int32) (M : im_M) : Option (Int32 × im_M) :=
  some (((x0 >>> ((7 : Int32) &&& 31)) &&& (7 : Int32)), M)
set_option maxRecDepth 100000 in
set_option maxHeartbeats 4000000 in
theorem tg_145 (x0 : Int32) (M : im_M) : im_Go zC_I 0 fm_145 0 (im_en 0 [.inl x0]) [] (st_hC M) (gn_145 x0 M) := by
  unfold gn_145
  refine x_iload_n dm_145_0 rfl ?_
  refine x_bipush (7) dm_145_1 (by decide) ?_
  refine x_ishr dm_145_3 ?_
  refine x_bipush (7) dm_145_4 (by decide) ?_
  refine x_iand dm_145_6 ?_
  exact x_iretC dm_145_7 rfl
/-- FencedModules$Words.iOf(I)I -/
def gn_146 (x0 : Int32) (M : im_M) : Option (Int32 × im_M) :=
  some ((x0 >>> ((10 : Int32) &&& 31)), M)
set_option maxRecDepth 100000 in
set_option maxHeartbeats 4000000 in
theorem tg_146 (x0 : Int32) (M : im_M) : im_Go zC_I 0 fm_146 0 (im_en 0 [.inl x0]) [] (st_hC M) (gn_146 x0 M) := by
  unfold gn_146
  refine x_iload_n dm_146_0 rfl ?_
  refine x_bipush (10) dm_146_1 (by decide) ?_
  refine x_ishr dm_146_3 ?_
  exact x_iretC dm_146_4 rfl
/-- FencedModules$Words.join(IIII)I -/
def gn_147 (x0 : Int32) (x1 : Int32) (x2 : Int32) (x3 : Int32) (M : im_M) : Option (Int32 × im_M) :=
  some (((((x3 <<< ((10 : Int32) &&& 31)) ||| (x2 <<< ((7 : Int32) &&& 31))) ||| (x1 <<< ((4 : Int32) &&& 31))) ||| x0), M)
set_option maxRecDepth 100000 in
set_option maxHeartbeats 4000000 in
theorem tg_147 (x0 : Int32) (x1 : Int32) (x2 : Int32) (x3 : Int32) (M : im_M) : im_Go zC_I 0 fm_147 0 (im_en 0 [.inl x0, .inl x1, .inl x2, .inl x3]) [] (st_hC M) (gn_147 x0 x1 x2 x3 M) := by
  unfold gn_147
  refine x_iload_n dm_147_0 rfl ?_
  refine x_bipush (10) dm_147_1 (by decide) ?_
  refine x_ishl dm_147_3 ?_
  refine x_iload_n dm_147_4 rfl ?_
  refine x_bipush (7) dm_147_5 (by decide) ?_
  refine x_ishl dm_147_7 ?_
  refine x_ior dm_147_8 ?_
  refine x_iload_n dm_147_9 rfl ?_
  refine x_iconst (4) dm_147_10 (by decide) ?_
  refine x_ishl dm_147_11 ?_
  refine x_ior dm_147_12 ?_
  refine x_iload_n dm_147_13 rfl ?_
  refine x_ior dm_147_14 ?_
  exact x_iretC dm_147_15 rfl
/-- FencedModules$Words.result(IIII)I -/
def gn_148 (x0 : Int32) (x1 : Int32) (x2 : Int32) (x3 : Int32) (M : im_M) : Option (Int32 × im_M) :=
  if x0 = 1 then (some (x3, M)) else (if x0 = 2 then (some ((x2 + x3), M)) else (if x0 = 3 then (some ((x1 + x2), M)) else (if x0 = 4 then (some ((x1 - x2), M)) else (if x0 = 5 then (some ((x1 ^^^ x2), M)) else (if x0 = 6 then (some ((x2 &&& x3), M)) else (if x0 = 7 then (some ((x2 ||| x3), M)) else (some (x1, M))))))))
set_option maxRecDepth 100000 in
set_option maxHeartbeats 4000000 in
theorem tg_148 (x0 : Int32) (x1 : Int32) (x2 : Int32) (x3 : Int32) (M : im_M) : im_Go zC_I 0 fm_148 0 (im_en 0 [.inl x0, .inl x1, .inl x2, .inl x3]) [] (st_hC M) (gn_148 x0 x1 x2 x3 M) := by
  unfold gn_148
  refine x_iload_n dm_148_0 rfl ?_
  refine im_test _ (fun c1 => ?_) (fun c1 => ?_)
  · refine x_tabIn 1 44 dm_148_1 c1 (by decide) (by decide) rfl rfl ?_
    refine x_iload_n dm_148_44 rfl ?_
    exact x_iretC dm_148_45 rfl
  refine im_test _ (fun c2 => ?_) (fun c2 => ?_)
  · refine x_tabIn 2 46 dm_148_1 c2 (by decide) (by decide) rfl rfl ?_
    refine x_iload_n dm_148_46 rfl ?_
    refine x_iload_n dm_148_47 rfl ?_
    refine x_iadd dm_148_48 ?_
    exact x_iretC dm_148_49 rfl
  refine im_test _ (fun c3 => ?_) (fun c3 => ?_)
  · refine x_tabIn 3 50 dm_148_1 c3 (by decide) (by decide) rfl rfl ?_
    refine x_iload_n dm_148_50 rfl ?_
    refine x_iload_n dm_148_51 rfl ?_
    refine x_iadd dm_148_52 ?_
    exact x_iretC dm_148_53 rfl
  refine im_test _ (fun c4 => ?_) (fun c4 => ?_)
  · refine x_tabIn 4 54 dm_148_1 c4 (by decide) (by decide) rfl rfl ?_
    refine x_iload_n dm_148_54 rfl ?_
    refine x_iload_n dm_148_55 rfl ?_
    refine x_isub dm_148_56 ?_
    exact x_iretC dm_148_57 rfl
  refine im_test _ (fun c5 => ?_) (fun c5 => ?_)
  · refine x_tabIn 5 58 dm_148_1 c5 (by decide) (by decide) rfl rfl ?_
    refine x_iload_n dm_148_58 rfl ?_
    refine x_iload_n dm_148_59 rfl ?_
    refine x_ixor dm_148_60 ?_
    exact x_iretC dm_148_61 rfl
  refine im_test _ (fun c6 => ?_) (fun c6 => ?_)
  · refine x_tabIn 6 62 dm_148_1 c6 (by decide) (by decide) rfl rfl ?_
    refine x_iload_n dm_148_62 rfl ?_
    refine x_iload_n dm_148_63 rfl ?_
    refine x_iand dm_148_64 ?_
    exact x_iretC dm_148_65 rfl
  refine im_test _ (fun c7 => ?_) (fun c7 => ?_)
  · refine x_tabIn 7 66 dm_148_1 c7 (by decide) (by decide) rfl rfl ?_
    refine x_iload_n dm_148_66 rfl ?_
    refine x_iload_n dm_148_67 rfl ?_
    refine x_ior dm_148_68 ?_
    exact x_iretC dm_148_69 rfl
  refine x_tabOut 70 dm_148_1 (im_swout (1) 7 (by decide) (by decide) (fun i hi => match i, hi with | 0, _ => c1 | 1, _ => c2 | 2, _ => c3 | 3, _ => c4 | 4, _ => c5 | 5, _ => c6 | 6, _ => c7 | i + 7, hi => absurd hi (by omega))) rfl ?_
  refine x_iload_n dm_148_70 rfl ?_
  exact x_iretC dm_148_71 rfl
def gn_149_28 (M : im_M) : Option (Int32 × im_M) :=
  some ((1 : Int32), M)
set_option maxRecDepth 100000 in
set_option maxHeartbeats 4000000 in
theorem tg_149_28 (M : im_M) : im_Go zC_I 0 fm_149 28 [] [] (st_hC M) (gn_149_28 M) := by
  unfold gn_149_28
  refine x_iconst (1) dm_149_28 (by decide) ?_
  refine x_goto 33 dm_149_29 rfl ?_
  exact x_zretC dm_149_33 rfl (by decide)
def gn_149_17 (y0 : Int32) (y1 : Int32) (y2 : Int32) (M : im_M) : Option (Int32 × im_M) :=
  if y0 = (11 : Int32) then (if y2 ≤ y1 then (some ((0 : Int32), M)) else (gn_149_28 M)) else (some ((0 : Int32), M))
set_option maxRecDepth 100000 in
set_option maxHeartbeats 4000000 in
theorem tg_149_17 (y0 : Int32) (y1 : Int32) (y2 : Int32) (M : im_M) : im_Go zC_I 0 fm_149 17 [(0, .inl y0), (1, .inl y1), (2, .inl y2)] [] (st_hC M) (gn_149_17 y0 y1 y2 M) := by
  unfold gn_149_17
  refine x_iload_n dm_149_17 rfl ?_
  refine x_bipush (11) dm_149_18 (by decide) ?_
  refine x_icmp_ne 32 dm_149_20 rfl (fun c1 => ?_) (fun c1 => ?_)
  · refine x_iload_n dm_149_23 rfl ?_
    refine x_iload_n dm_149_24 rfl ?_
    refine x_icmp_ge 32 dm_149_25 rfl (fun c2 => ?_) (fun c2 => ?_)
    · refine x_iconst (0) dm_149_32 (by decide) ?_
      exact x_zretC dm_149_33 rfl (by decide)
    · exact im_lsub [] im_sb_n (tg_149_28 M)
  · refine x_iconst (0) dm_149_32 (by decide) ?_
    exact x_zretC dm_149_33 rfl (by decide)
/-- FencedModules$Words.branches(III)Z -/
def gn_149 (x0 : Int32) (x1 : Int32) (x2 : Int32) (M : im_M) : Option (Int32 × im_M) :=
  if x0 = (12 : Int32) then (gn_149_28 M) else (if x0 = (10 : Int32) then (if x1 = x2 then (gn_149_28 M) else (gn_149_17 x0 x1 x2 M)) else (gn_149_17 x0 x1 x2 M))
set_option maxRecDepth 100000 in
set_option maxHeartbeats 4000000 in
theorem tg_149 (x0 : Int32) (x1 : Int32) (x2 : Int32) (M : im_M) : im_Go zC_I 0 fm_149 0 (im_en 0 [.inl x0, .inl x1, .inl x2]) [] (st_hC M) (gn_149 x0 x1 x2 M) := by
  unfold gn_149
  refine x_iload_n dm_149_0 rfl ?_
  refine x_bipush (12) dm_149_1 (by decide) ?_
  refine x_icmp_eq 28 dm_149_3 rfl (fun c1 => ?_) (fun c1 => ?_)
  · exact im_lsub [] im_sb_n (tg_149_28 M)
  · refine x_iload_n dm_149_6 rfl ?_
    refine x_bipush (10) dm_149_7 (by decide) ?_
    refine x_icmp_ne 17 dm_149_9 rfl (fun c2 => ?_) (fun c2 => ?_)
    · refine x_iload_n dm_149_12 rfl ?_
      refine x_iload_n dm_149_13 rfl ?_
      refine x_icmp_eq 28 dm_149_14 rfl (fun c3 => ?_) (fun c3 => ?_)
      · exact im_lsub [] im_sb_n (tg_149_28 M)
      · exact im_lsub [(0, .inl x0), (1, .inl x1), (2, .inl x2)] (im_sb_c rfl (im_sb_c rfl (im_sb_c rfl im_sb_n))) (tg_149_17 x0 x1 x2 M)
    · exact im_lsub [(0, .inl x0), (1, .inl x1), (2, .inl x2)] (im_sb_c rfl (im_sb_c rfl (im_sb_c rfl im_sb_n))) (tg_149_17 x0 x1 x2 M)
def gn_150_5 (q : Nat) (ln : Nat) : Nat → Int32 → Int32 → Int32 → im_M → Option (im_M)
  | 0, _, _, _, _ => none
  | n + 1, y1, y2, y3, M =>
    if y3 ≤ y2 then (some M) else (if st_ib y2 ln then (let M3 : im_M := im_u M q (y2).toNatClampNeg y1; let v4 : Int32 := (y2 + (1 : Int32)); gn_150_5 q ln n y1 v4 y3 M3) else none)
set_option maxRecDepth 100000 in
set_option maxHeartbeats 4000000 in
theorem tg_150_5 (q : Nat) (ln : Nat) (hq : st_KC q = (1, ln)) : ∀ (n : Nat) (y1 : Int32) (y2 : Int32) (y3 : Int32) (M : im_M), im_Go zC_V 0 fm_150 5 [(0, .inr (some q)), (1, .inl y1), (2, .inl y2), (3, .inl y3)] [] (st_hC M) (gn_150_5 q ln n y1 y2 y3 M)
  | 0, y1, y2, y3, M => im_none
  | n + 1, y1, y2, y3, M => by
    have ih := tg_150_5 q ln hq n
    unfold gn_150_5
    refine x_iload_n dm_150_5 rfl ?_
    refine x_iload_n dm_150_6 rfl ?_
    refine x_icmp_ge 20 dm_150_7 rfl (fun c1 => ?_) (fun c1 => ?_)
    · exact x_vretC dm_150_20 rfl
    · refine x_aload_n dm_150_10 rfl ?_
      refine x_iload_n dm_150_11 rfl ?_
      refine x_iload_n dm_150_12 rfl ?_
      refine im_chk _ (fun hi2 => ?_)
      refine x_iastoreC _ rfl dm_150_13 rfl (mk_in hq hi2) ?_
      refine x_iinc (1) dm_150_14 rfl (by decide) (Nat.le_of_ble_eq_true rfl) ?_
      refine x_goto 5 dm_150_17 rfl ?_
      exact im_lsub [(0, .inr (some q)), (1, .inl y1), (2, .inl _), (3, .inl y3)] (im_sb_c rfl (im_sb_c rfl (im_sb_c rfl (im_sb_c rfl im_sb_n)))) (ih y1 _ y3 _)
/-- java/util/Arrays.fill([II)V -/
def gn_150 (q : Nat) (ln : Nat) (x1 : Int32) (M : im_M) : Option (im_M) :=
  let v1 : Int32 := (Int32.ofNat ln); gn_150_5 q ln 1000 x1 (0 : Int32) v1 M
set_option maxRecDepth 100000 in
set_option maxHeartbeats 4000000 in
theorem tg_150 (q : Nat) (ln : Nat) (hq : st_KC q = (1, ln)) (x1 : Int32) (M : im_M) : im_Go zC_V 0 fm_150 0 (im_en 0 [.inr (some q), .inl x1]) [] (st_hC M) (gn_150 q ln x1 M) := by
  unfold gn_150
  refine x_iconst (0) dm_150_0 (by decide) ?_
  refine x_istore_n dm_150_1 (Nat.le_of_ble_eq_true rfl) ?_
  refine x_aload_n dm_150_2 rfl ?_
  refine x_alenX dm_150_3 rfl hq ?_
  refine x_istore_n dm_150_4 (Nat.le_of_ble_eq_true rfl) ?_
  exact im_lsub [(0, .inr (some q)), (1, .inl x1), (2, .inl (0 : Int32)), (3, .inl _)] (im_sb_c rfl (im_sb_c rfl (im_sb_c rfl (im_sb_c rfl im_sb_n)))) (tg_150_5 q ln hq 1000 x1 (0 : Int32) _ M)
/-- FencedModules$Desk.open()V -/
def gn_13 (d : Nat) (M : im_M) : Option (im_M) :=
  (gn_1 (d + 1) M).bind fun b1 => let M2 : im_M := im_u b1 d 1 (0 : Int32); let M3 : im_M := im_u M2 d 2 (0 : Int32); some M3
set_option maxRecDepth 100000 in
set_option maxHeartbeats 4000000 in
theorem tg_13 (d : Nat) (hd : st_isD d) (M : im_M) : im_Go zC_V 1 fm_13 0 (im_en 0 [.inr (some d)]) [] (st_hC M) (gn_13 d M) := by
  unfold gn_13
  refine x_aload_n dm_13_0 rfl ?_
  refine x_getRC dm_13_1 fl_2_10 rfl rfl (kc_D hd) (rc_D hd) ?_
  refine im_callCV mf_1 rfl (tg_1 (d + 1) (lk_D hd) M) (im_runV (as := []) (rest := []) dm_13_4 mf_1 (Nat.le_of_ble_eq_true rfl) ml_2_18 mi_1 ms_1 mp_1 (Nat.le_of_ble_eq_true rfl) rfl (kc_L (lk_D hd)) ⟨_, _, rfl⟩) rfl (fun b1 hb1 => ?_)
  refine x_aload_n dm_13_7 rfl ?_
  refine x_iconst (0) dm_13_8 (by decide) ?_
  refine x_putIC dm_13_9 fl_2_21 rfl rfl (kc_D hd) ?_
  refine x_aload_n dm_13_12 rfl ?_
  refine x_iconst (0) dm_13_13 (by decide) ?_
  refine x_putIC dm_13_14 fl_2_25 rfl rfl (kc_D hd) ?_
  exact x_vretC dm_13_17 rfl
def gn_14_33 (d : Nat) (s0 : Int32) (s1 : Int32) (s2 : Int32) (M : im_M) : Option (im_M) :=
  (gn_2 (d + 1) s2 s1 s0 M).bind fun b1 => some b1
set_option maxRecDepth 100000 in
set_option maxHeartbeats 4000000 in
theorem tg_14_33 (d : Nat) (hd : st_isD d) (s0 : Int32) (s1 : Int32) (s2 : Int32) (M : im_M) : im_Go zC_V 1 fm_14 33 [] [.inl s0, .inl s1, .inl s2, .inr (some (d + 1))] (st_hC M) (gn_14_33 d s0 s1 s2 M) := by
  unfold gn_14_33
  refine im_callCV mf_2 rfl (tg_2 (d + 1) (lk_D hd) s2 s1 s0 M) (im_runV (as := [.inl s2, .inl s1, .inl s0]) (rest := []) dm_14_33 mf_2 (Nat.le_of_ble_eq_true rfl) ml_2_32 mi_2 ms_2 mp_2 (Nat.le_of_ble_eq_true rfl) rfl (kc_L (lk_D hd)) ⟨_, _, rfl⟩) rfl (fun b1 hb1 => ?_)
  exact x_vretC dm_14_36 rfl
def gn_14_22 (d : Nat) (y3 : Int32) (y4 : Int32) (s0 : Int32) (s1 : Int32) (M : im_M) : Option (im_M) :=
  if y4 < (2 : Int32) then (gn_14_33 d (0 : Int32) s0 s1 M) else (gn_14_33 d y3 s0 s1 M)
set_option maxRecDepth 100000 in
set_option maxHeartbeats 4000000 in
theorem tg_14_22 (d : Nat) (hd : st_isD d) (y3 : Int32) (y4 : Int32) (s0 : Int32) (s1 : Int32) (M : im_M) : im_Go zC_V 1 fm_14 22 [(3, .inl y3), (4, .inl y4)] [.inl s0, .inl s1, .inr (some (d + 1))] (st_hC M) (gn_14_22 d y3 y4 s0 s1 M) := by
  unfold gn_14_22
  refine x_iload dm_14_22 rfl ?_
  refine x_iconst (2) dm_14_24 (by decide) ?_
  refine x_icmp_lt 32 dm_14_25 rfl (fun c1 => ?_) (fun c1 => ?_)
  · refine x_iconst (0) dm_14_32 (by decide) ?_
    exact im_lsub [] im_sb_n (tg_14_33 d hd (0 : Int32) s0 s1 M)
  · refine x_iload_n dm_14_28 rfl ?_
    refine x_goto 33 dm_14_29 rfl ?_
    exact im_lsub [] im_sb_n (tg_14_33 d hd y3 s0 s1 M)
/-- FencedModules$Desk.note(III)V -/
def gn_14 (d : Nat) (x1 : Int32) (x2 : Int32) (x3 : Int32) (M : im_M) : Option (im_M) :=
  (gn_11 x1 M).bind fun b1 => if b1.1 < (1 : Int32) then (gn_14_22 d x3 b1.1 (0 : Int32) x1 b1.2) else (gn_14_22 d x3 b1.1 x2 x1 b1.2)
set_option maxRecDepth 100000 in
set_option maxHeartbeats 4000000 in
theorem tg_14 (d : Nat) (hd : st_isD d) (x1 : Int32) (x2 : Int32) (x3 : Int32) (M : im_M) : im_Go zC_V 1 fm_14 0 (im_en 0 [.inr (some d), .inl x1, .inl x2, .inl x3]) [] (st_hC M) (gn_14 d x1 x2 x3 M) := by
  unfold gn_14
  refine x_iload_n dm_14_0 rfl ?_
  refine im_callCI mf_11 rfl (tg_11 x1 M) (im_runS (as := [.inl x1]) (rest := []) dm_14_1 mf_11 (Nat.le_of_ble_eq_true rfl) ml_2_28 mi_11 mp_11 (Nat.le_of_ble_eq_true rfl)) rfl (fun b1 hb1 => ?_)
  refine x_istore dm_14_4 (Nat.le_of_ble_eq_true rfl) ?_
  refine x_aload_n dm_14_6 rfl ?_
  refine x_getRC dm_14_7 fl_2_10 rfl rfl (kc_D hd) (rc_D hd) ?_
  refine x_iload_n dm_14_10 rfl ?_
  refine x_iload dm_14_11 rfl ?_
  refine x_iconst (1) dm_14_13 (by decide) ?_
  refine x_icmp_lt 21 dm_14_14 rfl (fun c2 => ?_) (fun c2 => ?_)
  · refine x_iconst (0) dm_14_21 (by decide) ?_
    exact im_lsub [(3, .inl x3), (4, .inl b1.1)] (im_sb_c rfl (im_sb_c rfl im_sb_n)) (tg_14_22 d hd x3 b1.1 (0 : Int32) x1 b1.2)
  · refine x_iload_n dm_14_17 rfl ?_
    refine x_goto 22 dm_14_18 rfl ?_
    exact im_lsub [(3, .inl x3), (4, .inl b1.1)] (im_sb_c rfl (im_sb_c rfl im_sb_n)) (tg_14_22 d hd x3 b1.1 x2 x1 b1.2)
def gn_22_12  : Nat → Int32 → Int32 → Int32 → im_M → Option (Int32 × im_M)
  | 0, _, _, _, _ => none
  | n + 1, y1, y2, y3, M =>
    if y2 ≤ y3 then (some ((0 : Int32), M)) else ((gn_23 (((5 : Int32) + y1) + y3) M).bind fun b2 => if b2.1 = 0 then (let v4 : Int32 := (y3 + (1 : Int32)); gn_22_12 n y1 y2 v4 b2.2) else (some ((1 : Int32), b2.2)))
set_option maxRecDepth 100000 in
set_option maxHeartbeats 4000000 in
theorem tg_22_12  : ∀ (n : Nat) (y1 : Int32) (y2 : Int32) (y3 : Int32) (M : im_M), im_Go zC_I 1 fm_22 12 [(0, .inr (some 42)), (1, .inl y1), (2, .inl y2), (3, .inl y3)] [] (st_hC M) (gn_22_12  n y1 y2 y3 M)
  | 0, y1, y2, y3, M => im_none
  | n + 1, y1, y2, y3, M => by
    have ih := tg_22_12  n
    unfold gn_22_12
    refine x_iload_n dm_22_12 rfl ?_
    refine x_iload_n dm_22_13 rfl ?_
    refine x_icmp_ge 37 dm_22_14 rfl (fun c1 => ?_) (fun c1 => ?_)
    · refine x_iconst (0) dm_22_37 (by decide) ?_
      exact x_zretC dm_22_38 rfl (by decide)
    · refine x_aload_n dm_22_17 rfl ?_
      refine x_iconst (5) dm_22_18 (by decide) ?_
      refine x_iload_n dm_22_19 rfl ?_
      refine x_iadd dm_22_20 ?_
      refine x_iload_n dm_22_21 rfl ?_
      refine x_iadd dm_22_22 ?_
      refine im_callCI mf_23 rfl (tg_23 _ M) (im_runV (as := [.inl _]) (rest := []) dm_22_23 mf_23 (Nat.le_of_ble_eq_true rfl) ml_3_67 mi_23 ms_23 mp_23 (Nat.le_of_ble_eq_true rfl) rfl rfl ⟨_, _, rfl⟩) rfl (fun b2 hb2 => ?_)
      refine x_if_eq 31 dm_22_26 rfl (fun c3 => ?_) (fun c3 => ?_)
      · refine x_iinc (1) dm_22_31 rfl (by decide) (Nat.le_of_ble_eq_true rfl) ?_
        refine x_goto 12 dm_22_34 rfl ?_
        exact im_lsub [(0, .inr (some 42)), (1, .inl y1), (2, .inl y2), (3, .inl _)] (im_sb_c rfl (im_sb_c rfl (im_sb_c rfl (im_sb_c rfl im_sb_n)))) (ih y1 y2 _ b2.2)
      · refine x_iconst (1) dm_22_29 (by decide) ?_
        exact x_zretC dm_22_30 rfl (by decide)
/-- FencedModules$Follower.wouldPrintLabel(II)Z -/
def gn_22 (x1 : Int32) (x2 : Int32) (M : im_M) : Option (Int32 × im_M) :=
  (gn_12 x1 x2 M).bind fun b1 => if b1.1 = 0 then (some ((0 : Int32), b1.2)) else (gn_22_12 1000 x1 x2 (0 : Int32) b1.2)
set_option maxRecDepth 100000 in
set_option maxHeartbeats 4000000 in
theorem tg_22 (x1 : Int32) (x2 : Int32) (M : im_M) : im_Go zC_I 1 fm_22 0 (im_en 0 [.inr (some 42), .inl x1, .inl x2]) [] (st_hC M) (gn_22 x1 x2 M) := by
  unfold gn_22
  refine x_iload_n dm_22_0 rfl ?_
  refine x_iload_n dm_22_1 rfl ?_
  refine im_callCI mf_12 rfl (tg_12 x1 x2 M) (im_runS (as := [.inl x1, .inl x2]) (rest := []) dm_22_2 mf_12 (Nat.le_of_ble_eq_true rfl) ml_3_84 mi_12 mp_12 (Nat.le_of_ble_eq_true rfl)) rfl (fun b1 hb1 => ?_)
  refine x_if_ne 10 dm_22_5 rfl (fun c2 => ?_) (fun c2 => ?_)
  · refine x_iconst (0) dm_22_8 (by decide) ?_
    exact x_zretC dm_22_9 rfl (by decide)
  · refine x_iconst (0) dm_22_10 (by decide) ?_
    refine x_istore_n dm_22_11 (Nat.le_of_ble_eq_true rfl) ?_
    exact im_lsub [(0, .inr (some 42)), (1, .inl x1), (2, .inl x2), (3, .inl (0 : Int32))] (im_sb_c rfl (im_sb_c rfl (im_sb_c rfl (im_sb_c rfl im_sb_n)))) (tg_22_12 1000 x1 x2 (0 : Int32) b1.2)
def gn_28_22 (y1 : Int32) (y2 : Int32) (y3 : Int32) (y4 : Int32) (M : im_M) : Option (im_M) :=
  if st_ib y2 21 then (if st_ib y3 21 then ((gn_148 y1 (M 48 (y2).toNatClampNeg) (M 48 (y3).toNatClampNeg) y4 M).bind fun b3 => (gn_27 y2 b3.1 b3.2).bind fun b4 => some b4) else none) else none
set_option maxRecDepth 100000 in
set_option maxHeartbeats 4000000 in
theorem tg_28_22 (y1 : Int32) (y2 : Int32) (y3 : Int32) (y4 : Int32) (M : im_M) : im_Go zC_V 1 fm_28 22 [(0, .inr (some 42)), (1, .inl y1), (2, .inl y2), (3, .inl y3), (4, .inl y4)] [] (st_hC M) (gn_28_22 y1 y2 y3 y4 M) := by
  unfold gn_28_22
  refine x_aload_n dm_28_22 rfl ?_
  refine x_iload_n dm_28_23 rfl ?_
  refine x_iload_n dm_28_24 rfl ?_
  refine x_aload_n dm_28_25 rfl ?_
  refine x_getRC dm_28_26 fl_3_20 rfl rfl rfl rfl ?_
  refine x_iload_n dm_28_29 rfl ?_
  refine im_chk _ (fun hi1 => ?_)
  refine x_ialoadX _ rfl dm_28_30 rfl (mk_in rfl hi1) ?_
  refine x_aload_n dm_28_31 rfl ?_
  refine x_getRC dm_28_32 fl_3_20 rfl rfl rfl rfl ?_
  refine x_iload_n dm_28_35 rfl ?_
  refine im_chk _ (fun hi2 => ?_)
  refine x_ialoadX _ rfl dm_28_36 rfl (mk_in rfl hi2) ?_
  refine x_iload dm_28_37 rfl ?_
  refine im_callCI mf_148 rfl (tg_148 y1 _ _ y4 M) (im_runS (as := [.inl y1, .inl _, .inl _, .inl y4]) (rest := [.inl y2, .inr (some 42)]) dm_28_39 mf_148 (Nat.le_of_ble_eq_true rfl) ml_3_106 mi_148 mp_148 (Nat.le_of_ble_eq_true rfl)) rfl (fun b3 hb3 => ?_)
  refine im_callCV mf_27 rfl (tg_27 y2 b3.1 b3.2) (im_runV (as := [.inl y2, .inl b3.1]) (rest := []) dm_28_42 mf_27 (Nat.le_of_ble_eq_true rfl) ml_3_110 mi_27 ms_27 mp_27 (Nat.le_of_ble_eq_true rfl) rfl rfl ⟨_, _, rfl⟩) rfl (fun b4 hb4 => ?_)
  exact x_vretC dm_28_45 rfl
/-- FencedModules$Follower.compute(IIII)V -/
def gn_28 (x1 : Int32) (x2 : Int32) (x3 : Int32) (x4 : Int32) (M : im_M) : Option (im_M) :=
  if x1 = (2 : Int32) then ((gn_23 x3 M).bind fun b2 => if b2.1 = 0 then (gn_28_22 x1 x2 x3 x4 b2.2) else ((gn_26 x3 x2 b2.2).bind fun b4 => some b4)) else (gn_28_22 x1 x2 x3 x4 M)
set_option maxRecDepth 100000 in
set_option maxHeartbeats 4000000 in
theorem tg_28 (x1 : Int32) (x2 : Int32) (x3 : Int32) (x4 : Int32) (M : im_M) : im_Go zC_V 1 fm_28 0 (im_en 0 [.inr (some 42), .inl x1, .inl x2, .inl x3, .inl x4]) [] (st_hC M) (gn_28 x1 x2 x3 x4 M) := by
  unfold gn_28
  refine x_iload_n dm_28_0 rfl ?_
  refine x_iconst (2) dm_28_1 (by decide) ?_
  refine x_icmp_ne 22 dm_28_2 rfl (fun c1 => ?_) (fun c1 => ?_)
  · refine x_aload_n dm_28_5 rfl ?_
    refine x_iload_n dm_28_6 rfl ?_
    refine im_callCI mf_23 rfl (tg_23 x3 M) (im_runV (as := [.inl x3]) (rest := []) dm_28_7 mf_23 (Nat.le_of_ble_eq_true rfl) ml_3_67 mi_23 ms_23 mp_23 (Nat.le_of_ble_eq_true rfl) rfl rfl ⟨_, _, rfl⟩) rfl (fun b2 hb2 => ?_)
    refine x_if_eq 22 dm_28_10 rfl (fun c3 => ?_) (fun c3 => ?_)
    · exact im_lsub [(0, .inr (some 42)), (1, .inl x1), (2, .inl x2), (3, .inl x3), (4, .inl x4)] (im_sb_c rfl (im_sb_c rfl (im_sb_c rfl (im_sb_c rfl (im_sb_c rfl im_sb_n))))) (tg_28_22 x1 x2 x3 x4 b2.2)
    · refine x_aload_n dm_28_13 rfl ?_
      refine x_iload_n dm_28_14 rfl ?_
      refine x_iload_n dm_28_15 rfl ?_
      refine im_callCV mf_26 rfl (tg_26 x3 x2 b2.2) (im_runV (as := [.inl x3, .inl x2]) (rest := []) dm_28_16 mf_26 (Nat.le_of_ble_eq_true rfl) ml_3_87 mi_26 ms_26 mp_26 (Nat.le_of_ble_eq_true rfl) rfl rfl ⟨_, _, rfl⟩) rfl (fun b4 hb4 => ?_)
      refine x_goto 45 dm_28_19 rfl ?_
      exact x_vretC dm_28_45 rfl
  · exact im_lsub [(0, .inr (some 42)), (1, .inl x1), (2, .inl x2), (3, .inl x3), (4, .inl x4)] (im_sb_c rfl (im_sb_c rfl (im_sb_c rfl (im_sb_c rfl (im_sb_c rfl im_sb_n))))) (tg_28_22 x1 x2 x3 x4 M)
def gn_37_26 (k : Nat) (M : im_M) : Option (im_M) :=
  (gn_39 (M 9 2) M).bind fun b1 => (gn_38 b1.1 b1.2).bind fun b2 => some b2
set_option maxRecDepth 100000 in
set_option maxHeartbeats 4000000 in
theorem tg_37_26 (k : Nat) (hk : k < 3) (M : im_M) : im_Go zC_V 1 fm_37 26 [(0, .inr (some 9))] [] (st_hC M) (gn_37_26 k M) := by
  unfold gn_37_26
  refine x_aload_n dm_37_26 rfl ?_
  refine x_aload_n dm_37_27 rfl ?_
  refine x_getI dm_37_28 fl_4_49 rfl rfl rfl ?_
  refine im_callCI mf_39 rfl (tg_39 _ M) (im_runS (as := [.inl _]) (rest := [.inr (some 9)]) dm_37_31 mf_39 (Nat.le_of_ble_eq_true rfl) ml_4_73 mi_39 mp_39 (Nat.le_of_ble_eq_true rfl)) rfl (fun b1 hb1 => ?_)
  refine im_callCV mf_38 rfl (tg_38 b1.1 b1.2) (im_runV (as := [.inl b1.1]) (rest := []) dm_37_34 mf_38 (Nat.le_of_ble_eq_true rfl) ml_4_70 mi_38 ms_38 mp_38 (Nat.le_of_ble_eq_true rfl) rfl rfl ⟨_, _, rfl⟩) rfl (fun b2 hb2 => ?_)
  exact x_vretC dm_37_37 rfl
/-- FencedModules$Machine.countStep(LFencedModules$Sandbox;)V -/
def gn_37 (k : Nat) (M : im_M) : Option (im_M) :=
  let M1 : im_M := im_u M 9 3 ((M 9 3) + (1 : Int32)); if (3 : Int32) ≤ (M1 9 3) then (gn_37_26 k M1) else (if (M1 (12 + 10 * k) 6) = (1 : Int32) then (some M1) else (gn_37_26 k M1))
set_option maxRecDepth 100000 in
set_option maxHeartbeats 4000000 in
theorem tg_37 (k : Nat) (hk : k < 3) (M : im_M) : im_Go zC_V 1 fm_37 0 (im_en 0 [.inr (some 9), .inr (some (12 + 10 * k))]) [] (st_hC M) (gn_37 k M) := by
  unfold gn_37
  refine x_aload_n dm_37_0 rfl ?_
  refine x_dup dm_37_1 ?_
  refine x_getI dm_37_2 fl_4_53 rfl rfl rfl ?_
  refine x_iconst (1) dm_37_5 (by decide) ?_
  refine x_iadd dm_37_6 ?_
  refine x_putIC dm_37_7 fl_4_53 rfl rfl rfl ?_
  refine x_aload_n dm_37_10 rfl ?_
  refine x_getI dm_37_11 fl_4_53 rfl rfl rfl ?_
  refine x_iconst (3) dm_37_14 (by decide) ?_
  refine x_icmp_ge 26 dm_37_15 rfl (fun c2 => ?_) (fun c2 => ?_)
  · exact im_lsub [(0, .inr (some 9))] (im_sb_c rfl im_sb_n) (tg_37_26 k hk _)
  · refine x_aload_n dm_37_18 rfl ?_
    refine x_getI dm_37_19 fl_4_67 rfl rfl (kc_S0 hk) ?_
    refine x_iconst (1) dm_37_22 (by decide) ?_
    refine x_icmp_eq 37 dm_37_23 rfl (fun c3 => ?_) (fun c3 => ?_)
    · exact x_vretC dm_37_37 rfl
    · exact im_lsub [(0, .inr (some 9))] (im_sb_c rfl im_sb_n) (tg_37_26 k hk _)
def gn_42_13 (k : Nat) : Nat → Int32 → Int32 → Int32 → im_M → Option (Int32 × im_M)
  | 0, _, _, _, _ => none
  | n + 1, y2, y3, y4, M =>
    if y3 ≤ y4 then (some (y3, M)) else ((gn_46 (M (12 + 10 * k) 0) M).bind fun b2 => (gn_32 ((b2.1 + y2) + y4) b2.2).bind fun b3 => (gn_53 k b3.1 b3.2).bind fun b4 => let v5 : Int32 := (y4 + (1 : Int32)); gn_42_13 k n y2 y3 v5 b4)
set_option maxRecDepth 100000 in
set_option maxHeartbeats 4000000 in
theorem tg_42_13 (k : Nat) (hk : k < 3) : ∀ (n : Nat) (y2 : Int32) (y3 : Int32) (y4 : Int32) (M : im_M), im_Go zC_I 1 fm_42 13 [(0, .inr (some 9)), (1, .inr (some (12 + 10 * k))), (2, .inl y2), (3, .inl y3), (4, .inl y4)] [] (st_hC M) (gn_42_13 k n y2 y3 y4 M)
  | 0, y2, y3, y4, M => im_none
  | n + 1, y2, y3, y4, M => by
    have ih := tg_42_13 k hk n
    unfold gn_42_13
    refine x_iload dm_42_13 rfl ?_
    refine x_iload_n dm_42_15 rfl ?_
    refine x_icmp_ge 45 dm_42_16 rfl (fun c1 => ?_) (fun c1 => ?_)
    · refine x_iload_n dm_42_45 rfl ?_
      exact x_iretC dm_42_46 rfl
    · refine x_aload_n dm_42_19 rfl ?_
      refine x_aload_n dm_42_20 rfl ?_
      refine x_aload_n dm_42_21 rfl ?_
      refine x_getI dm_42_22 fl_4_150 rfl rfl (kc_S0 hk) ?_
      refine im_callCI mf_46 rfl (tg_46 _ M) (im_runS (as := [.inl _]) (rest := [.inr (some 9), .inr (some (12 + 10 * k))]) dm_42_25 mf_46 (Nat.le_of_ble_eq_true rfl) ml_4_43 mi_46 mp_46 (Nat.le_of_ble_eq_true rfl)) rfl (fun b2 hb2 => ?_)
      refine x_iload_n dm_42_28 rfl ?_
      refine x_iadd dm_42_29 ?_
      refine x_iload dm_42_30 rfl ?_
      refine x_iadd dm_42_32 ?_
      refine im_callCI mf_32 rfl (tg_32 _ b2.2) (im_runV (as := [.inl _]) (rest := [.inr (some (12 + 10 * k))]) dm_42_33 mf_32 (Nat.le_of_ble_eq_true rfl) ml_4_79 mi_32 ms_32 mp_32 (Nat.le_of_ble_eq_true rfl) rfl rfl ⟨_, _, rfl⟩) rfl (fun b3 hb3 => ?_)
      refine im_callCV mf_53 rfl (tg_53 k hk b3.1 b3.2) (im_runV (as := [.inl b3.1]) (rest := []) dm_42_36 mf_53 (Nat.le_of_ble_eq_true rfl) ml_4_124 mi_53 ms_53 mp_53 (Nat.le_of_ble_eq_true rfl) rfl (kc_S0 hk) ⟨_, _, rfl⟩) rfl (fun b4 hb4 => ?_)
      refine x_iinc (1) dm_42_39 rfl (by decide) (Nat.le_of_ble_eq_true rfl) ?_
      refine x_goto 13 dm_42_42 rfl ?_
      exact im_lsub [(0, .inr (some 9)), (1, .inr (some (12 + 10 * k))), (2, .inl y2), (3, .inl y3), (4, .inl _)] (im_sb_c rfl (im_sb_c rfl (im_sb_c rfl (im_sb_c rfl (im_sb_c rfl im_sb_n))))) (ih y2 y3 _ b4)
/-- FencedModules$Machine.print(LFencedModules$Sandbox;II)I -/
def gn_42 (k : Nat) (x2 : Int32) (x3 : Int32) (M : im_M) : Option (Int32 × im_M) :=
  (gn_12 x2 x3 M).bind fun b1 => if b1.1 = 0 then (some ((-1 : Int32), b1.2)) else (gn_42_13 k 1000 x2 x3 (0 : Int32) b1.2)
set_option maxRecDepth 100000 in
set_option maxHeartbeats 4000000 in
theorem tg_42 (k : Nat) (hk : k < 3) (x2 : Int32) (x3 : Int32) (M : im_M) : im_Go zC_I 1 fm_42 0 (im_en 0 [.inr (some 9), .inr (some (12 + 10 * k)), .inl x2, .inl x3]) [] (st_hC M) (gn_42 k x2 x3 M) := by
  unfold gn_42
  refine x_iload_n dm_42_0 rfl ?_
  refine x_iload_n dm_42_1 rfl ?_
  refine im_callCI mf_12 rfl (tg_12 x2 x3 M) (im_runS (as := [.inl x2, .inl x3]) (rest := []) dm_42_2 mf_12 (Nat.le_of_ble_eq_true rfl) ml_4_146 mi_12 mp_12 (Nat.le_of_ble_eq_true rfl)) rfl (fun b1 hb1 => ?_)
  refine x_if_ne 10 dm_42_5 rfl (fun c2 => ?_) (fun c2 => ?_)
  · refine x_iconst (-1) dm_42_8 (by decide) ?_
    exact x_iretC dm_42_9 rfl
  · refine x_iconst (0) dm_42_10 (by decide) ?_
    refine x_istore dm_42_11 (Nat.le_of_ble_eq_true rfl) ?_
    exact im_lsub [(0, .inr (some 9)), (1, .inr (some (12 + 10 * k))), (2, .inl x2), (3, .inl x3), (4, .inl (0 : Int32))] (im_sb_c rfl (im_sb_c rfl (im_sb_c rfl (im_sb_c rfl (im_sb_c rfl im_sb_n))))) (tg_42_13 k hk 1000 x2 x3 (0 : Int32) b1.2)
/-- FencedModules$Source.empty()V -/
def gn_56 (M : im_M) : Option (im_M) :=
  let M1 : im_M := im_u M 1 5 (0 : Int32); (gn_150 6 8 (-1 : Int32) M1).bind fun b2 => some b2
set_option maxRecDepth 100000 in
set_option maxHeartbeats 4000000 in
theorem tg_56 (M : im_M) : im_Go zC_V 1 fm_56 0 (im_en 0 [.inr (some 1)]) [] (st_hC M) (gn_56 M) := by
  unfold gn_56
  refine x_aload_n dm_56_0 rfl ?_
  refine x_iconst (0) dm_56_1 (by decide) ?_
  refine x_putIC dm_56_2 fl_6_31 rfl rfl rfl ?_
  refine x_aload_n dm_56_5 rfl ?_
  refine x_getRC dm_56_6 fl_6_22 rfl rfl rfl rfl ?_
  refine x_iconst (-1) dm_56_9 (by decide) ?_
  refine im_callCV mf_150 rfl (tg_150 6 8 rfl (-1 : Int32) _) (im_runS (as := [.inr (some 6), .inl (-1 : Int32)]) (rest := []) dm_56_10 mf_150 (Nat.le_of_ble_eq_true rfl) ml_6_25 mi_150 mp_150 (Nat.le_of_ble_eq_true rfl)) rfl (fun b2 hb2 => ?_)
  exact x_vretC dm_56_13 rfl
/-- FencedModules$Source.opAt(I)I -/
def gn_61 (x1 : Int32) (M : im_M) : Option (Int32 × im_M) :=
  (gn_60 x1 M).bind fun b1 => if b1.1 = 0 then (some ((0 : Int32), b1.2)) else (if st_ib x1 24 then (some ((b1.2 2 (x1).toNatClampNeg), b1.2)) else none)
set_option maxRecDepth 100000 in
set_option maxHeartbeats 4000000 in
theorem tg_61 (x1 : Int32) (M : im_M) : im_Go zC_I 1 fm_61 0 (im_en 0 [.inr (some 1), .inl x1]) [] (st_hC M) (gn_61 x1 M) := by
  unfold gn_61
  refine x_aload_n dm_61_0 rfl ?_
  refine x_iload_n dm_61_1 rfl ?_
  refine im_callCI mf_60 rfl (tg_60 x1 M) (im_runV (as := [.inl x1]) (rest := []) dm_61_2 mf_60 (Nat.le_of_ble_eq_true rfl) ml_6_39 mi_60 ms_60 mp_60 (Nat.le_of_ble_eq_true rfl) rfl rfl ⟨_, _, rfl⟩) rfl (fun b1 hb1 => ?_)
  refine x_if_eq 17 dm_61_5 rfl (fun c2 => ?_) (fun c2 => ?_)
  · refine x_iconst (0) dm_61_17 (by decide) ?_
    exact x_iretC dm_61_18 rfl
  · refine x_aload_n dm_61_8 rfl ?_
    refine x_getRC dm_61_9 fl_6_9 rfl rfl rfl rfl ?_
    refine x_iload_n dm_61_12 rfl ?_
    refine im_chk _ (fun hi3 => ?_)
    refine x_ialoadX _ rfl dm_61_13 rfl (mk_in rfl hi3) ?_
    refine x_goto 18 dm_61_14 rfl ?_
    exact x_iretC dm_61_18 rfl
/-- FencedModules$Source.aAt(I)I -/
def gn_62 (x1 : Int32) (M : im_M) : Option (Int32 × im_M) :=
  (gn_60 x1 M).bind fun b1 => if b1.1 = 0 then (some ((0 : Int32), b1.2)) else (if st_ib x1 24 then (some ((b1.2 3 (x1).toNatClampNeg), b1.2)) else none)
set_option maxRecDepth 100000 in
set_option maxHeartbeats 4000000 in
theorem tg_62 (x1 : Int32) (M : im_M) : im_Go zC_I 1 fm_62 0 (im_en 0 [.inr (some 1), .inl x1]) [] (st_hC M) (gn_62 x1 M) := by
  unfold gn_62
  refine x_aload_n dm_62_0 rfl ?_
  refine x_iload_n dm_62_1 rfl ?_
  refine im_callCI mf_60 rfl (tg_60 x1 M) (im_runV (as := [.inl x1]) (rest := []) dm_62_2 mf_60 (Nat.le_of_ble_eq_true rfl) ml_6_39 mi_60 ms_60 mp_60 (Nat.le_of_ble_eq_true rfl) rfl rfl ⟨_, _, rfl⟩) rfl (fun b1 hb1 => ?_)
  refine x_if_eq 17 dm_62_5 rfl (fun c2 => ?_) (fun c2 => ?_)
  · refine x_iconst (0) dm_62_17 (by decide) ?_
    exact x_iretC dm_62_18 rfl
  · refine x_aload_n dm_62_8 rfl ?_
    refine x_getRC dm_62_9 fl_6_13 rfl rfl rfl rfl ?_
    refine x_iload_n dm_62_12 rfl ?_
    refine im_chk _ (fun hi3 => ?_)
    refine x_ialoadX _ rfl dm_62_13 rfl (mk_in rfl hi3) ?_
    refine x_goto 18 dm_62_14 rfl ?_
    exact x_iretC dm_62_18 rfl
/-- FencedModules$Source.bAt(I)I -/
def gn_63 (x1 : Int32) (M : im_M) : Option (Int32 × im_M) :=
  (gn_60 x1 M).bind fun b1 => if b1.1 = 0 then (some ((0 : Int32), b1.2)) else (if st_ib x1 24 then (some ((b1.2 4 (x1).toNatClampNeg), b1.2)) else none)
set_option maxRecDepth 100000 in
set_option maxHeartbeats 4000000 in
theorem tg_63 (x1 : Int32) (M : im_M) : im_Go zC_I 1 fm_63 0 (im_en 0 [.inr (some 1), .inl x1]) [] (st_hC M) (gn_63 x1 M) := by
  unfold gn_63
  refine x_aload_n dm_63_0 rfl ?_
  refine x_iload_n dm_63_1 rfl ?_
  refine im_callCI mf_60 rfl (tg_60 x1 M) (im_runV (as := [.inl x1]) (rest := []) dm_63_2 mf_60 (Nat.le_of_ble_eq_true rfl) ml_6_39 mi_60 ms_60 mp_60 (Nat.le_of_ble_eq_true rfl) rfl rfl ⟨_, _, rfl⟩) rfl (fun b1 hb1 => ?_)
  refine x_if_eq 17 dm_63_5 rfl (fun c2 => ?_) (fun c2 => ?_)
  · refine x_iconst (0) dm_63_17 (by decide) ?_
    exact x_iretC dm_63_18 rfl
  · refine x_aload_n dm_63_8 rfl ?_
    refine x_getRC dm_63_9 fl_6_16 rfl rfl rfl rfl ?_
    refine x_iload_n dm_63_12 rfl ?_
    refine im_chk _ (fun hi3 => ?_)
    refine x_ialoadX _ rfl dm_63_13 rfl (mk_in rfl hi3) ?_
    refine x_goto 18 dm_63_14 rfl ?_
    exact x_iretC dm_63_18 rfl
/-- FencedModules$Source.iAt(I)I -/
def gn_64 (x1 : Int32) (M : im_M) : Option (Int32 × im_M) :=
  (gn_60 x1 M).bind fun b1 => if b1.1 = 0 then (some ((0 : Int32), b1.2)) else (if st_ib x1 24 then (some ((b1.2 5 (x1).toNatClampNeg), b1.2)) else none)
set_option maxRecDepth 100000 in
set_option maxHeartbeats 4000000 in
theorem tg_64 (x1 : Int32) (M : im_M) : im_Go zC_I 1 fm_64 0 (im_en 0 [.inr (some 1), .inl x1]) [] (st_hC M) (gn_64 x1 M) := by
  unfold gn_64
  refine x_aload_n dm_64_0 rfl ?_
  refine x_iload_n dm_64_1 rfl ?_
  refine im_callCI mf_60 rfl (tg_60 x1 M) (im_runV (as := [.inl x1]) (rest := []) dm_64_2 mf_60 (Nat.le_of_ble_eq_true rfl) ml_6_39 mi_60 ms_60 mp_60 (Nat.le_of_ble_eq_true rfl) rfl rfl ⟨_, _, rfl⟩) rfl (fun b1 hb1 => ?_)
  refine x_if_eq 17 dm_64_5 rfl (fun c2 => ?_) (fun c2 => ?_)
  · refine x_iconst (0) dm_64_17 (by decide) ?_
    exact x_iretC dm_64_18 rfl
  · refine x_aload_n dm_64_8 rfl ?_
    refine x_getRC dm_64_9 fl_6_19 rfl rfl rfl rfl ?_
    refine x_iload_n dm_64_12 rfl ?_
    refine im_chk _ (fun hi3 => ?_)
    refine x_ialoadX _ rfl dm_64_13 rfl (mk_in rfl hi3) ?_
    refine x_goto 18 dm_64_14 rfl ?_
    exact x_iretC dm_64_18 rfl
/-- FencedModules$Source.placeOf(I)I -/
def gn_66 (x1 : Int32) (M : im_M) : Option (Int32 × im_M) :=
  (gn_65 x1 M).bind fun b1 => if b1.1 = 0 then (some ((b1.2 1 5), b1.2)) else (if st_ib x1 8 then (some ((b1.2 6 (x1).toNatClampNeg), b1.2)) else none)
set_option maxRecDepth 100000 in
set_option maxHeartbeats 4000000 in
theorem tg_66 (x1 : Int32) (M : im_M) : im_Go zC_I 1 fm_66 0 (im_en 0 [.inr (some 1), .inl x1]) [] (st_hC M) (gn_66 x1 M) := by
  unfold gn_66
  refine x_aload_n dm_66_0 rfl ?_
  refine x_iload_n dm_66_1 rfl ?_
  refine im_callCI mf_65 rfl (tg_65 x1 M) (im_runV (as := [.inl x1]) (rest := []) dm_66_2 mf_65 (Nat.le_of_ble_eq_true rfl) ml_6_43 mi_65 ms_65 mp_65 (Nat.le_of_ble_eq_true rfl) rfl rfl ⟨_, _, rfl⟩) rfl (fun b1 hb1 => ?_)
  refine x_if_eq 17 dm_66_5 rfl (fun c2 => ?_) (fun c2 => ?_)
  · refine x_aload_n dm_66_17 rfl ?_
    refine x_getI dm_66_18 fl_6_31 rfl rfl rfl ?_
    exact x_iretC dm_66_21 rfl
  · refine x_aload_n dm_66_8 rfl ?_
    refine x_getRC dm_66_9 fl_6_22 rfl rfl rfl rfl ?_
    refine x_iload_n dm_66_12 rfl ?_
    refine im_chk _ (fun hi3 => ?_)
    refine x_ialoadX _ rfl dm_66_13 rfl (mk_in rfl hi3) ?_
    refine x_goto 21 dm_66_14 rfl ?_
    exact x_iretC dm_66_21 rfl
def gn_68_4  : Nat → Int32 → Int32 → Int32 → im_M → Option (Int32 × im_M)
  | 0, _, _, _, _ => none
  | n + 1, y1, y2, y3, M =>
    if y1 ≤ y3 then (some (y2, M)) else (if (M 1 5) ≤ y3 then (some (y2, M)) else (if st_ib y3 24 then ((gn_69 (M 2 (y3).toNatClampNeg) M).bind fun b4 => let v5 : Int32 := (y2 + b4.1); let v6 : Int32 := (y3 + (1 : Int32)); gn_68_4 n y1 v5 v6 b4.2) else none))
set_option maxRecDepth 100000 in
set_option maxHeartbeats 4000000 in
theorem tg_68_4  : ∀ (n : Nat) (y1 : Int32) (y2 : Int32) (y3 : Int32) (M : im_M), im_Go zC_I 1 fm_68 4 [(0, .inr (some 1)), (1, .inl y1), (2, .inl y2), (3, .inl y3)] [] (st_hC M) (gn_68_4  n y1 y2 y3 M)
  | 0, y1, y2, y3, M => im_none
  | n + 1, y1, y2, y3, M => by
    have ih := tg_68_4  n
    unfold gn_68_4
    refine x_iload_n dm_68_4 rfl ?_
    refine x_iload_n dm_68_5 rfl ?_
    refine x_icmp_ge 35 dm_68_6 rfl (fun c1 => ?_) (fun c1 => ?_)
    · refine x_iload_n dm_68_35 rfl ?_
      exact x_iretC dm_68_36 rfl
    · refine x_iload_n dm_68_9 rfl ?_
      refine x_aload_n dm_68_10 rfl ?_
      refine x_getI dm_68_11 fl_6_31 rfl rfl rfl ?_
      refine x_icmp_ge 35 dm_68_14 rfl (fun c2 => ?_) (fun c2 => ?_)
      · refine x_iload_n dm_68_35 rfl ?_
        exact x_iretC dm_68_36 rfl
      · refine x_iload_n dm_68_17 rfl ?_
        refine x_aload_n dm_68_18 rfl ?_
        refine x_getRC dm_68_19 fl_6_9 rfl rfl rfl rfl ?_
        refine x_iload_n dm_68_22 rfl ?_
        refine im_chk _ (fun hi3 => ?_)
        refine x_ialoadX _ rfl dm_68_23 rfl (mk_in rfl hi3) ?_
        refine im_callCI mf_69 rfl (tg_69 _ M) (im_runS (as := [.inl _]) (rest := [.inl y2]) dm_68_24 mf_69 (Nat.le_of_ble_eq_true rfl) ml_6_58 mi_69 mp_69 (Nat.le_of_ble_eq_true rfl)) rfl (fun b4 hb4 => ?_)
        refine x_iadd dm_68_27 ?_
        refine x_istore_n dm_68_28 (Nat.le_of_ble_eq_true rfl) ?_
        refine x_iinc (1) dm_68_29 rfl (by decide) (Nat.le_of_ble_eq_true rfl) ?_
        refine x_goto 4 dm_68_32 rfl ?_
        exact im_lsub [(0, .inr (some 1)), (1, .inl y1), (2, .inl _), (3, .inl _)] (im_sb_c rfl (im_sb_c rfl (im_sb_c rfl (im_sb_c rfl im_sb_n)))) (ih y1 _ _ b4.2)
/-- FencedModules$Source.wordsBefore(I)I -/
def gn_68 (x1 : Int32) (M : im_M) : Option (Int32 × im_M) :=
  gn_68_4 1000 x1 (0 : Int32) (0 : Int32) M
set_option maxRecDepth 100000 in
set_option maxHeartbeats 4000000 in
theorem tg_68 (x1 : Int32) (M : im_M) : im_Go zC_I 1 fm_68 0 (im_en 0 [.inr (some 1), .inl x1]) [] (st_hC M) (gn_68 x1 M) := by
  unfold gn_68
  refine x_iconst (0) dm_68_0 (by decide) ?_
  refine x_istore_n dm_68_1 (Nat.le_of_ble_eq_true rfl) ?_
  refine x_iconst (0) dm_68_2 (by decide) ?_
  refine x_istore_n dm_68_3 (Nat.le_of_ble_eq_true rfl) ?_
  exact im_lsub [(0, .inr (some 1)), (1, .inl x1), (2, .inl (0 : Int32)), (3, .inl (0 : Int32))] (im_sb_c rfl (im_sb_c rfl (im_sb_c rfl (im_sb_c rfl im_sb_n)))) (tg_68_4 1000 x1 (0 : Int32) (0 : Int32) M)
/-- FencedModules.line(IIII)Z -/
def gn_73 (x1 : Int32) (x2 : Int32) (x3 : Int32) (x4 : Int32) (M : im_M) : Option (Int32 × im_M) :=
  (gn_57 x1 x2 x3 x4 M).bind fun b1 => if b1.1 &&& 1 = b1.1 then some (b1.1, b1.2) else none
set_option maxRecDepth 100000 in
set_option maxHeartbeats 4000000 in
theorem tg_73 (x1 : Int32) (x2 : Int32) (x3 : Int32) (x4 : Int32) (M : im_M) : im_Go zC_I 1 fm_73 0 (im_en 0 [.inr (some 0), .inl x1, .inl x2, .inl x3, .inl x4]) [] (st_hC M) (gn_73 x1 x2 x3 x4 M) := by
  unfold gn_73
  refine x_aload_n dm_73_0 rfl ?_
  refine x_getRC dm_73_1 fl_7_10 rfl rfl rfl rfl ?_
  refine x_iload_n dm_73_4 rfl ?_
  refine x_iload_n dm_73_5 rfl ?_
  refine x_iload_n dm_73_6 rfl ?_
  refine x_iload dm_73_7 rfl ?_
  refine im_callCI mf_57 rfl (tg_57 x1 x2 x3 x4 M) (im_runV (as := [.inl x1, .inl x2, .inl x3, .inl x4]) (rest := []) dm_73_9 mf_57 (Nat.le_of_ble_eq_true rfl) ml_7_37 mi_57 ms_57 mp_57 (Nat.le_of_ble_eq_true rfl) rfl rfl ⟨_, _, rfl⟩) rfl (fun b1 hb1 => ?_)
  refine im_chk _ (fun hz2 => ?_)
  exact x_zretC dm_73_12 rfl hz2
/-- FencedModules.mark(I)Z -/
def gn_74 (x1 : Int32) (M : im_M) : Option (Int32 × im_M) :=
  (gn_58 x1 M).bind fun b1 => if b1.1 &&& 1 = b1.1 then some (b1.1, b1.2) else none
set_option maxRecDepth 100000 in
set_option maxHeartbeats 4000000 in
theorem tg_74 (x1 : Int32) (M : im_M) : im_Go zC_I 1 fm_74 0 (im_en 0 [.inr (some 0), .inl x1]) [] (st_hC M) (gn_74 x1 M) := by
  unfold gn_74
  refine x_aload_n dm_74_0 rfl ?_
  refine x_getRC dm_74_1 fl_7_10 rfl rfl rfl rfl ?_
  refine x_iload_n dm_74_4 rfl ?_
  refine im_callCI mf_58 rfl (tg_58 x1 M) (im_runV (as := [.inl x1]) (rest := []) dm_74_5 mf_58 (Nat.le_of_ble_eq_true rfl) ml_7_41 mi_58 ms_58 mp_58 (Nat.le_of_ble_eq_true rfl) rfl rfl ⟨_, _, rfl⟩) rfl (fun b1 hb1 => ?_)
  refine im_chk _ (fun hz2 => ?_)
  exact x_zretC dm_74_8 rfl hz2
/-- FencedModules.word(I)Z -/
def gn_77 (x1 : Int32) (M : im_M) : Option (Int32 × im_M) :=
  (gn_6 x1 M).bind fun b1 => if b1.1 &&& 1 = b1.1 then some (b1.1, b1.2) else none
set_option maxRecDepth 100000 in
set_option maxHeartbeats 4000000 in
theorem tg_77 (x1 : Int32) (M : im_M) : im_Go zC_I 1 fm_77 0 (im_en 0 [.inr (some 0), .inl x1]) [] (st_hC M) (gn_77 x1 M) := by
  unfold gn_77
  refine x_aload_n dm_77_0 rfl ?_
  refine x_getRC dm_77_1 fl_7_19 rfl rfl rfl rfl ?_
  refine x_iload_n dm_77_4 rfl ?_
  refine im_callCI mf_6 rfl (tg_6 x1 M) (im_runV (as := [.inl x1]) (rest := []) dm_77_5 mf_6 (Nat.le_of_ble_eq_true rfl) ml_7_68 mi_6 ms_6 mp_6 (Nat.le_of_ble_eq_true rfl) rfl rfl ⟨_, _, rfl⟩) rfl (fun b1 hb1 => ?_)
  refine im_chk _ (fun hz2 => ?_)
  exact x_zretC dm_77_8 rfl hz2
/-- FencedModules.module(I)I -/
def gn_78 (x1 : Int32) (M : im_M) : Option (Int32 × im_M) :=
  if x1 = (-1 : Int32) then ((gn_7 M).bind fun b2 => some (b2.1, b2.2)) else ((gn_8 x1 M).bind fun b3 => some (b3.1, b3.2))
set_option maxRecDepth 100000 in
set_option maxHeartbeats 4000000 in
theorem tg_78 (x1 : Int32) (M : im_M) : im_Go zC_I 1 fm_78 0 (im_en 0 [.inr (some 0), .inl x1]) [] (st_hC M) (gn_78 x1 M) := by
  unfold gn_78
  refine x_iload_n dm_78_0 rfl ?_
  refine x_iconst (-1) dm_78_1 (by decide) ?_
  refine x_icmp_ne 15 dm_78_2 rfl (fun c1 => ?_) (fun c1 => ?_)
  · refine x_aload_n dm_78_5 rfl ?_
    refine x_getRC dm_78_6 fl_7_19 rfl rfl rfl rfl ?_
    refine im_callCI mf_7 rfl (tg_7 M) (im_runV (as := []) (rest := []) dm_78_9 mf_7 (Nat.le_of_ble_eq_true rfl) ml_7_64 mi_7 ms_7 mp_7 (Nat.le_of_ble_eq_true rfl) rfl rfl ⟨_, _, rfl⟩) rfl (fun b2 hb2 => ?_)
    refine x_goto 23 dm_78_12 rfl ?_
    exact x_iretC dm_78_23 rfl
  · refine x_aload_n dm_78_15 rfl ?_
    refine x_getRC dm_78_16 fl_7_19 rfl rfl rfl rfl ?_
    refine x_iload_n dm_78_19 rfl ?_
    refine im_callCI mf_8 rfl (tg_8 x1 M) (im_runV (as := [.inl x1]) (rest := []) dm_78_20 mf_8 (Nat.le_of_ble_eq_true rfl) ml_7_71 mi_8 ms_8 mp_8 (Nat.le_of_ble_eq_true rfl) rfl rfl ⟨_, _, rfl⟩) rfl (fun b3 hb3 => ?_)
    exact x_iretC dm_78_23 rfl
/-- FencedModules.peek(I)I -/
def gn_86 (x1 : Int32) (M : im_M) : Option (Int32 × im_M) :=
  (gn_32 x1 M).bind fun b1 => some (b1.1, b1.2)
set_option maxRecDepth 100000 in
set_option maxHeartbeats 4000000 in
theorem tg_86 (x1 : Int32) (M : im_M) : im_Go zC_I 1 fm_86 0 (im_en 0 [.inr (some 0), .inl x1]) [] (st_hC M) (gn_86 x1 M) := by
  unfold gn_86
  refine x_aload_n dm_86_0 rfl ?_
  refine x_getRC dm_86_1 fl_7_26 rfl rfl rfl rfl ?_
  refine x_iload_n dm_86_4 rfl ?_
  refine im_callCI mf_32 rfl (tg_32 x1 M) (im_runV (as := [.inl x1]) (rest := []) dm_86_5 mf_32 (Nat.le_of_ble_eq_true rfl) ml_7_106 mi_32 ms_32 mp_32 (Nat.le_of_ble_eq_true rfl) rfl rfl ⟨_, _, rfl⟩) rfl (fun b1 hb1 => ?_)
  exact x_iretC dm_86_8 rfl
/-- FencedModules.trace(II)I -/
def gn_90 (x1 : Int32) (x2 : Int32) (M : im_M) : Option (Int32 × im_M) :=
  (gn_3 44 x1 x2 M).bind fun b1 => some (b1.1, b1.2)
set_option maxRecDepth 100000 in
set_option maxHeartbeats 4000000 in
theorem tg_90 (x1 : Int32) (x2 : Int32) (M : im_M) : im_Go zC_I 1 fm_90 0 (im_en 0 [.inr (some 0), .inl x1, .inl x2]) [] (st_hC M) (gn_90 x1 x2 M) := by
  unfold gn_90
  refine x_aload_n dm_90_0 rfl ?_
  refine x_getRC dm_90_1 fl_7_33 rfl rfl rfl rfl ?_
  refine x_getRC dm_90_4 fl_7_132 rfl rfl rfl rfl ?_
  refine x_getRC dm_90_7 fl_7_116 rfl rfl (kc_D dk_F) (rc_D dk_F) ?_
  refine x_iload_n dm_90_10 rfl ?_
  refine x_iload_n dm_90_11 rfl ?_
  refine im_callCI mf_3 rfl (tg_3 44 lk_F x1 x2 M) (im_runV (as := [.inl x1, .inl x2]) (rest := []) dm_90_12 mf_3 (Nat.le_of_ble_eq_true rfl) ml_7_122 mi_3 ms_3 mp_3 (Nat.le_of_ble_eq_true rfl) rfl (kc_L lk_F) ⟨_, _, rfl⟩) rfl (fun b1 hb1 => ?_)
  exact x_iretC dm_90_15 rfl
/-- FencedModules$Rewriter.addFence(LFencedModules$Code;IIII)V -/
def gn_135 (x1 : Int32) (x2 : Int32) (x3 : Int32) (x4 : Int32) (M : im_M) : Option (im_M) :=
  (gn_147 (6 : Int32) x1 x2 x3 M).bind fun b1 => (gn_6 b1.1 b1.2).bind fun b2 => (gn_147 (7 : Int32) x1 x1 x4 b2.2).bind fun b3 => (gn_6 b3.1 b3.2).bind fun b4 => some b4.2
set_option maxRecDepth 100000 in
set_option maxHeartbeats 4000000 in
theorem tg_135 (x1 : Int32) (x2 : Int32) (x3 : Int32) (x4 : Int32) (M : im_M) : im_Go zC_V 1 fm_135 0 (im_en 0 [.inr (some 7), .inl x1, .inl x2, .inl x3, .inl x4]) [] (st_hC M) (gn_135 x1 x2 x3 x4 M) := by
  unfold gn_135
  refine x_aload_n dm_135_0 rfl ?_
  refine x_bipush (6) dm_135_1 (by decide) ?_
  refine x_iload_n dm_135_3 rfl ?_
  refine x_iload_n dm_135_4 rfl ?_
  refine x_iload_n dm_135_5 rfl ?_
  refine im_callCI mf_147 rfl (tg_147 (6 : Int32) x1 x2 x3 M) (im_runS (as := [.inl (6 : Int32), .inl x1, .inl x2, .inl x3]) (rest := [.inr (some 7)]) dm_135_6 mf_147 (Nat.le_of_ble_eq_true rfl) ml_9_26 mi_147 mp_147 (Nat.le_of_ble_eq_true rfl)) rfl (fun b1 hb1 => ?_)
  refine im_callCI mf_6 rfl (tg_6 b1.1 b1.2) (im_runV (as := [.inl b1.1]) (rest := []) dm_135_9 mf_6 (Nat.le_of_ble_eq_true rfl) ml_9_30 mi_6 ms_6 mp_6 (Nat.le_of_ble_eq_true rfl) rfl rfl ⟨_, _, rfl⟩) rfl (fun b2 hb2 => ?_)
  refine x_pop dm_135_12 ?_
  refine x_aload_n dm_135_13 rfl ?_
  refine x_bipush (7) dm_135_14 (by decide) ?_
  refine x_iload_n dm_135_16 rfl ?_
  refine x_iload_n dm_135_17 rfl ?_
  refine x_iload dm_135_18 rfl ?_
  refine im_callCI mf_147 rfl (tg_147 (7 : Int32) x1 x1 x4 b2.2) (im_runS (as := [.inl (7 : Int32), .inl x1, .inl x1, .inl x4]) (rest := [.inr (some 7)]) dm_135_20 mf_147 (Nat.le_of_ble_eq_true rfl) ml_9_26 mi_147 mp_147 (Nat.le_of_ble_eq_true rfl)) rfl (fun b3 hb3 => ?_)
  refine im_callCI mf_6 rfl (tg_6 b3.1 b3.2) (im_runV (as := [.inl b3.1]) (rest := []) dm_135_23 mf_6 (Nat.le_of_ble_eq_true rfl) ml_9_30 mi_6 ms_6 mp_6 (Nat.le_of_ble_eq_true rfl) rfl rfl ⟨_, _, rfl⟩) rfl (fun b4 hb4 => ?_)
  refine x_pop dm_135_26 ?_
  exact x_vretC dm_135_27 rfl
def gn_138_80 (y0 : Int32) (y1 : Int32) (y2 : Int32) (y3 : Int32) (M : im_M) : Option (Int32 × im_M) :=
  (gn_147 y0 y1 y2 y3 M).bind fun b1 => some (b1.1, b1.2)
set_option maxRecDepth 100000 in
set_option maxHeartbeats 4000000 in
theorem tg_138_80 (y0 : Int32) (y1 : Int32) (y2 : Int32) (y3 : Int32) (M : im_M) : im_Go zC_I 1 fm_138 80 [(0, .inl y0), (1, .inl y1), (2, .inl y2), (3, .inl y3)] [] (st_hC M) (gn_138_80 y0 y1 y2 y3 M) := by
  unfold gn_138_80
  refine x_iload_n dm_138_80 rfl ?_
  refine x_iload_n dm_138_81 rfl ?_
  refine x_iload_n dm_138_82 rfl ?_
  refine x_iload_n dm_138_83 rfl ?_
  refine im_callCI mf_147 rfl (tg_147 y0 y1 y2 y3 M) (im_runS (as := [.inl y0, .inl y1, .inl y2, .inl y3]) (rest := []) dm_138_84 mf_147 (Nat.le_of_ble_eq_true rfl) ml_9_26 mi_147 mp_147 (Nat.le_of_ble_eq_true rfl)) rfl (fun b1 hb1 => ?_)
  exact x_iretC dm_138_87 rfl
def gn_138_88 (y0 : Int32) (y1 : Int32) (y2 : Int32) (M : im_M) : Option (Int32 × im_M) :=
  (gn_147 y0 y1 y2 (0 : Int32) M).bind fun b1 => some (b1.1, b1.2)
set_option maxRecDepth 100000 in
set_option maxHeartbeats 4000000 in
theorem tg_138_88 (y0 : Int32) (y1 : Int32) (y2 : Int32) (M : im_M) : im_Go zC_I 1 fm_138 88 [(0, .inl y0), (1, .inl y1), (2, .inl y2)] [] (st_hC M) (gn_138_88 y0 y1 y2 M) := by
  unfold gn_138_88
  refine x_iload_n dm_138_88 rfl ?_
  refine x_iload_n dm_138_89 rfl ?_
  refine x_iload_n dm_138_90 rfl ?_
  refine x_iconst (0) dm_138_91 (by decide) ?_
  refine im_callCI mf_147 rfl (tg_147 y0 y1 y2 (0 : Int32) M) (im_runS (as := [.inl y0, .inl y1, .inl y2, .inl (0 : Int32)]) (rest := []) dm_138_92 mf_147 (Nat.le_of_ble_eq_true rfl) ml_9_26 mi_147 mp_147 (Nat.le_of_ble_eq_true rfl)) rfl (fun b1 hb1 => ?_)
  exact x_iretC dm_138_95 rfl
def gn_138_104 (M : im_M) : Option (Int32 × im_M) :=
  (gn_147 (0 : Int32) (0 : Int32) (0 : Int32) (0 : Int32) M).bind fun b1 => some (b1.1, b1.2)
set_option maxRecDepth 100000 in
set_option maxHeartbeats 4000000 in
theorem tg_138_104 (M : im_M) : im_Go zC_I 1 fm_138 104 [] [] (st_hC M) (gn_138_104 M) := by
  unfold gn_138_104
  refine x_iconst (0) dm_138_104 (by decide) ?_
  refine x_iconst (0) dm_138_105 (by decide) ?_
  refine x_iconst (0) dm_138_106 (by decide) ?_
  refine x_iconst (0) dm_138_107 (by decide) ?_
  refine im_callCI mf_147 rfl (tg_147 (0 : Int32) (0 : Int32) (0 : Int32) (0 : Int32) M) (im_runS (as := [.inl (0 : Int32), .inl (0 : Int32), .inl (0 : Int32), .inl (0 : Int32)]) (rest := []) dm_138_108 mf_147 (Nat.le_of_ble_eq_true rfl) ml_9_26 mi_147 mp_147 (Nat.le_of_ble_eq_true rfl)) rfl (fun b1 hb1 => ?_)
  exact x_iretC dm_138_111 rfl
/-- FencedModules$Rewriter.withoutUnusedFields(IIII)I -/
def gn_138 (x0 : Int32) (x1 : Int32) (x2 : Int32) (x3 : Int32) (M : im_M) : Option (Int32 × im_M) :=
  if x0 = 1 then ((gn_147 x0 x1 (0 : Int32) x3 M).bind fun b2 => some (b2.1, b2.2)) else (if x0 = 2 then (gn_138_80 x0 x1 x2 x3 M) else (if x0 = 3 then (gn_138_88 x0 x1 x2 M) else (if x0 = 4 then (gn_138_88 x0 x1 x2 M) else (if x0 = 5 then (gn_138_88 x0 x1 x2 M) else (if x0 = 6 then (gn_138_80 x0 x1 x2 x3 M) else (if x0 = 7 then (gn_138_80 x0 x1 x2 x3 M) else (if x0 = 8 then (gn_138_104 M) else (if x0 = 9 then (gn_138_104 M) else (if x0 = 10 then (gn_138_104 M) else (if x0 = 11 then (gn_138_104 M) else (if x0 = 12 then (gn_138_104 M) else (if x0 = 13 then (gn_138_104 M) else (if x0 = 14 then ((gn_147 x0 (0 : Int32) (0 : Int32) x3 M).bind fun b16 => some (b16.1, b16.2)) else (gn_138_104 M))))))))))))))
set_option maxRecDepth 100000 in
set_option maxHeartbeats 4000000 in
theorem tg_138 (x0 : Int32) (x1 : Int32) (x2 : Int32) (x3 : Int32) (M : im_M) : im_Go zC_I 1 fm_138 0 (im_en 0 [.inl x0, .inl x1, .inl x2, .inl x3]) [] (st_hC M) (gn_138 x0 x1 x2 x3 M) := by
  unfold gn_138
  refine x_iload_n dm_138_0 rfl ?_
  refine im_test _ (fun c1 => ?_) (fun c1 => ?_)
  · refine x_tabIn 1 72 dm_138_1 c1 (by decide) (by decide) rfl rfl ?_
    refine x_iload_n dm_138_72 rfl ?_
    refine x_iload_n dm_138_73 rfl ?_
    refine x_iconst (0) dm_138_74 (by decide) ?_
    refine x_iload_n dm_138_75 rfl ?_
    refine im_callCI mf_147 rfl (tg_147 x0 x1 (0 : Int32) x3 M) (im_runS (as := [.inl x0, .inl x1, .inl (0 : Int32), .inl x3]) (rest := []) dm_138_76 mf_147 (Nat.le_of_ble_eq_true rfl) ml_9_26 mi_147 mp_147 (Nat.le_of_ble_eq_true rfl)) rfl (fun b2 hb2 => ?_)
    exact x_iretC dm_138_79 rfl
  refine im_test _ (fun c3 => ?_) (fun c3 => ?_)
  · refine x_tabIn 2 80 dm_138_1 c3 (by decide) (by decide) rfl rfl ?_
    exact im_lsub [(0, .inl x0), (1, .inl x1), (2, .inl x2), (3, .inl x3)] (im_sb_c rfl (im_sb_c rfl (im_sb_c rfl (im_sb_c rfl im_sb_n)))) (tg_138_80 x0 x1 x2 x3 M)
  refine im_test _ (fun c4 => ?_) (fun c4 => ?_)
  · refine x_tabIn 3 88 dm_138_1 c4 (by decide) (by decide) rfl rfl ?_
    exact im_lsub [(0, .inl x0), (1, .inl x1), (2, .inl x2)] (im_sb_c rfl (im_sb_c rfl (im_sb_c rfl im_sb_n))) (tg_138_88 x0 x1 x2 M)
  refine im_test _ (fun c5 => ?_) (fun c5 => ?_)
  · refine x_tabIn 4 88 dm_138_1 c5 (by decide) (by decide) rfl rfl ?_
    exact im_lsub [(0, .inl x0), (1, .inl x1), (2, .inl x2)] (im_sb_c rfl (im_sb_c rfl (im_sb_c rfl im_sb_n))) (tg_138_88 x0 x1 x2 M)
  refine im_test _ (fun c6 => ?_) (fun c6 => ?_)
  · refine x_tabIn 5 88 dm_138_1 c6 (by decide) (by decide) rfl rfl ?_
    exact im_lsub [(0, .inl x0), (1, .inl x1), (2, .inl x2)] (im_sb_c rfl (im_sb_c rfl (im_sb_c rfl im_sb_n))) (tg_138_88 x0 x1 x2 M)
  refine im_test _ (fun c7 => ?_) (fun c7 => ?_)
  · refine x_tabIn 6 80 dm_138_1 c7 (by decide) (by decide) rfl rfl ?_
    exact im_lsub [(0, .inl x0), (1, .inl x1), (2, .inl x2), (3, .inl x3)] (im_sb_c rfl (im_sb_c rfl (im_sb_c rfl (im_sb_c rfl im_sb_n)))) (tg_138_80 x0 x1 x2 x3 M)
  refine im_test _ (fun c8 => ?_) (fun c8 => ?_)
  · refine x_tabIn 7 80 dm_138_1 c8 (by decide) (by decide) rfl rfl ?_
    exact im_lsub [(0, .inl x0), (1, .inl x1), (2, .inl x2), (3, .inl x3)] (im_sb_c rfl (im_sb_c rfl (im_sb_c rfl (im_sb_c rfl im_sb_n)))) (tg_138_80 x0 x1 x2 x3 M)
  refine im_test _ (fun c9 => ?_) (fun c9 => ?_)
  · refine x_tabIn 8 104 dm_138_1 c9 (by decide) (by decide) rfl rfl ?_
    exact im_lsub [] im_sb_n (tg_138_104 M)
  refine im_test _ (fun c10 => ?_) (fun c10 => ?_)
  · refine x_tabIn 9 104 dm_138_1 c10 (by decide) (by decide) rfl rfl ?_
    exact im_lsub [] im_sb_n (tg_138_104 M)
  refine im_test _ (fun c11 => ?_) (fun c11 => ?_)
  · refine x_tabIn 10 104 dm_138_1 c11 (by decide) (by decide) rfl rfl ?_
    exact im_lsub [] im_sb_n (tg_138_104 M)
  refine im_test _ (fun c12 => ?_) (fun c12 => ?_)
  · refine x_tabIn 11 104 dm_138_1 c12 (by decide) (by decide) rfl rfl ?_
    exact im_lsub [] im_sb_n (tg_138_104 M)
  refine im_test _ (fun c13 => ?_) (fun c13 => ?_)
  · refine x_tabIn 12 104 dm_138_1 c13 (by decide) (by decide) rfl rfl ?_
    exact im_lsub [] im_sb_n (tg_138_104 M)
  refine im_test _ (fun c14 => ?_) (fun c14 => ?_)
  · refine x_tabIn 13 104 dm_138_1 c14 (by decide) (by decide) rfl rfl ?_
    exact im_lsub [] im_sb_n (tg_138_104 M)
  refine im_test _ (fun c15 => ?_) (fun c15 => ?_)
  · refine x_tabIn 14 96 dm_138_1 c15 (by decide) (by decide) rfl rfl ?_
    refine x_iload_n dm_138_96 rfl ?_
    refine x_iconst (0) dm_138_97 (by decide) ?_
    refine x_iconst (0) dm_138_98 (by decide) ?_
    refine x_iload_n dm_138_99 rfl ?_
    refine im_callCI mf_147 rfl (tg_147 x0 (0 : Int32) (0 : Int32) x3 M) (im_runS (as := [.inl x0, .inl (0 : Int32), .inl (0 : Int32), .inl x3]) (rest := []) dm_138_100 mf_147 (Nat.le_of_ble_eq_true rfl) ml_9_26 mi_147 mp_147 (Nat.le_of_ble_eq_true rfl)) rfl (fun b16 hb16 => ?_)
    exact x_iretC dm_138_103 rfl
  refine x_tabOut 104 dm_138_1 (im_swout (1) 14 (by decide) (by decide) (fun i hi => match i, hi with | 0, _ => c1 | 1, _ => c3 | 2, _ => c4 | 3, _ => c5 | 4, _ => c6 | 5, _ => c7 | 6, _ => c8 | 7, _ => c9 | 8, _ => c10 | 9, _ => c11 | 10, _ => c12 | 11, _ => c13 | 12, _ => c14 | 13, _ => c15 | i + 14, hi => absurd hi (by omega))) rfl ?_
  exact im_lsub [] im_sb_n (tg_138_104 M)
