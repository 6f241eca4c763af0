/-! the tables, word by word (by wip/whole/gen_facts.py) -/
section CW
variable {α : Type} {z : α → im_rs} {d d' : Nat} {F F' : im_F} {pc : Nat} {lv : im_L} {st as rest : List im_V} {h : im_H} {y : MethodName} {na : Nat}
theorem im_callI {tb : Option (Int32 × im_H)} {k : Int32 × im_H → Option α} (hm : im_mf y na F') (ha : as.length = na) (hE : im_Go im_zI d' F' 0 (im_en 0 as) [] h tb) (hrun : im_Run F d pc st h y d' F' as rest) (hal : F'.2.2.1 = false) (kk : ∀ b, tb = some b → im_Go z d F (pc + 3) lv (.inl b.1 :: rest) b.2 (k b)) : im_Go z d F pc lv st h (tb.bind k) := im_call hm ha hE hrun (Or.inl hal) kk
theorem im_callR {tb : Option (Option Nat × im_H)} {k : Option Nat × im_H → Option α} (hm : im_mf y na F') (ha : as.length = na) (hE : im_Go im_zR d' F' 0 (im_en 0 as) [] h tb) (hrun : im_Run F d pc st h y d' F' as rest) (hal : F'.2.2.1 = false) (kk : ∀ b, tb = some b → im_Go z d F (pc + 3) lv (.inr b.1 :: rest) b.2 (k b)) : im_Go z d F pc lv st h (tb.bind k) := im_call hm ha hE hrun (Or.inl hal) kk
theorem im_callV {tb : Option im_H} {k : im_H → Option α} (hm : im_mf y na F') (ha : as.length = na) (hE : im_Go im_zV d' F' 0 (im_en 0 as) [] h tb) (hrun : im_Run F d pc st h y d' F' as rest) (hal : F'.2.2.1 = false) (kk : ∀ b, tb = some b → im_Go z d F (pc + 3) lv rest b (k b)) : im_Go z d F pc lv st h (tb.bind k) := im_call hm ha hE hrun (Or.inl hal) kk
theorem im_callA {tb : Option im_H} {k : im_H → Option α} (hm : im_mf y na F') (ha : as.length = na) (hE : im_Go im_zV d' F' 0 (im_en 0 as) [] h tb) (hrun : im_Run F d pc st h y d' F' as rest) (hal : F.2.2.1 = true) (hok : lv.all (fun q => im_ok h.1.1 q.2) = true ∧ rest.all (im_ok h.1.1) = true) (kk : ∀ b, tb = some b → im_Go z d F (pc + 3) lv rest b (k b)) : im_Go z d F pc lv st h (tb.bind k) := im_call hm ha hE hrun (Or.inr ⟨hal, hok⟩) kk
/-- fewer locals, in another order -/
def im_sb (lv : im_L) : im_L → Prop
  | [] => True
  | q :: L => lv.lookup q.1 = some q.2 ∧ im_sb lv L
theorem im_sb_mem {lv : im_L} : ∀ {L : im_L}, im_sb lv L → ∀ q ∈ L, lv.lookup q.1 = some q.2
  | [], _, q, hq => by cases hq
  | x :: L, h, q, hq => by
    rcases List.mem_cons.mp hq with rfl | hq
    · exact h.1
    · exact im_sb_mem h.2 q hq
theorem im_lsub {t : Option α} (L : im_L) (hs : im_sb lv L) (k : im_Go z d F pc L st h t) : im_Go z d F pc lv st h t :=
  im_plain (fun ad p l e R s m args below meth c H locs cells slots Q ls hC hl kk => kk ls ⟨hl.1, hl.2.1, fun q hq => by
    obtain ⟨x, hx, rfl⟩ := List.mem_map.mp hq
    exact im_lvat hl (im_sb_mem hs x hx)⟩) k
end CW
theorem fc_0 : im_cf 0 nm_T0 4 := ⟨rfl, fun w hw => im_gm (nm_i0 w hw) (List.all_eq_true.mp (by decide +kernel : (u_ws (nm_R 0) nm_T0 4).all goodWord = true) w hw), nm_o0, nm_n0, by decide⟩
theorem fc_1 : im_cf 1 nm_T1 2 := ⟨rfl, fun w hw => im_gm (nm_i1 w hw) (List.all_eq_true.mp (by decide +kernel : (u_ws (nm_R 1) nm_T1 2).all goodWord = true) w hw), nm_o1, nm_n1, by decide⟩
theorem fc_2 : im_cf 2 nm_T2 3 := ⟨rfl, fun w hw => im_gm (nm_i2 w hw) (List.all_eq_true.mp (by decide +kernel : (u_ws (nm_R 2) nm_T2 3).all goodWord = true) w hw), nm_o2, nm_n2, by decide⟩
theorem fc_3 : im_cf 3 nm_T3 4 := ⟨rfl, fun w hw => im_gm (nm_i3 w hw) (List.all_eq_true.mp (by decide +kernel : (u_ws (nm_R 3) nm_T3 4).all goodWord = true) w hw), nm_o3, nm_n3, by decide⟩
theorem fc_4 : im_cf 4 nm_T4 4 := ⟨rfl, fun w hw => im_gm (nm_i4 w hw) (List.all_eq_true.mp (by decide +kernel : (u_ws (nm_R 4) nm_T4 4).all goodWord = true) w hw), nm_o4, nm_n4, by decide⟩
theorem fc_5 : im_cf 5 nm_T5 11 := ⟨rfl, fun w hw => im_gm (nm_i5 w hw) (List.all_eq_true.mp (by decide +kernel : (u_ws (nm_R 5) nm_T5 11).all goodWord = true) w hw), nm_o5, nm_n5, by decide⟩
theorem fc_6 : im_cf 6 nm_T6 6 := ⟨rfl, fun w hw => im_gm (nm_i6 w hw) (List.all_eq_true.mp (by decide +kernel : (u_ws (nm_R 6) nm_T6 6).all goodWord = true) w hw), nm_o6, nm_n6, by decide⟩
theorem fc_7 : im_cf 7 nm_T7 4 := ⟨rfl, fun w hw => im_gm (nm_i7 w hw) (List.all_eq_true.mp (by decide +kernel : (u_ws (nm_R 7) nm_T7 4).all goodWord = true) w hw), nm_o7, nm_n7, by decide⟩
theorem fc_8 : im_cf 8 nm_T8 32 := ⟨rfl, fun w hw => im_gm (nm_i8 w hw) (List.all_eq_true.mp (by decide +kernel : (u_ws (nm_R 8) nm_T8 32).all goodWord = true) w hw), nm_o8, nm_n8, by decide⟩
theorem fl_0_9 : im_fl 0 9 0 0 true := ⟨nm_T0, 4, fc_0, Nat.le_of_ble_eq_true rfl, im_gm (List.mem_of_getElem? (i := 127) (by decide +kernel)) (by decide +kernel), rfl, rfl⟩
theorem fl_0_13 : im_fl 0 13 0 1 true := ⟨nm_T0, 4, fc_0, Nat.le_of_ble_eq_true rfl, im_gm (List.mem_of_getElem? (i := 128) (by decide +kernel)) (by decide +kernel), rfl, rfl⟩
theorem fl_0_16 : im_fl 0 16 0 2 true := ⟨nm_T0, 4, fc_0, Nat.le_of_ble_eq_true rfl, im_gm (List.mem_of_getElem? (i := 129) (by decide +kernel)) (by decide +kernel), rfl, rfl⟩
theorem fl_0_19 : im_fl 0 19 0 3 false := ⟨nm_T0, 4, fc_0, Nat.le_of_ble_eq_true rfl, im_gm (List.mem_of_getElem? (i := 130) (by decide +kernel)) (by decide +kernel), rfl, rfl⟩
theorem fl_1_9 : im_fl 1 9 1 0 true := ⟨nm_T1, 2, fc_1, Nat.le_of_ble_eq_true rfl, im_gm (List.mem_of_getElem? (i := 95) (by decide +kernel)) (by decide +kernel), rfl, rfl⟩
theorem fl_1_13 : im_fl 1 13 1 1 false := ⟨nm_T1, 2, fc_1, Nat.le_of_ble_eq_true rfl, im_gm (List.mem_of_getElem? (i := 96) (by decide +kernel)) (by decide +kernel), rfl, rfl⟩
theorem fl_2_10 : im_fl 2 10 2 0 true := ⟨nm_T2, 3, fc_2, Nat.le_of_ble_eq_true rfl, im_gm (List.mem_of_getElem? (i := 140) (by decide +kernel)) (by decide +kernel), rfl, rfl⟩
theorem fl_2_21 : im_fl 2 21 2 1 false := ⟨nm_T2, 3, fc_2, Nat.le_of_ble_eq_true rfl, im_gm (List.mem_of_getElem? (i := 142) (by decide +kernel)) (by decide +kernel), rfl, rfl⟩
theorem fl_2_25 : im_fl 2 25 2 2 false := ⟨nm_T2, 3, fc_2, Nat.le_of_ble_eq_true rfl, im_gm (List.mem_of_getElem? (i := 143) (by decide +kernel)) (by decide +kernel), rfl, rfl⟩
theorem fl_2_36 : im_fl 2 36 5 4 false := ⟨nm_T5, 11, fc_5, Nat.le_of_ble_eq_true rfl, im_gm (List.mem_of_getElem? (i := 162) (by decide +kernel)) (by decide +kernel), rfl, rfl⟩
theorem fl_2_39 : im_fl 2 39 5 2 true := ⟨nm_T5, 11, fc_5, Nat.le_of_ble_eq_true rfl, im_gm (List.mem_of_getElem? (i := 157) (by decide +kernel)) (by decide +kernel), rfl, rfl⟩
theorem fl_3_16 : im_fl 3 16 3 0 true := ⟨nm_T3, 4, fc_3, Nat.le_of_ble_eq_true rfl, im_gm (List.mem_of_getElem? (i := 217) (by decide +kernel)) (by decide +kernel), rfl, rfl⟩
theorem fl_3_20 : im_fl 3 20 3 1 true := ⟨nm_T3, 4, fc_3, Nat.le_of_ble_eq_true rfl, im_gm (List.mem_of_getElem? (i := 219) (by decide +kernel)) (by decide +kernel), rfl, rfl⟩
theorem fl_3_24 : im_fl 3 24 3 2 true := ⟨nm_T3, 4, fc_3, Nat.le_of_ble_eq_true rfl, im_gm (List.mem_of_getElem? (i := 220) (by decide +kernel)) (by decide +kernel), rfl, rfl⟩
theorem fl_3_36 : im_fl 3 36 3 3 false := ⟨nm_T3, 4, fc_3, Nat.le_of_ble_eq_true rfl, im_gm (List.mem_of_getElem? (i := 221) (by decide +kernel)) (by decide +kernel), rfl, rfl⟩
theorem fl_4_9 : im_fl 4 9 4 0 true := ⟨nm_T4, 4, fc_4, Nat.le_of_ble_eq_true rfl, im_gm (List.mem_of_getElem? (i := 196) (by decide +kernel)) (by decide +kernel), rfl, rfl⟩
theorem fl_4_15 : im_fl 4 15 4 1 true := ⟨nm_T4, 4, fc_4, Nat.le_of_ble_eq_true rfl, im_gm (List.mem_of_getElem? (i := 197) (by decide +kernel)) (by decide +kernel), rfl, rfl⟩
theorem fl_4_49 : im_fl 4 49 4 2 false := ⟨nm_T4, 4, fc_4, Nat.le_of_ble_eq_true rfl, im_gm (List.mem_of_getElem? (i := 198) (by decide +kernel)) (by decide +kernel), rfl, rfl⟩
theorem fl_4_53 : im_fl 4 53 4 3 false := ⟨nm_T4, 4, fc_4, Nat.le_of_ble_eq_true rfl, im_gm (List.mem_of_getElem? (i := 199) (by decide +kernel)) (by decide +kernel), rfl, rfl⟩
theorem fl_4_67 : im_fl 4 67 5 6 false := ⟨nm_T5, 11, fc_5, Nat.le_of_ble_eq_true rfl, im_gm (List.mem_of_getElem? (i := 167) (by decide +kernel)) (by decide +kernel), rfl, rfl⟩
theorem fl_4_76 : im_fl 4 76 5 5 false := ⟨nm_T5, 11, fc_5, Nat.le_of_ble_eq_true rfl, im_gm (List.mem_of_getElem? (i := 164) (by decide +kernel)) (by decide +kernel), rfl, rfl⟩
theorem fl_4_96 : im_fl 4 96 5 1 true := ⟨nm_T5, 11, fc_5, Nat.le_of_ble_eq_true rfl, im_gm (List.mem_of_getElem? (i := 154) (by decide +kernel)) (by decide +kernel), rfl, rfl⟩
theorem fl_4_114 : im_fl 4 114 5 3 true := ⟨nm_T5, 11, fc_5, Nat.le_of_ble_eq_true rfl, im_gm (List.mem_of_getElem? (i := 159) (by decide +kernel)) (by decide +kernel), rfl, rfl⟩
theorem fl_4_150 : im_fl 4 150 5 0 true := ⟨nm_T5, 11, fc_5, Nat.le_of_ble_eq_true rfl, im_gm (List.mem_of_getElem? (i := 152) (by decide +kernel)) (by decide +kernel), rfl, rfl⟩
theorem fl_5_9 : im_fl 5 9 5 1 true := ⟨nm_T5, 11, fc_5, Nat.le_of_ble_eq_true rfl, im_gm (List.mem_of_getElem? (i := 153) (by decide +kernel)) (by decide +kernel), rfl, rfl⟩
theorem fl_5_13 : im_fl 5 13 5 2 true := ⟨nm_T5, 11, fc_5, Nat.le_of_ble_eq_true rfl, im_gm (List.mem_of_getElem? (i := 156) (by decide +kernel)) (by decide +kernel), rfl, rfl⟩
theorem fl_5_19 : im_fl 5 19 5 3 true := ⟨nm_T5, 11, fc_5, Nat.le_of_ble_eq_true rfl, im_gm (List.mem_of_getElem? (i := 158) (by decide +kernel)) (by decide +kernel), rfl, rfl⟩
theorem fl_5_23 : im_fl 5 23 5 7 true := ⟨nm_T5, 11, fc_5, Nat.le_of_ble_eq_true rfl, im_gm (List.mem_of_getElem? (i := 169) (by decide +kernel)) (by decide +kernel), rfl, rfl⟩
theorem fl_5_26 : im_fl 5 26 5 8 true := ⟨nm_T5, 11, fc_5, Nat.le_of_ble_eq_true rfl, im_gm (List.mem_of_getElem? (i := 170) (by decide +kernel)) (by decide +kernel), rfl, rfl⟩
theorem fl_5_29 : im_fl 5 29 5 0 true := ⟨nm_T5, 11, fc_5, Nat.le_of_ble_eq_true rfl, im_gm (List.mem_of_getElem? (i := 151) (by decide +kernel)) (by decide +kernel), rfl, rfl⟩
theorem fl_5_46 : im_fl 5 46 5 5 false := ⟨nm_T5, 11, fc_5, Nat.le_of_ble_eq_true rfl, im_gm (List.mem_of_getElem? (i := 163) (by decide +kernel)) (by decide +kernel), rfl, rfl⟩
theorem fl_5_49 : im_fl 5 49 5 6 false := ⟨nm_T5, 11, fc_5, Nat.le_of_ble_eq_true rfl, im_gm (List.mem_of_getElem? (i := 166) (by decide +kernel)) (by decide +kernel), rfl, rfl⟩
theorem fl_5_52 : im_fl 5 52 5 4 false := ⟨nm_T5, 11, fc_5, Nat.le_of_ble_eq_true rfl, im_gm (List.mem_of_getElem? (i := 161) (by decide +kernel)) (by decide +kernel), rfl, rfl⟩
theorem fl_5_55 : im_fl 5 55 5 9 false := ⟨nm_T5, 11, fc_5, Nat.le_of_ble_eq_true rfl, im_gm (List.mem_of_getElem? (i := 171) (by decide +kernel)) (by decide +kernel), rfl, rfl⟩
theorem fl_5_58 : im_fl 5 58 5 10 false := ⟨nm_T5, 11, fc_5, Nat.le_of_ble_eq_true rfl, im_gm (List.mem_of_getElem? (i := 172) (by decide +kernel)) (by decide +kernel), rfl, rfl⟩
theorem fl_6_9 : im_fl 6 9 6 0 true := ⟨nm_T6, 6, fc_6, Nat.le_of_ble_eq_true rfl, im_gm (List.mem_of_getElem? (i := 69) (by decide +kernel)) (by decide +kernel), rfl, rfl⟩
theorem fl_6_13 : im_fl 6 13 6 1 true := ⟨nm_T6, 6, fc_6, Nat.le_of_ble_eq_true rfl, im_gm (List.mem_of_getElem? (i := 70) (by decide +kernel)) (by decide +kernel), rfl, rfl⟩
theorem fl_6_16 : im_fl 6 16 6 2 true := ⟨nm_T6, 6, fc_6, Nat.le_of_ble_eq_true rfl, im_gm (List.mem_of_getElem? (i := 71) (by decide +kernel)) (by decide +kernel), rfl, rfl⟩
theorem fl_6_19 : im_fl 6 19 6 3 true := ⟨nm_T6, 6, fc_6, Nat.le_of_ble_eq_true rfl, im_gm (List.mem_of_getElem? (i := 72) (by decide +kernel)) (by decide +kernel), rfl, rfl⟩
theorem fl_6_22 : im_fl 6 22 6 4 true := ⟨nm_T6, 6, fc_6, Nat.le_of_ble_eq_true rfl, im_gm (List.mem_of_getElem? (i := 73) (by decide +kernel)) (by decide +kernel), rfl, rfl⟩
theorem fl_6_31 : im_fl 6 31 6 5 false := ⟨nm_T6, 6, fc_6, Nat.le_of_ble_eq_true rfl, im_gm (List.mem_of_getElem? (i := 74) (by decide +kernel)) (by decide +kernel), rfl, rfl⟩
theorem fl_7_10 : im_fl 7 10 7 0 true := ⟨nm_T7, 4, fc_7, Nat.le_of_ble_eq_true rfl, im_gm (List.mem_of_getElem? (i := 231) (by decide +kernel)) (by decide +kernel), rfl, rfl⟩
theorem fl_7_19 : im_fl 7 19 7 1 true := ⟨nm_T7, 4, fc_7, Nat.le_of_ble_eq_true rfl, im_gm (List.mem_of_getElem? (i := 232) (by decide +kernel)) (by decide +kernel), rfl, rfl⟩
theorem fl_7_26 : im_fl 7 26 7 2 true := ⟨nm_T7, 4, fc_7, Nat.le_of_ble_eq_true rfl, im_gm (List.mem_of_getElem? (i := 233) (by decide +kernel)) (by decide +kernel), rfl, rfl⟩
theorem fl_7_33 : im_fl 7 33 7 3 true := ⟨nm_T7, 4, fc_7, Nat.le_of_ble_eq_true rfl, im_gm (List.mem_of_getElem? (i := 234) (by decide +kernel)) (by decide +kernel), rfl, rfl⟩
theorem fl_7_89 : im_fl 7 89 5 6 false := ⟨nm_T5, 11, fc_5, Nat.le_of_ble_eq_true rfl, im_gm (List.mem_of_getElem? (i := 168) (by decide +kernel)) (by decide +kernel), rfl, rfl⟩
theorem fl_7_99 : im_fl 7 99 5 5 false := ⟨nm_T5, 11, fc_5, Nat.le_of_ble_eq_true rfl, im_gm (List.mem_of_getElem? (i := 165) (by decide +kernel)) (by decide +kernel), rfl, rfl⟩
theorem fl_7_102 : im_fl 7 102 5 1 true := ⟨nm_T5, 11, fc_5, Nat.le_of_ble_eq_true rfl, im_gm (List.mem_of_getElem? (i := 155) (by decide +kernel)) (by decide +kernel), rfl, rfl⟩
theorem fl_7_112 : im_fl 7 112 5 3 true := ⟨nm_T5, 11, fc_5, Nat.le_of_ble_eq_true rfl, im_gm (List.mem_of_getElem? (i := 160) (by decide +kernel)) (by decide +kernel), rfl, rfl⟩
theorem fl_7_116 : im_fl 7 116 2 0 true := ⟨nm_T2, 3, fc_2, Nat.le_of_ble_eq_true rfl, im_gm (List.mem_of_getElem? (i := 141) (by decide +kernel)) (by decide +kernel), rfl, rfl⟩
theorem fl_7_132 : im_fl 7 132 3 0 true := ⟨nm_T3, 4, fc_3, Nat.le_of_ble_eq_true rfl, im_gm (List.mem_of_getElem? (i := 218) (by decide +kernel)) (by decide +kernel), rfl, rfl⟩
theorem fl_8_7 : im_fl 8 7 8 0 true := ⟨nm_T8, 32, fc_8, Nat.le_of_ble_eq_true rfl, im_gm (List.mem_of_getElem? (i := 667) (by decide +kernel)) (by decide +kernel), rfl, rfl⟩
theorem fl_8_13 : im_fl 8 13 8 1 true := ⟨nm_T8, 32, fc_8, Nat.le_of_ble_eq_true rfl, im_gm (List.mem_of_getElem? (i := 668) (by decide +kernel)) (by decide +kernel), rfl, rfl⟩
theorem fl_8_16 : im_fl 8 16 8 2 true := ⟨nm_T8, 32, fc_8, Nat.le_of_ble_eq_true rfl, im_gm (List.mem_of_getElem? (i := 669) (by decide +kernel)) (by decide +kernel), rfl, rfl⟩
theorem fl_8_19 : im_fl 8 19 8 3 true := ⟨nm_T8, 32, fc_8, Nat.le_of_ble_eq_true rfl, im_gm (List.mem_of_getElem? (i := 670) (by decide +kernel)) (by decide +kernel), rfl, rfl⟩
theorem fl_8_22 : im_fl 8 22 8 4 true := ⟨nm_T8, 32, fc_8, Nat.le_of_ble_eq_true rfl, im_gm (List.mem_of_getElem? (i := 671) (by decide +kernel)) (by decide +kernel), rfl, rfl⟩
theorem fl_8_25 : im_fl 8 25 8 5 true := ⟨nm_T8, 32, fc_8, Nat.le_of_ble_eq_true rfl, im_gm (List.mem_of_getElem? (i := 672) (by decide +kernel)) (by decide +kernel), rfl, rfl⟩
theorem fl_8_28 : im_fl 8 28 8 6 true := ⟨nm_T8, 32, fc_8, Nat.le_of_ble_eq_true rfl, im_gm (List.mem_of_getElem? (i := 673) (by decide +kernel)) (by decide +kernel), rfl, rfl⟩
theorem fl_8_31 : im_fl 8 31 8 7 true := ⟨nm_T8, 32, fc_8, Nat.le_of_ble_eq_true rfl, im_gm (List.mem_of_getElem? (i := 674) (by decide +kernel)) (by decide +kernel), rfl, rfl⟩
theorem fl_8_34 : im_fl 8 34 8 8 true := ⟨nm_T8, 32, fc_8, Nat.le_of_ble_eq_true rfl, im_gm (List.mem_of_getElem? (i := 675) (by decide +kernel)) (by decide +kernel), rfl, rfl⟩
theorem fl_8_37 : im_fl 8 37 8 9 true := ⟨nm_T8, 32, fc_8, Nat.le_of_ble_eq_true rfl, im_gm (List.mem_of_getElem? (i := 676) (by decide +kernel)) (by decide +kernel), rfl, rfl⟩
theorem fl_8_40 : im_fl 8 40 8 10 true := ⟨nm_T8, 32, fc_8, Nat.le_of_ble_eq_true rfl, im_gm (List.mem_of_getElem? (i := 677) (by decide +kernel)) (by decide +kernel), rfl, rfl⟩
theorem fl_8_43 : im_fl 8 43 8 11 true := ⟨nm_T8, 32, fc_8, Nat.le_of_ble_eq_true rfl, im_gm (List.mem_of_getElem? (i := 678) (by decide +kernel)) (by decide +kernel), rfl, rfl⟩
theorem fl_8_46 : im_fl 8 46 8 12 true := ⟨nm_T8, 32, fc_8, Nat.le_of_ble_eq_true rfl, im_gm (List.mem_of_getElem? (i := 679) (by decide +kernel)) (by decide +kernel), rfl, rfl⟩
theorem fl_8_49 : im_fl 8 49 8 13 true := ⟨nm_T8, 32, fc_8, Nat.le_of_ble_eq_true rfl, im_gm (List.mem_of_getElem? (i := 680) (by decide +kernel)) (by decide +kernel), rfl, rfl⟩
theorem fl_8_52 : im_fl 8 52 8 17 true := ⟨nm_T8, 32, fc_8, Nat.le_of_ble_eq_true rfl, im_gm (List.mem_of_getElem? (i := 684) (by decide +kernel)) (by decide +kernel), rfl, rfl⟩
theorem fl_8_55 : im_fl 8 55 8 18 true := ⟨nm_T8, 32, fc_8, Nat.le_of_ble_eq_true rfl, im_gm (List.mem_of_getElem? (i := 685) (by decide +kernel)) (by decide +kernel), rfl, rfl⟩
theorem fl_8_58 : im_fl 8 58 8 19 true := ⟨nm_T8, 32, fc_8, Nat.le_of_ble_eq_true rfl, im_gm (List.mem_of_getElem? (i := 686) (by decide +kernel)) (by decide +kernel), rfl, rfl⟩
theorem fl_8_61 : im_fl 8 61 8 20 true := ⟨nm_T8, 32, fc_8, Nat.le_of_ble_eq_true rfl, im_gm (List.mem_of_getElem? (i := 687) (by decide +kernel)) (by decide +kernel), rfl, rfl⟩
theorem fl_8_64 : im_fl 8 64 8 21 true := ⟨nm_T8, 32, fc_8, Nat.le_of_ble_eq_true rfl, im_gm (List.mem_of_getElem? (i := 688) (by decide +kernel)) (by decide +kernel), rfl, rfl⟩
theorem fl_8_68 : im_fl 8 68 8 22 true := ⟨nm_T8, 32, fc_8, Nat.le_of_ble_eq_true rfl, im_gm (List.mem_of_getElem? (i := 689) (by decide +kernel)) (by decide +kernel), rfl, rfl⟩
theorem fl_8_71 : im_fl 8 71 8 24 true := ⟨nm_T8, 32, fc_8, Nat.le_of_ble_eq_true rfl, im_gm (List.mem_of_getElem? (i := 691) (by decide +kernel)) (by decide +kernel), rfl, rfl⟩
theorem fl_8_74 : im_fl 8 74 8 25 true := ⟨nm_T8, 32, fc_8, Nat.le_of_ble_eq_true rfl, im_gm (List.mem_of_getElem? (i := 692) (by decide +kernel)) (by decide +kernel), rfl, rfl⟩
theorem fl_8_77 : im_fl 8 77 8 26 true := ⟨nm_T8, 32, fc_8, Nat.le_of_ble_eq_true rfl, im_gm (List.mem_of_getElem? (i := 693) (by decide +kernel)) (by decide +kernel), rfl, rfl⟩
theorem fl_8_80 : im_fl 8 80 8 31 true := ⟨nm_T8, 32, fc_8, Nat.le_of_ble_eq_true rfl, im_gm (List.mem_of_getElem? (i := 698) (by decide +kernel)) (by decide +kernel), rfl, rfl⟩
theorem fl_8_89 : im_fl 8 89 8 16 false := ⟨nm_T8, 32, fc_8, Nat.le_of_ble_eq_true rfl, im_gm (List.mem_of_getElem? (i := 683) (by decide +kernel)) (by decide +kernel), rfl, rfl⟩
theorem fl_8_93 : im_fl 8 93 8 23 false := ⟨nm_T8, 32, fc_8, Nat.le_of_ble_eq_true rfl, im_gm (List.mem_of_getElem? (i := 690) (by decide +kernel)) (by decide +kernel), rfl, rfl⟩
theorem fl_8_138 : im_fl 8 138 8 14 false := ⟨nm_T8, 32, fc_8, Nat.le_of_ble_eq_true rfl, im_gm (List.mem_of_getElem? (i := 681) (by decide +kernel)) (by decide +kernel), rfl, rfl⟩
theorem fl_8_141 : im_fl 8 141 8 15 false := ⟨nm_T8, 32, fc_8, Nat.le_of_ble_eq_true rfl, im_gm (List.mem_of_getElem? (i := 682) (by decide +kernel)) (by decide +kernel), rfl, rfl⟩
theorem fl_8_173 : im_fl 8 173 8 27 false := ⟨nm_T8, 32, fc_8, Nat.le_of_ble_eq_true rfl, im_gm (List.mem_of_getElem? (i := 694) (by decide +kernel)) (by decide +kernel), rfl, rfl⟩
theorem fl_8_176 : im_fl 8 176 8 28 false := ⟨nm_T8, 32, fc_8, Nat.le_of_ble_eq_true rfl, im_gm (List.mem_of_getElem? (i := 695) (by decide +kernel)) (by decide +kernel), rfl, rfl⟩
theorem fl_8_179 : im_fl 8 179 8 29 false := ⟨nm_T8, 32, fc_8, Nat.le_of_ble_eq_true rfl, im_gm (List.mem_of_getElem? (i := 696) (by decide +kernel)) (by decide +kernel), rfl, rfl⟩
theorem fl_8_182 : im_fl 8 182 8 30 false := ⟨nm_T8, 32, fc_8, Nat.le_of_ble_eq_true rfl, im_gm (List.mem_of_getElem? (i := 697) (by decide +kernel)) (by decide +kernel), rfl, rfl⟩
def ym_0 : MethodName := ⟨"FencedModules$CallList", "<init>", "()V"⟩
def fm_0 : im_F := (0, true, true, none, cm_0, 1)
set_option maxRecDepth 30000 in
theorem mf_0 : im_mf ym_0 1 fm_0 := ⟨by decide +kernel, im_gm (List.mem_of_getElem? (i := 125) rfl) rfl, im_gm (List.mem_of_getElem? (i := 46) (by decide +kernel)) (by decide +kernel), ⟨by decide +kernel, by decide +kernel⟩, rfl, Nat.le_of_ble_eq_true rfl, Nat.le_of_ble_eq_true rfl, fun _ => rfl⟩
theorem mp_0 : (parseMethodDescriptor ym_0.desc).map (fun d => d.parameters.length) = some 0 := by decide +kernel
theorem mi_0 : Cond.instanceMethod ym_0 ∈ im_g := im_gm (List.mem_of_getElem? (i := 124) (by decide +kernel)) (by decide +kernel)
def ym_1 : MethodName := ⟨"FencedModules$CallList", "empty", "()V"⟩
def fm_1 : im_F := (0, false, false, none, cm_1, 1)
set_option maxRecDepth 30000 in
theorem mf_1 : im_mf ym_1 1 fm_1 := ⟨by decide +kernel, im_gm (List.mem_of_getElem? (i := 458) rfl) rfl, im_gm (List.mem_of_getElem? (i := 46) (by decide +kernel)) (by decide +kernel), ⟨by decide +kernel, by decide +kernel⟩, rfl, Nat.le_of_ble_eq_true rfl, Nat.le_of_ble_eq_true rfl, fun h => nomatch h⟩
theorem mp_1 : (parseMethodDescriptor ym_1.desc).map (fun d => d.parameters.length) = some 0 := by decide +kernel
theorem mi_1 : Cond.instanceMethod ym_1 ∈ im_g := im_gm (List.mem_of_getElem? (i := 456) (by decide +kernel)) (by decide +kernel)
theorem ms_1 : Cond.selects ym_1.cls ym_1 ym_1 ∈ im_g := im_gm (List.mem_of_getElem? (i := 457) (by decide +kernel)) (by decide +kernel)
def ym_2 : MethodName := ⟨"FencedModules$CallList", "note", "(III)V"⟩
def fm_2 : im_F := (0, false, false, none, cm_2, 4)
set_option maxRecDepth 30000 in
theorem mf_2 : im_mf ym_2 4 fm_2 := ⟨by decide +kernel, im_gm (List.mem_of_getElem? (i := 516) rfl) rfl, im_gm (List.mem_of_getElem? (i := 46) (by decide +kernel)) (by decide +kernel), ⟨by decide +kernel, by decide +kernel⟩, rfl, Nat.le_of_ble_eq_true rfl, Nat.le_of_ble_eq_true rfl, fun h => nomatch h⟩
theorem mp_2 : (parseMethodDescriptor ym_2.desc).map (fun d => d.parameters.length) = some 3 := by decide +kernel
theorem mi_2 : Cond.instanceMethod ym_2 ∈ im_g := im_gm (List.mem_of_getElem? (i := 514) (by decide +kernel)) (by decide +kernel)
theorem ms_2 : Cond.selects ym_2.cls ym_2 ym_2 ∈ im_g := im_gm (List.mem_of_getElem? (i := 515) (by decide +kernel)) (by decide +kernel)
def ym_3 : MethodName := ⟨"FencedModules$CallList", "tell", "(II)I"⟩
def fm_3 : im_F := (0, false, false, some .int, cm_3, 3)
set_option maxRecDepth 30000 in
theorem mf_3 : im_mf ym_3 3 fm_3 := ⟨by decide +kernel, im_gm (List.mem_of_getElem? (i := 591) rfl) rfl, im_gm (List.mem_of_getElem? (i := 46) (by decide +kernel)) (by decide +kernel), ⟨by decide +kernel, by decide +kernel⟩, rfl, Nat.le_of_ble_eq_true rfl, Nat.le_of_ble_eq_true rfl, fun h => nomatch h⟩
theorem mp_3 : (parseMethodDescriptor ym_3.desc).map (fun d => d.parameters.length) = some 2 := by decide +kernel
theorem mi_3 : Cond.instanceMethod ym_3 ∈ im_g := im_gm (List.mem_of_getElem? (i := 589) (by decide +kernel)) (by decide +kernel)
theorem ms_3 : Cond.selects ym_3.cls ym_3 ym_3 ∈ im_g := im_gm (List.mem_of_getElem? (i := 590) (by decide +kernel)) (by decide +kernel)
def ym_4 : MethodName := ⟨"FencedModules$Code", "<init>", "()V"⟩
def fm_4 : im_F := (1, true, true, none, cm_4, 1)
set_option maxRecDepth 30000 in
theorem mf_4 : im_mf ym_4 1 fm_4 := ⟨by decide +kernel, im_gm (List.mem_of_getElem? (i := 93) rfl) rfl, im_gm (List.mem_of_getElem? (i := 42) (by decide +kernel)) (by decide +kernel), ⟨by decide +kernel, by decide +kernel⟩, rfl, Nat.le_of_ble_eq_true rfl, Nat.le_of_ble_eq_true rfl, fun _ => rfl⟩
theorem mp_4 : (parseMethodDescriptor ym_4.desc).map (fun d => d.parameters.length) = some 0 := by decide +kernel
theorem mi_4 : Cond.instanceMethod ym_4 ∈ im_g := im_gm (List.mem_of_getElem? (i := 92) (by decide +kernel)) (by decide +kernel)
def ym_5 : MethodName := ⟨"FencedModules$Code", "empty", "()V"⟩
def fm_5 : im_F := (1, false, false, none, cm_5, 1)
set_option maxRecDepth 30000 in
theorem mf_5 : im_mf ym_5 1 fm_5 := ⟨by decide +kernel, im_gm (List.mem_of_getElem? (i := 273) rfl) rfl, im_gm (List.mem_of_getElem? (i := 42) (by decide +kernel)) (by decide +kernel), ⟨by decide +kernel, by decide +kernel⟩, rfl, Nat.le_of_ble_eq_true rfl, Nat.le_of_ble_eq_true rfl, fun h => nomatch h⟩
theorem mp_5 : (parseMethodDescriptor ym_5.desc).map (fun d => d.parameters.length) = some 0 := by decide +kernel
theorem mi_5 : Cond.instanceMethod ym_5 ∈ im_g := im_gm (List.mem_of_getElem? (i := 271) (by decide +kernel)) (by decide +kernel)
theorem ms_5 : Cond.selects ym_5.cls ym_5 ym_5 ∈ im_g := im_gm (List.mem_of_getElem? (i := 272) (by decide +kernel)) (by decide +kernel)
def ym_6 : MethodName := ⟨"FencedModules$Code", "add", "(I)Z"⟩
def fm_6 : im_F := (1, false, false, some .boolean, cm_6, 2)
set_option maxRecDepth 30000 in
theorem mf_6 : im_mf ym_6 2 fm_6 := ⟨by decide +kernel, im_gm (List.mem_of_getElem? (i := 348) rfl) rfl, im_gm (List.mem_of_getElem? (i := 42) (by decide +kernel)) (by decide +kernel), ⟨by decide +kernel, by decide +kernel⟩, rfl, Nat.le_of_ble_eq_true rfl, Nat.le_of_ble_eq_true rfl, fun h => nomatch h⟩
theorem mp_6 : (parseMethodDescriptor ym_6.desc).map (fun d => d.parameters.length) = some 1 := by decide +kernel
theorem mi_6 : Cond.instanceMethod ym_6 ∈ im_g := im_gm (List.mem_of_getElem? (i := 346) (by decide +kernel)) (by decide +kernel)
theorem ms_6 : Cond.selects ym_6.cls ym_6 ym_6 ∈ im_g := im_gm (List.mem_of_getElem? (i := 347) (by decide +kernel)) (by decide +kernel)
def ym_7 : MethodName := ⟨"FencedModules$Code", "count", "()I"⟩
def fm_7 : im_F := (1, false, false, some .int, cm_7, 1)
set_option maxRecDepth 30000 in
theorem mf_7 : im_mf ym_7 1 fm_7 := ⟨by decide +kernel, im_gm (List.mem_of_getElem? (i := 372) rfl) rfl, im_gm (List.mem_of_getElem? (i := 42) (by decide +kernel)) (by decide +kernel), ⟨by decide +kernel, by decide +kernel⟩, rfl, Nat.le_of_ble_eq_true rfl, Nat.le_of_ble_eq_true rfl, fun h => nomatch h⟩
theorem mp_7 : (parseMethodDescriptor ym_7.desc).map (fun d => d.parameters.length) = some 0 := by decide +kernel
theorem mi_7 : Cond.instanceMethod ym_7 ∈ im_g := im_gm (List.mem_of_getElem? (i := 370) (by decide +kernel)) (by decide +kernel)
theorem ms_7 : Cond.selects ym_7.cls ym_7 ym_7 ∈ im_g := im_gm (List.mem_of_getElem? (i := 371) (by decide +kernel)) (by decide +kernel)
def ym_8 : MethodName := ⟨"FencedModules$Code", "at", "(I)I"⟩
def fm_8 : im_F := (1, false, false, some .int, cm_8, 2)
set_option maxRecDepth 30000 in
theorem mf_8 : im_mf ym_8 2 fm_8 := ⟨by decide +kernel, im_gm (List.mem_of_getElem? (i := 389) rfl) rfl, im_gm (List.mem_of_getElem? (i := 42) (by decide +kernel)) (by decide +kernel), ⟨by decide +kernel, by decide +kernel⟩, rfl, Nat.le_of_ble_eq_true rfl, Nat.le_of_ble_eq_true rfl, fun h => nomatch h⟩
theorem mp_8 : (parseMethodDescriptor ym_8.desc).map (fun d => d.parameters.length) = some 1 := by decide +kernel
theorem mi_8 : Cond.instanceMethod ym_8 ∈ im_g := im_gm (List.mem_of_getElem? (i := 387) (by decide +kernel)) (by decide +kernel)
theorem ms_8 : Cond.selects ym_8.cls ym_8 ym_8 ∈ im_g := im_gm (List.mem_of_getElem? (i := 388) (by decide +kernel)) (by decide +kernel)
def ym_9 : MethodName := ⟨"FencedModules$Desk", "<init>", "()V"⟩
def fm_9 : im_F := (2, true, true, none, cm_9, 1)
set_option maxRecDepth 30000 in
theorem mf_9 : im_mf ym_9 1 fm_9 := ⟨by decide +kernel, im_gm (List.mem_of_getElem? (i := 119) rfl) rfl, im_gm (List.mem_of_getElem? (i := 45) (by decide +kernel)) (by decide +kernel), ⟨by decide +kernel, by decide +kernel⟩, rfl, Nat.le_of_ble_eq_true rfl, Nat.le_of_ble_eq_true rfl, fun _ => rfl⟩
theorem mp_9 : (parseMethodDescriptor ym_9.desc).map (fun d => d.parameters.length) = some 0 := by decide +kernel
theorem mi_9 : Cond.instanceMethod ym_9 ∈ im_g := im_gm (List.mem_of_getElem? (i := 118) (by decide +kernel)) (by decide +kernel)
def ym_10 : MethodName := ⟨"FencedModules$Desk", "answers", "(I)Z"⟩
def fm_10 : im_F := (2, false, false, some .boolean, cm_10, 1)
set_option maxRecDepth 30000 in
theorem mf_10 : im_mf ym_10 1 fm_10 := ⟨by decide +kernel, im_gm (List.mem_of_getElem? (i := 319) rfl) rfl, im_gm (List.mem_of_getElem? (i := 45) (by decide +kernel)) (by decide +kernel), ⟨by decide +kernel, by decide +kernel⟩, rfl, Nat.le_of_ble_eq_true rfl, Nat.le_of_ble_eq_true rfl, fun h => nomatch h⟩
theorem mp_10 : (parseMethodDescriptor ym_10.desc).map (fun d => d.parameters.length) = some 1 := by decide +kernel
theorem mi_10 : Cond.static ym_10 ∈ im_g := im_gm (List.mem_of_getElem? (i := 318) (by decide +kernel)) (by decide +kernel)
def ym_11 : MethodName := ⟨"FencedModules$Desk", "argumentsOf", "(I)I"⟩
def fm_11 : im_F := (2, false, false, some .int, cm_11, 1)
set_option maxRecDepth 30000 in
theorem mf_11 : im_mf ym_11 1 fm_11 := ⟨by decide +kernel, im_gm (List.mem_of_getElem? (i := 512) rfl) rfl, im_gm (List.mem_of_getElem? (i := 45) (by decide +kernel)) (by decide +kernel), ⟨by decide +kernel, by decide +kernel⟩, rfl, Nat.le_of_ble_eq_true rfl, Nat.le_of_ble_eq_true rfl, fun h => nomatch h⟩
theorem mp_11 : (parseMethodDescriptor ym_11.desc).map (fun d => d.parameters.length) = some 1 := by decide +kernel
theorem mi_11 : Cond.static ym_11 ∈ im_g := im_gm (List.mem_of_getElem? (i := 511) (by decide +kernel)) (by decide +kernel)
def ym_12 : MethodName := ⟨"FencedModules$Desk", "canPrint", "(II)Z"⟩
def fm_12 : im_F := (2, false, false, some .boolean, cm_12, 2)
set_option maxRecDepth 30000 in
theorem mf_12 : im_mf ym_12 2 fm_12 := ⟨by decide +kernel, im_gm (List.mem_of_getElem? (i := 539) rfl) rfl, im_gm (List.mem_of_getElem? (i := 45) (by decide +kernel)) (by decide +kernel), ⟨by decide +kernel, by decide +kernel⟩, rfl, Nat.le_of_ble_eq_true rfl, Nat.le_of_ble_eq_true rfl, fun h => nomatch h⟩
theorem mp_12 : (parseMethodDescriptor ym_12.desc).map (fun d => d.parameters.length) = some 2 := by decide +kernel
theorem mi_12 : Cond.static ym_12 ∈ im_g := im_gm (List.mem_of_getElem? (i := 538) (by decide +kernel)) (by decide +kernel)
def ym_13 : MethodName := ⟨"FencedModules$Desk", "open", "()V"⟩
def fm_13 : im_F := (2, false, false, none, cm_13, 1)
set_option maxRecDepth 30000 in
theorem mf_13 : im_mf ym_13 1 fm_13 := ⟨by decide +kernel, im_gm (List.mem_of_getElem? (i := 454) rfl) rfl, im_gm (List.mem_of_getElem? (i := 45) (by decide +kernel)) (by decide +kernel), ⟨by decide +kernel, by decide +kernel⟩, rfl, Nat.le_of_ble_eq_true rfl, Nat.le_of_ble_eq_true rfl, fun h => nomatch h⟩
theorem mp_13 : (parseMethodDescriptor ym_13.desc).map (fun d => d.parameters.length) = some 0 := by decide +kernel
theorem mi_13 : Cond.instanceMethod ym_13 ∈ im_g := im_gm (List.mem_of_getElem? (i := 452) (by decide +kernel)) (by decide +kernel)
theorem ms_13 : Cond.selects ym_13.cls ym_13 ym_13 ∈ im_g := im_gm (List.mem_of_getElem? (i := 453) (by decide +kernel)) (by decide +kernel)
def ym_14 : MethodName := ⟨"FencedModules$Desk", "note", "(III)V"⟩
def fm_14 : im_F := (2, false, false, none, cm_14, 5)
set_option maxRecDepth 30000 in
theorem mf_14 : im_mf ym_14 4 fm_14 := ⟨by decide +kernel, im_gm (List.mem_of_getElem? (i := 509) rfl) rfl, im_gm (List.mem_of_getElem? (i := 45) (by decide +kernel)) (by decide +kernel), ⟨by decide +kernel, by decide +kernel⟩, rfl, Nat.le_of_ble_eq_true rfl, Nat.le_of_ble_eq_true rfl, fun h => nomatch h⟩
theorem mp_14 : (parseMethodDescriptor ym_14.desc).map (fun d => d.parameters.length) = some 3 := by decide +kernel
theorem mi_14 : Cond.instanceMethod ym_14 ∈ im_g := im_gm (List.mem_of_getElem? (i := 507) (by decide +kernel)) (by decide +kernel)
theorem ms_14 : Cond.selects ym_14.cls ym_14 ym_14 ∈ im_g := im_gm (List.mem_of_getElem? (i := 508) (by decide +kernel)) (by decide +kernel)
def ym_15 : MethodName := ⟨"FencedModules$Desk", "allocate", "(I)I"⟩
def fm_15 : im_F := (2, false, false, some .int, cm_15, 3)
set_option maxRecDepth 30000 in
theorem mf_15 : im_mf ym_15 2 fm_15 := ⟨by decide +kernel, im_gm (List.mem_of_getElem? (i := 532) rfl) rfl, im_gm (List.mem_of_getElem? (i := 45) (by decide +kernel)) (by decide +kernel), ⟨by decide +kernel, by decide +kernel⟩, rfl, Nat.le_of_ble_eq_true rfl, Nat.le_of_ble_eq_true rfl, fun h => nomatch h⟩
theorem mp_15 : (parseMethodDescriptor ym_15.desc).map (fun d => d.parameters.length) = some 1 := by decide +kernel
theorem mi_15 : Cond.instanceMethod ym_15 ∈ im_g := im_gm (List.mem_of_getElem? (i := 530) (by decide +kernel)) (by decide +kernel)
theorem ms_15 : Cond.selects ym_15.cls ym_15 ym_15 ∈ im_g := im_gm (List.mem_of_getElem? (i := 531) (by decide +kernel)) (by decide +kernel)
def ym_16 : MethodName := ⟨"FencedModules$Desk", "takeInput", "(LFencedModules$Sandbox;)I"⟩
def fm_16 : im_F := (2, false, false, some .int, cm_16, 3)
set_option maxRecDepth 30000 in
theorem mf_16 : im_mf ym_16 2 fm_16 := ⟨by decide +kernel, im_gm (List.mem_of_getElem? (i := 528) rfl) rfl, im_gm (List.mem_of_getElem? (i := 45) (by decide +kernel)) (by decide +kernel), ⟨by decide +kernel, by decide +kernel⟩, rfl, Nat.le_of_ble_eq_true rfl, Nat.le_of_ble_eq_true rfl, fun h => nomatch h⟩
theorem mp_16 : (parseMethodDescriptor ym_16.desc).map (fun d => d.parameters.length) = some 1 := by decide +kernel
theorem mi_16 : Cond.instanceMethod ym_16 ∈ im_g := im_gm (List.mem_of_getElem? (i := 526) (by decide +kernel)) (by decide +kernel)
theorem ms_16 : Cond.selects ym_16.cls ym_16 ym_16 ∈ im_g := im_gm (List.mem_of_getElem? (i := 527) (by decide +kernel)) (by decide +kernel)
def ym_17 : MethodName := ⟨"FencedModules$Follower", "<init>", "()V"⟩
def fm_17 : im_F := (3, true, true, none, cm_17, 1)
set_option maxRecDepth 30000 in
theorem mf_17 : im_mf ym_17 1 fm_17 := ⟨by decide +kernel, im_gm (List.mem_of_getElem? (i := 213) rfl) rfl, im_gm (List.mem_of_getElem? (i := 47) (by decide +kernel)) (by decide +kernel), ⟨by decide +kernel, by decide +kernel⟩, rfl, Nat.le_of_ble_eq_true rfl, Nat.le_of_ble_eq_true rfl, fun _ => rfl⟩
theorem mp_17 : (parseMethodDescriptor ym_17.desc).map (fun d => d.parameters.length) = some 0 := by decide +kernel
theorem mi_17 : Cond.instanceMethod ym_17 ∈ im_g := im_gm (List.mem_of_getElem? (i := 212) (by decide +kernel)) (by decide +kernel)
def ym_18 : MethodName := ⟨"FencedModules$Follower", "goThrough", "(LFencedModules$Source;LFencedModules$Sandbox;I)I"⟩
def fm_18 : im_F := (3, false, false, some .int, cm_18, 6)
set_option maxRecDepth 30000 in
theorem mf_18 : im_mf ym_18 4 fm_18 := ⟨by decide +kernel, im_gm (List.mem_of_getElem? (i := 599) rfl) rfl, im_gm (List.mem_of_getElem? (i := 47) (by decide +kernel)) (by decide +kernel), ⟨by decide +kernel, by decide +kernel⟩, rfl, Nat.le_of_ble_eq_true rfl, Nat.le_of_ble_eq_true rfl, fun h => nomatch h⟩
theorem mp_18 : (parseMethodDescriptor ym_18.desc).map (fun d => d.parameters.length) = some 3 := by decide +kernel
theorem mi_18 : Cond.instanceMethod ym_18 ∈ im_g := im_gm (List.mem_of_getElem? (i := 597) (by decide +kernel)) (by decide +kernel)
theorem ms_18 : Cond.selects ym_18.cls ym_18 ym_18 ∈ im_g := im_gm (List.mem_of_getElem? (i := 598) (by decide +kernel)) (by decide +kernel)
def ym_19 : MethodName := ⟨"FencedModules$Follower", "reasonToEnd", "(LFencedModules$Source;)I"⟩
def fm_19 : im_F := (3, false, false, some .int, cm_19, 6)
set_option maxRecDepth 30000 in
theorem mf_19 : im_mf ym_19 2 fm_19 := ⟨by decide +kernel, im_gm (List.mem_of_getElem? (i := 605) rfl) rfl, im_gm (List.mem_of_getElem? (i := 47) (by decide +kernel)) (by decide +kernel), ⟨by decide +kernel, by decide +kernel⟩, rfl, Nat.le_of_ble_eq_true rfl, Nat.le_of_ble_eq_true rfl, fun h => nomatch h⟩
theorem mp_19 : (parseMethodDescriptor ym_19.desc).map (fun d => d.parameters.length) = some 1 := by decide +kernel
theorem mi_19 : Cond.instanceMethod ym_19 ∈ im_g := im_gm (List.mem_of_getElem? (i := 604) (by decide +kernel)) (by decide +kernel)
theorem ms_19 : Cond.selects ym_19.cls ym_19 ym_19 ∈ im_g := im_gm (List.mem_of_getElem? (i := 10) (by decide +kernel)) (by decide +kernel)
def ym_20 : MethodName := ⟨"FencedModules$Follower", "takesLabel", "(IIII)Z"⟩
def fm_20 : im_F := (3, false, false, some .boolean, cm_20, 5)
set_option maxRecDepth 30000 in
theorem mf_20 : im_mf ym_20 5 fm_20 := ⟨by decide +kernel, im_gm (List.mem_of_getElem? (i := 613) rfl) rfl, im_gm (List.mem_of_getElem? (i := 47) (by decide +kernel)) (by decide +kernel), ⟨by decide +kernel, by decide +kernel⟩, rfl, Nat.le_of_ble_eq_true rfl, Nat.le_of_ble_eq_true rfl, fun h => nomatch h⟩
theorem mp_20 : (parseMethodDescriptor ym_20.desc).map (fun d => d.parameters.length) = some 4 := by decide +kernel
theorem mi_20 : Cond.instanceMethod ym_20 ∈ im_g := im_gm (List.mem_of_getElem? (i := 612) (by decide +kernel)) (by decide +kernel)
theorem ms_20 : Cond.selects ym_20.cls ym_20 ym_20 ∈ im_g := im_gm (List.mem_of_getElem? (i := 11) (by decide +kernel)) (by decide +kernel)
def ym_21 : MethodName := ⟨"FencedModules$Follower", "callTakesLabel", "(I)Z"⟩
def fm_21 : im_F := (3, false, false, some .boolean, cm_21, 3)
set_option maxRecDepth 30000 in
theorem mf_21 : im_mf ym_21 2 fm_21 := ⟨by decide +kernel, im_gm (List.mem_of_getElem? (i := 621) rfl) rfl, im_gm (List.mem_of_getElem? (i := 47) (by decide +kernel)) (by decide +kernel), ⟨by decide +kernel, by decide +kernel⟩, rfl, Nat.le_of_ble_eq_true rfl, Nat.le_of_ble_eq_true rfl, fun h => nomatch h⟩
theorem mp_21 : (parseMethodDescriptor ym_21.desc).map (fun d => d.parameters.length) = some 1 := by decide +kernel
theorem mi_21 : Cond.instanceMethod ym_21 ∈ im_g := im_gm (List.mem_of_getElem? (i := 620) (by decide +kernel)) (by decide +kernel)
theorem ms_21 : Cond.selects ym_21.cls ym_21 ym_21 ∈ im_g := im_gm (List.mem_of_getElem? (i := 13) (by decide +kernel)) (by decide +kernel)
def ym_22 : MethodName := ⟨"FencedModules$Follower", "wouldPrintLabel", "(II)Z"⟩
def fm_22 : im_F := (3, false, false, some .boolean, cm_22, 4)
set_option maxRecDepth 30000 in
theorem mf_22 : im_mf ym_22 3 fm_22 := ⟨by decide +kernel, im_gm (List.mem_of_getElem? (i := 626) rfl) rfl, im_gm (List.mem_of_getElem? (i := 47) (by decide +kernel)) (by decide +kernel), ⟨by decide +kernel, by decide +kernel⟩, rfl, Nat.le_of_ble_eq_true rfl, Nat.le_of_ble_eq_true rfl, fun h => nomatch h⟩
theorem mp_22 : (parseMethodDescriptor ym_22.desc).map (fun d => d.parameters.length) = some 2 := by decide +kernel
theorem mi_22 : Cond.instanceMethod ym_22 ∈ im_g := im_gm (List.mem_of_getElem? (i := 625) (by decide +kernel)) (by decide +kernel)
theorem ms_22 : Cond.selects ym_22.cls ym_22 ym_22 ∈ im_g := im_gm (List.mem_of_getElem? (i := 14) (by decide +kernel)) (by decide +kernel)
def ym_23 : MethodName := ⟨"FencedModules$Follower", "holdsLabel", "(I)Z"⟩
def fm_23 : im_F := (3, false, false, some .boolean, cm_23, 2)
set_option maxRecDepth 30000 in
theorem mf_23 : im_mf ym_23 2 fm_23 := ⟨by decide +kernel, im_gm (List.mem_of_getElem? (i := 617) rfl) rfl, im_gm (List.mem_of_getElem? (i := 47) (by decide +kernel)) (by decide +kernel), ⟨by decide +kernel, by decide +kernel⟩, rfl, Nat.le_of_ble_eq_true rfl, Nat.le_of_ble_eq_true rfl, fun h => nomatch h⟩
theorem mp_23 : (parseMethodDescriptor ym_23.desc).map (fun d => d.parameters.length) = some 1 := by decide +kernel
theorem mi_23 : Cond.instanceMethod ym_23 ∈ im_g := im_gm (List.mem_of_getElem? (i := 616) (by decide +kernel)) (by decide +kernel)
theorem ms_23 : Cond.selects ym_23.cls ym_23 ym_23 ∈ im_g := im_gm (List.mem_of_getElem? (i := 12) (by decide +kernel)) (by decide +kernel)
def ym_24 : MethodName := ⟨"FencedModules$Follower", "isAddress", "(I)Z"⟩
def fm_24 : im_F := (3, false, false, some .boolean, cm_24, 1)
set_option maxRecDepth 30000 in
theorem mf_24 : im_mf ym_24 1 fm_24 := ⟨by decide +kernel, im_gm (List.mem_of_getElem? (i := 630) rfl) rfl, im_gm (List.mem_of_getElem? (i := 47) (by decide +kernel)) (by decide +kernel), ⟨by decide +kernel, by decide +kernel⟩, rfl, Nat.le_of_ble_eq_true rfl, Nat.le_of_ble_eq_true rfl, fun h => nomatch h⟩
theorem mp_24 : (parseMethodDescriptor ym_24.desc).map (fun d => d.parameters.length) = some 1 := by decide +kernel
theorem mi_24 : Cond.static ym_24 ∈ im_g := im_gm (List.mem_of_getElem? (i := 629) (by decide +kernel)) (by decide +kernel)
def ym_25 : MethodName := ⟨"FencedModules$Follower", "doLine", "(LFencedModules$Source;LFencedModules$Sandbox;)I"⟩
def fm_25 : im_F := (3, false, false, some .int, cm_25, 9)
set_option maxRecDepth 30000 in
theorem mf_25 : im_mf ym_25 3 fm_25 := ⟨by decide +kernel, im_gm (List.mem_of_getElem? (i := 634) rfl) rfl, im_gm (List.mem_of_getElem? (i := 47) (by decide +kernel)) (by decide +kernel), ⟨by decide +kernel, by decide +kernel⟩, rfl, Nat.le_of_ble_eq_true rfl, Nat.le_of_ble_eq_true rfl, fun h => nomatch h⟩
theorem mp_25 : (parseMethodDescriptor ym_25.desc).map (fun d => d.parameters.length) = some 2 := by decide +kernel
theorem mi_25 : Cond.instanceMethod ym_25 ∈ im_g := im_gm (List.mem_of_getElem? (i := 633) (by decide +kernel)) (by decide +kernel)
theorem ms_25 : Cond.selects ym_25.cls ym_25 ym_25 ∈ im_g := im_gm (List.mem_of_getElem? (i := 15) (by decide +kernel)) (by decide +kernel)
def ym_26 : MethodName := ⟨"FencedModules$Follower", "copyCell", "(II)V"⟩
def fm_26 : im_F := (3, false, false, none, cm_26, 3)
set_option maxRecDepth 30000 in
theorem mf_26 : im_mf ym_26 3 fm_26 := ⟨by decide +kernel, im_gm (List.mem_of_getElem? (i := 638) rfl) rfl, im_gm (List.mem_of_getElem? (i := 47) (by decide +kernel)) (by decide +kernel), ⟨by decide +kernel, by decide +kernel⟩, rfl, Nat.le_of_ble_eq_true rfl, Nat.le_of_ble_eq_true rfl, fun h => nomatch h⟩
theorem mp_26 : (parseMethodDescriptor ym_26.desc).map (fun d => d.parameters.length) = some 2 := by decide +kernel
theorem mi_26 : Cond.instanceMethod ym_26 ∈ im_g := im_gm (List.mem_of_getElem? (i := 637) (by decide +kernel)) (by decide +kernel)
theorem ms_26 : Cond.selects ym_26.cls ym_26 ym_26 ∈ im_g := im_gm (List.mem_of_getElem? (i := 16) (by decide +kernel)) (by decide +kernel)
def ym_27 : MethodName := ⟨"FencedModules$Follower", "putInt", "(II)V"⟩
def fm_27 : im_F := (3, false, false, none, cm_27, 3)
set_option maxRecDepth 30000 in
theorem mf_27 : im_mf ym_27 3 fm_27 := ⟨by decide +kernel, im_gm (List.mem_of_getElem? (i := 649) rfl) rfl, im_gm (List.mem_of_getElem? (i := 47) (by decide +kernel)) (by decide +kernel), ⟨by decide +kernel, by decide +kernel⟩, rfl, Nat.le_of_ble_eq_true rfl, Nat.le_of_ble_eq_true rfl, fun h => nomatch h⟩
theorem mp_27 : (parseMethodDescriptor ym_27.desc).map (fun d => d.parameters.length) = some 2 := by decide +kernel
theorem mi_27 : Cond.instanceMethod ym_27 ∈ im_g := im_gm (List.mem_of_getElem? (i := 648) (by decide +kernel)) (by decide +kernel)
theorem ms_27 : Cond.selects ym_27.cls ym_27 ym_27 ∈ im_g := im_gm (List.mem_of_getElem? (i := 18) (by decide +kernel)) (by decide +kernel)
def ym_28 : MethodName := ⟨"FencedModules$Follower", "compute", "(IIII)V"⟩
def fm_28 : im_F := (3, false, false, none, cm_28, 5)
set_option maxRecDepth 30000 in
theorem mf_28 : im_mf ym_28 5 fm_28 := ⟨by decide +kernel, im_gm (List.mem_of_getElem? (i := 655) rfl) rfl, im_gm (List.mem_of_getElem? (i := 47) (by decide +kernel)) (by decide +kernel), ⟨by decide +kernel, by decide +kernel⟩, rfl, Nat.le_of_ble_eq_true rfl, Nat.le_of_ble_eq_true rfl, fun h => nomatch h⟩
theorem mp_28 : (parseMethodDescriptor ym_28.desc).map (fun d => d.parameters.length) = some 4 := by decide +kernel
theorem mi_28 : Cond.instanceMethod ym_28 ∈ im_g := im_gm (List.mem_of_getElem? (i := 654) (by decide +kernel)) (by decide +kernel)
theorem ms_28 : Cond.selects ym_28.cls ym_28 ym_28 ∈ im_g := im_gm (List.mem_of_getElem? (i := 19) (by decide +kernel)) (by decide +kernel)
def ym_29 : MethodName := ⟨"FencedModules$Follower", "answerCall", "(LFencedModules$Sandbox;I)I"⟩
def fm_29 : im_F := (3, false, false, some .int, cm_29, 3)
set_option maxRecDepth 30000 in
theorem mf_29 : im_mf ym_29 3 fm_29 := ⟨by decide +kernel, im_gm (List.mem_of_getElem? (i := 644) rfl) rfl, im_gm (List.mem_of_getElem? (i := 47) (by decide +kernel)) (by decide +kernel), ⟨by decide +kernel, by decide +kernel⟩, rfl, Nat.le_of_ble_eq_true rfl, Nat.le_of_ble_eq_true rfl, fun h => nomatch h⟩
theorem mp_29 : (parseMethodDescriptor ym_29.desc).map (fun d => d.parameters.length) = some 2 := by decide +kernel
theorem mi_29 : Cond.instanceMethod ym_29 ∈ im_g := im_gm (List.mem_of_getElem? (i := 643) (by decide +kernel)) (by decide +kernel)
theorem ms_29 : Cond.selects ym_29.cls ym_29 ym_29 ∈ im_g := im_gm (List.mem_of_getElem? (i := 17) (by decide +kernel)) (by decide +kernel)
def ym_30 : MethodName := ⟨"FencedModules$Machine", "<init>", "()V"⟩
def fm_30 : im_F := (4, true, true, none, cm_30, 2)
set_option maxRecDepth 30000 in
theorem mf_30 : im_mf ym_30 1 fm_30 := ⟨by decide +kernel, im_gm (List.mem_of_getElem? (i := 106) rfl) rfl, im_gm (List.mem_of_getElem? (i := 43) (by decide +kernel)) (by decide +kernel), ⟨by decide +kernel, by decide +kernel⟩, rfl, Nat.le_of_ble_eq_true rfl, Nat.le_of_ble_eq_true rfl, fun _ => rfl⟩
theorem mp_30 : (parseMethodDescriptor ym_30.desc).map (fun d => d.parameters.length) = some 0 := by decide +kernel
theorem mi_30 : Cond.instanceMethod ym_30 ∈ im_g := im_gm (List.mem_of_getElem? (i := 105) (by decide +kernel)) (by decide +kernel)
def ym_31 : MethodName := ⟨"FencedModules$Machine", "sandboxAt", "(I)LFencedModules$Sandbox;"⟩
def fm_31 : im_F := (4, false, false, some (.object "FencedModules$Sandbox"), cm_31, 2)
set_option maxRecDepth 30000 in
theorem mf_31 : im_mf ym_31 2 fm_31 := ⟨by decide +kernel, im_gm (List.mem_of_getElem? (i := 435) rfl) rfl, im_gm (List.mem_of_getElem? (i := 43) (by decide +kernel)) (by decide +kernel), ⟨by decide +kernel, by decide +kernel⟩, rfl, Nat.le_of_ble_eq_true rfl, Nat.le_of_ble_eq_true rfl, fun h => nomatch h⟩
theorem mp_31 : (parseMethodDescriptor ym_31.desc).map (fun d => d.parameters.length) = some 1 := by decide +kernel
theorem mi_31 : Cond.instanceMethod ym_31 ∈ im_g := im_gm (List.mem_of_getElem? (i := 433) (by decide +kernel)) (by decide +kernel)
theorem ms_31 : Cond.selects ym_31.cls ym_31 ym_31 ∈ im_g := im_gm (List.mem_of_getElem? (i := 434) (by decide +kernel)) (by decide +kernel)
def ym_32 : MethodName := ⟨"FencedModules$Machine", "read", "(I)I"⟩
def fm_32 : im_F := (4, false, false, some .int, cm_32, 2)
set_option maxRecDepth 30000 in
theorem mf_32 : im_mf ym_32 2 fm_32 := ⟨by decide +kernel, im_gm (List.mem_of_getElem? (i := 494) rfl) rfl, im_gm (List.mem_of_getElem? (i := 43) (by decide +kernel)) (by decide +kernel), ⟨by decide +kernel, by decide +kernel⟩, rfl, Nat.le_of_ble_eq_true rfl, Nat.le_of_ble_eq_true rfl, fun h => nomatch h⟩
theorem mp_32 : (parseMethodDescriptor ym_32.desc).map (fun d => d.parameters.length) = some 1 := by decide +kernel
theorem mi_32 : Cond.instanceMethod ym_32 ∈ im_g := im_gm (List.mem_of_getElem? (i := 492) (by decide +kernel)) (by decide +kernel)
theorem ms_32 : Cond.selects ym_32.cls ym_32 ym_32 ∈ im_g := im_gm (List.mem_of_getElem? (i := 493) (by decide +kernel)) (by decide +kernel)
def ym_33 : MethodName := ⟨"FencedModules$Machine", "write", "(II)V"⟩
def fm_33 : im_F := (4, false, false, none, cm_33, 3)
set_option maxRecDepth 30000 in
theorem mf_33 : im_mf ym_33 3 fm_33 := ⟨by decide +kernel, im_gm (List.mem_of_getElem? (i := 442) rfl) rfl, im_gm (List.mem_of_getElem? (i := 43) (by decide +kernel)) (by decide +kernel), ⟨by decide +kernel, by decide +kernel⟩, rfl, Nat.le_of_ble_eq_true rfl, Nat.le_of_ble_eq_true rfl, fun h => nomatch h⟩
theorem mp_33 : (parseMethodDescriptor ym_33.desc).map (fun d => d.parameters.length) = some 2 := by decide +kernel
theorem mi_33 : Cond.instanceMethod ym_33 ∈ im_g := im_gm (List.mem_of_getElem? (i := 441) (by decide +kernel)) (by decide +kernel)
theorem ms_33 : Cond.selects ym_33.cls ym_33 ym_33 ∈ im_g := im_gm (List.mem_of_getElem? (i := 2) (by decide +kernel)) (by decide +kernel)
def ym_34 : MethodName := ⟨"FencedModules$Machine", "install", "(LFencedModules$Code;I)V"⟩
def fm_34 : im_F := (4, false, false, none, cm_34, 5)
set_option maxRecDepth 30000 in
theorem mf_34 : im_mf ym_34 3 fm_34 := ⟨by decide +kernel, im_gm (List.mem_of_getElem? (i := 431) rfl) rfl, im_gm (List.mem_of_getElem? (i := 43) (by decide +kernel)) (by decide +kernel), ⟨by decide +kernel, by decide +kernel⟩, rfl, Nat.le_of_ble_eq_true rfl, Nat.le_of_ble_eq_true rfl, fun h => nomatch h⟩
theorem mp_34 : (parseMethodDescriptor ym_34.desc).map (fun d => d.parameters.length) = some 2 := by decide +kernel
theorem mi_34 : Cond.instanceMethod ym_34 ∈ im_g := im_gm (List.mem_of_getElem? (i := 429) (by decide +kernel)) (by decide +kernel)
theorem ms_34 : Cond.selects ym_34.cls ym_34 ym_34 ∈ im_g := im_gm (List.mem_of_getElem? (i := 430) (by decide +kernel)) (by decide +kernel)
def ym_35 : MethodName := ⟨"FencedModules$Machine", "advance", "(I)I"⟩
def fm_35 : im_F := (4, false, false, some .int, cm_35, 4)
set_option maxRecDepth 30000 in
theorem mf_35 : im_mf ym_35 2 fm_35 := ⟨by decide +kernel, im_gm (List.mem_of_getElem? (i := 475) rfl) rfl, im_gm (List.mem_of_getElem? (i := 43) (by decide +kernel)) (by decide +kernel), ⟨by decide +kernel, by decide +kernel⟩, rfl, Nat.le_of_ble_eq_true rfl, Nat.le_of_ble_eq_true rfl, fun h => nomatch h⟩
theorem mp_35 : (parseMethodDescriptor ym_35.desc).map (fun d => d.parameters.length) = some 1 := by decide +kernel
theorem mi_35 : Cond.instanceMethod ym_35 ∈ im_g := im_gm (List.mem_of_getElem? (i := 473) (by decide +kernel)) (by decide +kernel)
theorem ms_35 : Cond.selects ym_35.cls ym_35 ym_35 ∈ im_g := im_gm (List.mem_of_getElem? (i := 474) (by decide +kernel)) (by decide +kernel)
def ym_36 : MethodName := ⟨"FencedModules$Machine", "nextToStep", "()LFencedModules$Sandbox;"⟩
def fm_36 : im_F := (4, false, false, some (.object "FencedModules$Sandbox"), cm_36, 4)
set_option maxRecDepth 30000 in
theorem mf_36 : im_mf ym_36 1 fm_36 := ⟨by decide +kernel, im_gm (List.mem_of_getElem? (i := 479) rfl) rfl, im_gm (List.mem_of_getElem? (i := 43) (by decide +kernel)) (by decide +kernel), ⟨by decide +kernel, by decide +kernel⟩, rfl, Nat.le_of_ble_eq_true rfl, Nat.le_of_ble_eq_true rfl, fun h => nomatch h⟩
theorem mp_36 : (parseMethodDescriptor ym_36.desc).map (fun d => d.parameters.length) = some 0 := by decide +kernel
theorem mi_36 : Cond.instanceMethod ym_36 ∈ im_g := im_gm (List.mem_of_getElem? (i := 478) (by decide +kernel)) (by decide +kernel)
theorem ms_36 : Cond.selects ym_36.cls ym_36 ym_36 ∈ im_g := im_gm (List.mem_of_getElem? (i := 3) (by decide +kernel)) (by decide +kernel)
def ym_37 : MethodName := ⟨"FencedModules$Machine", "countStep", "(LFencedModules$Sandbox;)V"⟩
def fm_37 : im_F := (4, false, false, none, cm_37, 2)
set_option maxRecDepth 30000 in
theorem mf_37 : im_mf ym_37 2 fm_37 := ⟨by decide +kernel, im_gm (List.mem_of_getElem? (i := 558) rfl) rfl, im_gm (List.mem_of_getElem? (i := 43) (by decide +kernel)) (by decide +kernel), ⟨by decide +kernel, by decide +kernel⟩, rfl, Nat.le_of_ble_eq_true rfl, Nat.le_of_ble_eq_true rfl, fun h => nomatch h⟩
theorem mp_37 : (parseMethodDescriptor ym_37.desc).map (fun d => d.parameters.length) = some 1 := by decide +kernel
theorem mi_37 : Cond.instanceMethod ym_37 ∈ im_g := im_gm (List.mem_of_getElem? (i := 557) (by decide +kernel)) (by decide +kernel)
theorem ms_37 : Cond.selects ym_37.cls ym_37 ym_37 ∈ im_g := im_gm (List.mem_of_getElem? (i := 9) (by decide +kernel)) (by decide +kernel)
def ym_38 : MethodName := ⟨"FencedModules$Machine", "giveTurn", "(I)V"⟩
def fm_38 : im_F := (4, false, false, none, cm_38, 2)
set_option maxRecDepth 30000 in
theorem mf_38 : im_mf ym_38 2 fm_38 := ⟨by decide +kernel, im_gm (List.mem_of_getElem? (i := 483) rfl) rfl, im_gm (List.mem_of_getElem? (i := 43) (by decide +kernel)) (by decide +kernel), ⟨by decide +kernel, by decide +kernel⟩, rfl, Nat.le_of_ble_eq_true rfl, Nat.le_of_ble_eq_true rfl, fun h => nomatch h⟩
theorem mp_38 : (parseMethodDescriptor ym_38.desc).map (fun d => d.parameters.length) = some 1 := by decide +kernel
theorem mi_38 : Cond.instanceMethod ym_38 ∈ im_g := im_gm (List.mem_of_getElem? (i := 482) (by decide +kernel)) (by decide +kernel)
theorem ms_38 : Cond.selects ym_38.cls ym_38 ym_38 ∈ im_g := im_gm (List.mem_of_getElem? (i := 4) (by decide +kernel)) (by decide +kernel)
def ym_39 : MethodName := ⟨"FencedModules$Machine", "behind", "(I)I"⟩
def fm_39 : im_F := (4, false, false, some .int, cm_39, 1)
set_option maxRecDepth 30000 in
theorem mf_39 : im_mf ym_39 1 fm_39 := ⟨by decide +kernel, im_gm (List.mem_of_getElem? (i := 486) rfl) rfl, im_gm (List.mem_of_getElem? (i := 43) (by decide +kernel)) (by decide +kernel), ⟨by decide +kernel, by decide +kernel⟩, rfl, Nat.le_of_ble_eq_true rfl, Nat.le_of_ble_eq_true rfl, fun h => nomatch h⟩
theorem mp_39 : (parseMethodDescriptor ym_39.desc).map (fun d => d.parameters.length) = some 1 := by decide +kernel
theorem mi_39 : Cond.static ym_39 ∈ im_g := im_gm (List.mem_of_getElem? (i := 485) (by decide +kernel)) (by decide +kernel)
def ym_40 : MethodName := ⟨"FencedModules$Machine", "execute", "(LFencedModules$Sandbox;)V"⟩
def fm_40 : im_F := (4, false, false, none, cm_40, 9)
set_option maxRecDepth 30000 in
theorem mf_40 : im_mf ym_40 2 fm_40 := ⟨by decide +kernel, im_gm (List.mem_of_getElem? (i := 490) rfl) rfl, im_gm (List.mem_of_getElem? (i := 43) (by decide +kernel)) (by decide +kernel), ⟨by decide +kernel, by decide +kernel⟩, rfl, Nat.le_of_ble_eq_true rfl, Nat.le_of_ble_eq_true rfl, fun h => nomatch h⟩
theorem mp_40 : (parseMethodDescriptor ym_40.desc).map (fun d => d.parameters.length) = some 1 := by decide +kernel
theorem mi_40 : Cond.instanceMethod ym_40 ∈ im_g := im_gm (List.mem_of_getElem? (i := 489) (by decide +kernel)) (by decide +kernel)
theorem ms_40 : Cond.selects ym_40.cls ym_40 ym_40 ∈ im_g := im_gm (List.mem_of_getElem? (i := 5) (by decide +kernel)) (by decide +kernel)
def ym_41 : MethodName := ⟨"FencedModules$Machine", "answerCall", "(LFencedModules$Sandbox;II)V"⟩
def fm_41 : im_F := (4, false, false, none, cm_41, 5)
set_option maxRecDepth 30000 in
theorem mf_41 : im_mf ym_41 4 fm_41 := ⟨by decide +kernel, im_gm (List.mem_of_getElem? (i := 505) rfl) rfl, im_gm (List.mem_of_getElem? (i := 43) (by decide +kernel)) (by decide +kernel), ⟨by decide +kernel, by decide +kernel⟩, rfl, Nat.le_of_ble_eq_true rfl, Nat.le_of_ble_eq_true rfl, fun h => nomatch h⟩
theorem mp_41 : (parseMethodDescriptor ym_41.desc).map (fun d => d.parameters.length) = some 3 := by decide +kernel
theorem mi_41 : Cond.instanceMethod ym_41 ∈ im_g := im_gm (List.mem_of_getElem? (i := 504) (by decide +kernel)) (by decide +kernel)
theorem ms_41 : Cond.selects ym_41.cls ym_41 ym_41 ∈ im_g := im_gm (List.mem_of_getElem? (i := 6) (by decide +kernel)) (by decide +kernel)
def ym_42 : MethodName := ⟨"FencedModules$Machine", "print", "(LFencedModules$Sandbox;II)I"⟩
def fm_42 : im_F := (4, false, false, some .int, cm_42, 5)
set_option maxRecDepth 30000 in
theorem mf_42 : im_mf ym_42 4 fm_42 := ⟨by decide +kernel, im_gm (List.mem_of_getElem? (i := 536) rfl) rfl, im_gm (List.mem_of_getElem? (i := 43) (by decide +kernel)) (by decide +kernel), ⟨by decide +kernel, by decide +kernel⟩, rfl, Nat.le_of_ble_eq_true rfl, Nat.le_of_ble_eq_true rfl, fun h => nomatch h⟩
theorem mp_42 : (parseMethodDescriptor ym_42.desc).map (fun d => d.parameters.length) = some 3 := by decide +kernel
theorem mi_42 : Cond.instanceMethod ym_42 ∈ im_g := im_gm (List.mem_of_getElem? (i := 535) (by decide +kernel)) (by decide +kernel)
theorem ms_42 : Cond.selects ym_42.cls ym_42 ym_42 ∈ im_g := im_gm (List.mem_of_getElem? (i := 7) (by decide +kernel)) (by decide +kernel)
def ym_43 : MethodName := ⟨"FencedModules$Machine", "send", "(II)I"⟩
def fm_43 : im_F := (4, false, false, some .int, cm_43, 4)
set_option maxRecDepth 30000 in
theorem mf_43 : im_mf ym_43 3 fm_43 := ⟨by decide +kernel, im_gm (List.mem_of_getElem? (i := 543) rfl) rfl, im_gm (List.mem_of_getElem? (i := 43) (by decide +kernel)) (by decide +kernel), ⟨by decide +kernel, by decide +kernel⟩, rfl, Nat.le_of_ble_eq_true rfl, Nat.le_of_ble_eq_true rfl, fun h => nomatch h⟩
theorem mp_43 : (parseMethodDescriptor ym_43.desc).map (fun d => d.parameters.length) = some 2 := by decide +kernel
theorem mi_43 : Cond.instanceMethod ym_43 ∈ im_g := im_gm (List.mem_of_getElem? (i := 542) (by decide +kernel)) (by decide +kernel)
theorem ms_43 : Cond.selects ym_43.cls ym_43 ym_43 ∈ im_g := im_gm (List.mem_of_getElem? (i := 8) (by decide +kernel)) (by decide +kernel)
def ym_44 : MethodName := ⟨"FencedModules$Sandbox", "<init>", "(I)V"⟩
def fm_44 : im_F := (5, true, true, none, cm_44, 2)
set_option maxRecDepth 30000 in
theorem mf_44 : im_mf ym_44 2 fm_44 := ⟨by decide +kernel, im_gm (List.mem_of_getElem? (i := 113) rfl) rfl, im_gm (List.mem_of_getElem? (i := 44) (by decide +kernel)) (by decide +kernel), ⟨by decide +kernel, by decide +kernel⟩, rfl, Nat.le_of_ble_eq_true rfl, Nat.le_of_ble_eq_true rfl, fun _ => rfl⟩
theorem mp_44 : (parseMethodDescriptor ym_44.desc).map (fun d => d.parameters.length) = some 1 := by decide +kernel
theorem mi_44 : Cond.instanceMethod ym_44 ∈ im_g := im_gm (List.mem_of_getElem? (i := 112) (by decide +kernel)) (by decide +kernel)
def ym_45 : MethodName := ⟨"FencedModules$Sandbox", "exists", "(I)Z"⟩
def fm_45 : im_F := (5, false, false, some .boolean, cm_45, 1)
set_option maxRecDepth 30000 in
theorem mf_45 : im_mf ym_45 1 fm_45 := ⟨by decide +kernel, im_gm (List.mem_of_getElem? (i := 280) rfl) rfl, im_gm (List.mem_of_getElem? (i := 44) (by decide +kernel)) (by decide +kernel), ⟨by decide +kernel, by decide +kernel⟩, rfl, Nat.le_of_ble_eq_true rfl, Nat.le_of_ble_eq_true rfl, fun h => nomatch h⟩
theorem mp_45 : (parseMethodDescriptor ym_45.desc).map (fun d => d.parameters.length) = some 1 := by decide +kernel
theorem mi_45 : Cond.static ym_45 ∈ im_g := im_gm (List.mem_of_getElem? (i := 279) (by decide +kernel)) (by decide +kernel)
def ym_46 : MethodName := ⟨"FencedModules$Sandbox", "dataStart", "(I)I"⟩
def fm_46 : im_F := (5, false, false, some .int, cm_46, 1)
set_option maxRecDepth 30000 in
theorem mf_46 : im_mf ym_46 1 fm_46 := ⟨by decide +kernel, im_gm (List.mem_of_getElem? (i := 351) rfl) rfl, im_gm (List.mem_of_getElem? (i := 44) (by decide +kernel)) (by decide +kernel), ⟨by decide +kernel, by decide +kernel⟩, rfl, Nat.le_of_ble_eq_true rfl, Nat.le_of_ble_eq_true rfl, fun h => nomatch h⟩
theorem mp_46 : (parseMethodDescriptor ym_46.desc).map (fun d => d.parameters.length) = some 1 := by decide +kernel
theorem mi_46 : Cond.static ym_46 ∈ im_g := im_gm (List.mem_of_getElem? (i := 350) (by decide +kernel)) (by decide +kernel)
def ym_47 : MethodName := ⟨"FencedModules$Sandbox", "codeStart", "(I)I"⟩
def fm_47 : im_F := (5, false, false, some .int, cm_47, 1)
set_option maxRecDepth 30000 in
theorem mf_47 : im_mf ym_47 1 fm_47 := ⟨by decide +kernel, im_gm (List.mem_of_getElem? (i := 357) rfl) rfl, im_gm (List.mem_of_getElem? (i := 44) (by decide +kernel)) (by decide +kernel), ⟨by decide +kernel, by decide +kernel⟩, rfl, Nat.le_of_ble_eq_true rfl, Nat.le_of_ble_eq_true rfl, fun h => nomatch h⟩
theorem mp_47 : (parseMethodDescriptor ym_47.desc).map (fun d => d.parameters.length) = some 1 := by decide +kernel
theorem mi_47 : Cond.static ym_47 ∈ im_g := im_gm (List.mem_of_getElem? (i := 356) (by decide +kernel)) (by decide +kernel)
def ym_48 : MethodName := ⟨"FencedModules$Sandbox", "start", "()V"⟩
def fm_48 : im_F := (5, false, false, none, cm_48, 1)
set_option maxRecDepth 30000 in
theorem mf_48 : im_mf ym_48 1 fm_48 := ⟨by decide +kernel, im_gm (List.mem_of_getElem? (i := 447) rfl) rfl, im_gm (List.mem_of_getElem? (i := 44) (by decide +kernel)) (by decide +kernel), ⟨by decide +kernel, by decide +kernel⟩, rfl, Nat.le_of_ble_eq_true rfl, Nat.le_of_ble_eq_true rfl, fun h => nomatch h⟩
theorem mp_48 : (parseMethodDescriptor ym_48.desc).map (fun d => d.parameters.length) = some 0 := by decide +kernel
theorem mi_48 : Cond.instanceMethod ym_48 ∈ im_g := im_gm (List.mem_of_getElem? (i := 445) (by decide +kernel)) (by decide +kernel)
theorem ms_48 : Cond.selects ym_48.cls ym_48 ym_48 ∈ im_g := im_gm (List.mem_of_getElem? (i := 446) (by decide +kernel)) (by decide +kernel)
def ym_49 : MethodName := ⟨"FencedModules$Sandbox", "stop", "(II)V"⟩
def fm_49 : im_F := (5, false, false, none, cm_49, 3)
set_option maxRecDepth 30000 in
theorem mf_49 : im_mf ym_49 3 fm_49 := ⟨by decide +kernel, im_gm (List.mem_of_getElem? (i := 520) rfl) rfl, im_gm (List.mem_of_getElem? (i := 44) (by decide +kernel)) (by decide +kernel), ⟨by decide +kernel, by decide +kernel⟩, rfl, Nat.le_of_ble_eq_true rfl, Nat.le_of_ble_eq_true rfl, fun h => nomatch h⟩
theorem mp_49 : (parseMethodDescriptor ym_49.desc).map (fun d => d.parameters.length) = some 2 := by decide +kernel
theorem mi_49 : Cond.instanceMethod ym_49 ∈ im_g := im_gm (List.mem_of_getElem? (i := 518) (by decide +kernel)) (by decide +kernel)
theorem ms_49 : Cond.selects ym_49.cls ym_49 ym_49 ∈ im_g := im_gm (List.mem_of_getElem? (i := 519) (by decide +kernel)) (by decide +kernel)
def ym_50 : MethodName := ⟨"FencedModules$Sandbox", "addInput", "(I)Z"⟩
def fm_50 : im_F := (5, false, false, some .boolean, cm_50, 2)
set_option maxRecDepth 30000 in
theorem mf_50 : im_mf ym_50 2 fm_50 := ⟨by decide +kernel, im_gm (List.mem_of_getElem? (i := 467) rfl) rfl, im_gm (List.mem_of_getElem? (i := 44) (by decide +kernel)) (by decide +kernel), ⟨by decide +kernel, by decide +kernel⟩, rfl, Nat.le_of_ble_eq_true rfl, Nat.le_of_ble_eq_true rfl, fun h => nomatch h⟩
theorem mp_50 : (parseMethodDescriptor ym_50.desc).map (fun d => d.parameters.length) = some 1 := by decide +kernel
theorem mi_50 : Cond.instanceMethod ym_50 ∈ im_g := im_gm (List.mem_of_getElem? (i := 465) (by decide +kernel)) (by decide +kernel)
theorem ms_50 : Cond.selects ym_50.cls ym_50 ym_50 ∈ im_g := im_gm (List.mem_of_getElem? (i := 466) (by decide +kernel)) (by decide +kernel)
def ym_51 : MethodName := ⟨"FencedModules$Sandbox", "addMail", "(I)Z"⟩
def fm_51 : im_F := (5, false, false, some .boolean, cm_51, 2)
set_option maxRecDepth 30000 in
theorem mf_51 : im_mf ym_51 2 fm_51 := ⟨by decide +kernel, im_gm (List.mem_of_getElem? (i := 547) rfl) rfl, im_gm (List.mem_of_getElem? (i := 44) (by decide +kernel)) (by decide +kernel), ⟨by decide +kernel, by decide +kernel⟩, rfl, Nat.le_of_ble_eq_true rfl, Nat.le_of_ble_eq_true rfl, fun h => nomatch h⟩
theorem mp_51 : (parseMethodDescriptor ym_51.desc).map (fun d => d.parameters.length) = some 1 := by decide +kernel
theorem mi_51 : Cond.instanceMethod ym_51 ∈ im_g := im_gm (List.mem_of_getElem? (i := 545) (by decide +kernel)) (by decide +kernel)
theorem ms_51 : Cond.selects ym_51.cls ym_51 ym_51 ∈ im_g := im_gm (List.mem_of_getElem? (i := 546) (by decide +kernel)) (by decide +kernel)
def ym_52 : MethodName := ⟨"FencedModules$Sandbox", "takeMail", "()I"⟩
def fm_52 : im_F := (5, false, false, some .int, cm_52, 3)
set_option maxRecDepth 30000 in
theorem mf_52 : im_mf ym_52 1 fm_52 := ⟨by decide +kernel, im_gm (List.mem_of_getElem? (i := 551) rfl) rfl, im_gm (List.mem_of_getElem? (i := 44) (by decide +kernel)) (by decide +kernel), ⟨by decide +kernel, by decide +kernel⟩, rfl, Nat.le_of_ble_eq_true rfl, Nat.le_of_ble_eq_true rfl, fun h => nomatch h⟩
theorem mp_52 : (parseMethodDescriptor ym_52.desc).map (fun d => d.parameters.length) = some 0 := by decide +kernel
theorem mi_52 : Cond.instanceMethod ym_52 ∈ im_g := im_gm (List.mem_of_getElem? (i := 549) (by decide +kernel)) (by decide +kernel)
theorem ms_52 : Cond.selects ym_52.cls ym_52 ym_52 ∈ im_g := im_gm (List.mem_of_getElem? (i := 550) (by decide +kernel)) (by decide +kernel)
def ym_53 : MethodName := ⟨"FencedModules$Sandbox", "putOut", "(I)V"⟩
def fm_53 : im_F := (5, false, false, none, cm_53, 2)
set_option maxRecDepth 30000 in
theorem mf_53 : im_mf ym_53 2 fm_53 := ⟨by decide +kernel, im_gm (List.mem_of_getElem? (i := 524) rfl) rfl, im_gm (List.mem_of_getElem? (i := 44) (by decide +kernel)) (by decide +kernel), ⟨by decide +kernel, by decide +kernel⟩, rfl, Nat.le_of_ble_eq_true rfl, Nat.le_of_ble_eq_true rfl, fun h => nomatch h⟩
theorem mp_53 : (parseMethodDescriptor ym_53.desc).map (fun d => d.parameters.length) = some 1 := by decide +kernel
theorem mi_53 : Cond.instanceMethod ym_53 ∈ im_g := im_gm (List.mem_of_getElem? (i := 522) (by decide +kernel)) (by decide +kernel)
theorem ms_53 : Cond.selects ym_53.cls ym_53 ym_53 ∈ im_g := im_gm (List.mem_of_getElem? (i := 523) (by decide +kernel)) (by decide +kernel)
def ym_54 : MethodName := ⟨"FencedModules$Sandbox", "tellOutput", "(I)I"⟩
def fm_54 : im_F := (5, false, false, some .int, cm_54, 2)
set_option maxRecDepth 30000 in
theorem mf_54 : im_mf ym_54 2 fm_54 := ⟨by decide +kernel, im_gm (List.mem_of_getElem? (i := 583) rfl) rfl, im_gm (List.mem_of_getElem? (i := 44) (by decide +kernel)) (by decide +kernel), ⟨by decide +kernel, by decide +kernel⟩, rfl, Nat.le_of_ble_eq_true rfl, Nat.le_of_ble_eq_true rfl, fun h => nomatch h⟩
theorem mp_54 : (parseMethodDescriptor ym_54.desc).map (fun d => d.parameters.length) = some 1 := by decide +kernel
theorem mi_54 : Cond.instanceMethod ym_54 ∈ im_g := im_gm (List.mem_of_getElem? (i := 581) (by decide +kernel)) (by decide +kernel)
theorem ms_54 : Cond.selects ym_54.cls ym_54 ym_54 ∈ im_g := im_gm (List.mem_of_getElem? (i := 582) (by decide +kernel)) (by decide +kernel)
def ym_55 : MethodName := ⟨"FencedModules$Source", "<init>", "()V"⟩
def fm_55 : im_F := (6, true, true, none, cm_55, 1)
set_option maxRecDepth 30000 in
theorem mf_55 : im_mf ym_55 1 fm_55 := ⟨by decide +kernel, im_gm (List.mem_of_getElem? (i := 64) rfl) rfl, im_gm (List.mem_of_getElem? (i := 40) (by decide +kernel)) (by decide +kernel), ⟨by decide +kernel, by decide +kernel⟩, rfl, Nat.le_of_ble_eq_true rfl, Nat.le_of_ble_eq_true rfl, fun _ => rfl⟩
theorem mp_55 : (parseMethodDescriptor ym_55.desc).map (fun d => d.parameters.length) = some 0 := by decide +kernel
theorem mi_55 : Cond.instanceMethod ym_55 ∈ im_g := im_gm (List.mem_of_getElem? (i := 63) (by decide +kernel)) (by decide +kernel)
def ym_56 : MethodName := ⟨"FencedModules$Source", "empty", "()V"⟩
def fm_56 : im_F := (6, false, false, none, cm_56, 1)
set_option maxRecDepth 30000 in
theorem mf_56 : im_mf ym_56 1 fm_56 := ⟨by decide +kernel, im_gm (List.mem_of_getElem? (i := 269) rfl) rfl, im_gm (List.mem_of_getElem? (i := 40) (by decide +kernel)) (by decide +kernel), ⟨by decide +kernel, by decide +kernel⟩, rfl, Nat.le_of_ble_eq_true rfl, Nat.le_of_ble_eq_true rfl, fun h => nomatch h⟩
theorem mp_56 : (parseMethodDescriptor ym_56.desc).map (fun d => d.parameters.length) = some 0 := by decide +kernel
theorem mi_56 : Cond.instanceMethod ym_56 ∈ im_g := im_gm (List.mem_of_getElem? (i := 267) (by decide +kernel)) (by decide +kernel)
theorem ms_56 : Cond.selects ym_56.cls ym_56 ym_56 ∈ im_g := im_gm (List.mem_of_getElem? (i := 268) (by decide +kernel)) (by decide +kernel)
def ym_57 : MethodName := ⟨"FencedModules$Source", "addLine", "(IIII)Z"⟩
def fm_57 : im_F := (6, false, false, some .boolean, cm_57, 5)
set_option maxRecDepth 30000 in
theorem mf_57 : im_mf ym_57 5 fm_57 := ⟨by decide +kernel, im_gm (List.mem_of_getElem? (i := 251) rfl) rfl, im_gm (List.mem_of_getElem? (i := 40) (by decide +kernel)) (by decide +kernel), ⟨by decide +kernel, by decide +kernel⟩, rfl, Nat.le_of_ble_eq_true rfl, Nat.le_of_ble_eq_true rfl, fun h => nomatch h⟩
theorem mp_57 : (parseMethodDescriptor ym_57.desc).map (fun d => d.parameters.length) = some 4 := by decide +kernel
theorem mi_57 : Cond.instanceMethod ym_57 ∈ im_g := im_gm (List.mem_of_getElem? (i := 249) (by decide +kernel)) (by decide +kernel)
theorem ms_57 : Cond.selects ym_57.cls ym_57 ym_57 ∈ im_g := im_gm (List.mem_of_getElem? (i := 250) (by decide +kernel)) (by decide +kernel)
def ym_58 : MethodName := ⟨"FencedModules$Source", "setLabel", "(I)Z"⟩
def fm_58 : im_F := (6, false, false, some .boolean, cm_58, 2)
set_option maxRecDepth 30000 in
theorem mf_58 : im_mf ym_58 2 fm_58 := ⟨by decide +kernel, im_gm (List.mem_of_getElem? (i := 261) rfl) rfl, im_gm (List.mem_of_getElem? (i := 40) (by decide +kernel)) (by decide +kernel), ⟨by decide +kernel, by decide +kernel⟩, rfl, Nat.le_of_ble_eq_true rfl, Nat.le_of_ble_eq_true rfl, fun h => nomatch h⟩
theorem mp_58 : (parseMethodDescriptor ym_58.desc).map (fun d => d.parameters.length) = some 1 := by decide +kernel
theorem mi_58 : Cond.instanceMethod ym_58 ∈ im_g := im_gm (List.mem_of_getElem? (i := 259) (by decide +kernel)) (by decide +kernel)
theorem ms_58 : Cond.selects ym_58.cls ym_58 ym_58 ∈ im_g := im_gm (List.mem_of_getElem? (i := 260) (by decide +kernel)) (by decide +kernel)
def ym_59 : MethodName := ⟨"FencedModules$Source", "count", "()I"⟩
def fm_59 : im_F := (6, false, false, some .int, cm_59, 1)
set_option maxRecDepth 30000 in
theorem mf_59 : im_mf ym_59 1 fm_59 := ⟨by decide +kernel, im_gm (List.mem_of_getElem? (i := 334) rfl) rfl, im_gm (List.mem_of_getElem? (i := 40) (by decide +kernel)) (by decide +kernel), ⟨by decide +kernel, by decide +kernel⟩, rfl, Nat.le_of_ble_eq_true rfl, Nat.le_of_ble_eq_true rfl, fun h => nomatch h⟩
theorem mp_59 : (parseMethodDescriptor ym_59.desc).map (fun d => d.parameters.length) = some 0 := by decide +kernel
theorem mi_59 : Cond.instanceMethod ym_59 ∈ im_g := im_gm (List.mem_of_getElem? (i := 332) (by decide +kernel)) (by decide +kernel)
theorem ms_59 : Cond.selects ym_59.cls ym_59 ym_59 ∈ im_g := im_gm (List.mem_of_getElem? (i := 333) (by decide +kernel)) (by decide +kernel)
def ym_60 : MethodName := ⟨"FencedModules$Source", "hasLine", "(I)Z"⟩
def fm_60 : im_F := (6, false, false, some .boolean, cm_60, 2)
set_option maxRecDepth 30000 in
theorem mf_60 : im_mf ym_60 2 fm_60 := ⟨by decide +kernel, im_gm (List.mem_of_getElem? (i := 296) rfl) rfl, im_gm (List.mem_of_getElem? (i := 40) (by decide +kernel)) (by decide +kernel), ⟨by decide +kernel, by decide +kernel⟩, rfl, Nat.le_of_ble_eq_true rfl, Nat.le_of_ble_eq_true rfl, fun h => nomatch h⟩
theorem mp_60 : (parseMethodDescriptor ym_60.desc).map (fun d => d.parameters.length) = some 1 := by decide +kernel
theorem mi_60 : Cond.instanceMethod ym_60 ∈ im_g := im_gm (List.mem_of_getElem? (i := 294) (by decide +kernel)) (by decide +kernel)
theorem ms_60 : Cond.selects ym_60.cls ym_60 ym_60 ∈ im_g := im_gm (List.mem_of_getElem? (i := 295) (by decide +kernel)) (by decide +kernel)
def ym_61 : MethodName := ⟨"FencedModules$Source", "opAt", "(I)I"⟩
def fm_61 : im_F := (6, false, false, some .int, cm_61, 2)
set_option maxRecDepth 30000 in
theorem mf_61 : im_mf ym_61 2 fm_61 := ⟨by decide +kernel, im_gm (List.mem_of_getElem? (i := 292) rfl) rfl, im_gm (List.mem_of_getElem? (i := 40) (by decide +kernel)) (by decide +kernel), ⟨by decide +kernel, by decide +kernel⟩, rfl, Nat.le_of_ble_eq_true rfl, Nat.le_of_ble_eq_true rfl, fun h => nomatch h⟩
theorem mp_61 : (parseMethodDescriptor ym_61.desc).map (fun d => d.parameters.length) = some 1 := by decide +kernel
theorem mi_61 : Cond.instanceMethod ym_61 ∈ im_g := im_gm (List.mem_of_getElem? (i := 290) (by decide +kernel)) (by decide +kernel)
theorem ms_61 : Cond.selects ym_61.cls ym_61 ym_61 ∈ im_g := im_gm (List.mem_of_getElem? (i := 291) (by decide +kernel)) (by decide +kernel)
def ym_62 : MethodName := ⟨"FencedModules$Source", "aAt", "(I)I"⟩
def fm_62 : im_F := (6, false, false, some .int, cm_62, 2)
set_option maxRecDepth 30000 in
theorem mf_62 : im_mf ym_62 2 fm_62 := ⟨by decide +kernel, im_gm (List.mem_of_getElem? (i := 300) rfl) rfl, im_gm (List.mem_of_getElem? (i := 40) (by decide +kernel)) (by decide +kernel), ⟨by decide +kernel, by decide +kernel⟩, rfl, Nat.le_of_ble_eq_true rfl, Nat.le_of_ble_eq_true rfl, fun h => nomatch h⟩
theorem mp_62 : (parseMethodDescriptor ym_62.desc).map (fun d => d.parameters.length) = some 1 := by decide +kernel
theorem mi_62 : Cond.instanceMethod ym_62 ∈ im_g := im_gm (List.mem_of_getElem? (i := 298) (by decide +kernel)) (by decide +kernel)
theorem ms_62 : Cond.selects ym_62.cls ym_62 ym_62 ∈ im_g := im_gm (List.mem_of_getElem? (i := 299) (by decide +kernel)) (by decide +kernel)
def ym_63 : MethodName := ⟨"FencedModules$Source", "bAt", "(I)I"⟩
def fm_63 : im_F := (6, false, false, some .int, cm_63, 2)
set_option maxRecDepth 30000 in
theorem mf_63 : im_mf ym_63 2 fm_63 := ⟨by decide +kernel, im_gm (List.mem_of_getElem? (i := 304) rfl) rfl, im_gm (List.mem_of_getElem? (i := 40) (by decide +kernel)) (by decide +kernel), ⟨by decide +kernel, by decide +kernel⟩, rfl, Nat.le_of_ble_eq_true rfl, Nat.le_of_ble_eq_true rfl, fun h => nomatch h⟩
theorem mp_63 : (parseMethodDescriptor ym_63.desc).map (fun d => d.parameters.length) = some 1 := by decide +kernel
theorem mi_63 : Cond.instanceMethod ym_63 ∈ im_g := im_gm (List.mem_of_getElem? (i := 302) (by decide +kernel)) (by decide +kernel)
theorem ms_63 : Cond.selects ym_63.cls ym_63 ym_63 ∈ im_g := im_gm (List.mem_of_getElem? (i := 303) (by decide +kernel)) (by decide +kernel)
def ym_64 : MethodName := ⟨"FencedModules$Source", "iAt", "(I)I"⟩
def fm_64 : im_F := (6, false, false, some .int, cm_64, 2)
set_option maxRecDepth 30000 in
theorem mf_64 : im_mf ym_64 2 fm_64 := ⟨by decide +kernel, im_gm (List.mem_of_getElem? (i := 312) rfl) rfl, im_gm (List.mem_of_getElem? (i := 40) (by decide +kernel)) (by decide +kernel), ⟨by decide +kernel, by decide +kernel⟩, rfl, Nat.le_of_ble_eq_true rfl, Nat.le_of_ble_eq_true rfl, fun h => nomatch h⟩
theorem mp_64 : (parseMethodDescriptor ym_64.desc).map (fun d => d.parameters.length) = some 1 := by decide +kernel
theorem mi_64 : Cond.instanceMethod ym_64 ∈ im_g := im_gm (List.mem_of_getElem? (i := 310) (by decide +kernel)) (by decide +kernel)
theorem ms_64 : Cond.selects ym_64.cls ym_64 ym_64 ∈ im_g := im_gm (List.mem_of_getElem? (i := 311) (by decide +kernel)) (by decide +kernel)
def ym_65 : MethodName := ⟨"FencedModules$Source", "isLabelSet", "(I)Z"⟩
def fm_65 : im_F := (6, false, false, some .boolean, cm_65, 2)
set_option maxRecDepth 30000 in
theorem mf_65 : im_mf ym_65 2 fm_65 := ⟨by decide +kernel, im_gm (List.mem_of_getElem? (i := 316) rfl) rfl, im_gm (List.mem_of_getElem? (i := 40) (by decide +kernel)) (by decide +kernel), ⟨by decide +kernel, by decide +kernel⟩, rfl, Nat.le_of_ble_eq_true rfl, Nat.le_of_ble_eq_true rfl, fun h => nomatch h⟩
theorem mp_65 : (parseMethodDescriptor ym_65.desc).map (fun d => d.parameters.length) = some 1 := by decide +kernel
theorem mi_65 : Cond.instanceMethod ym_65 ∈ im_g := im_gm (List.mem_of_getElem? (i := 314) (by decide +kernel)) (by decide +kernel)
theorem ms_65 : Cond.selects ym_65.cls ym_65 ym_65 ∈ im_g := im_gm (List.mem_of_getElem? (i := 315) (by decide +kernel)) (by decide +kernel)
def ym_66 : MethodName := ⟨"FencedModules$Source", "placeOf", "(I)I"⟩
def fm_66 : im_F := (6, false, false, some .int, cm_66, 2)
set_option maxRecDepth 30000 in
theorem mf_66 : im_mf ym_66 2 fm_66 := ⟨by decide +kernel, im_gm (List.mem_of_getElem? (i := 364) rfl) rfl, im_gm (List.mem_of_getElem? (i := 40) (by decide +kernel)) (by decide +kernel), ⟨by decide +kernel, by decide +kernel⟩, rfl, Nat.le_of_ble_eq_true rfl, Nat.le_of_ble_eq_true rfl, fun h => nomatch h⟩
theorem mp_66 : (parseMethodDescriptor ym_66.desc).map (fun d => d.parameters.length) = some 1 := by decide +kernel
theorem mi_66 : Cond.instanceMethod ym_66 ∈ im_g := im_gm (List.mem_of_getElem? (i := 362) (by decide +kernel)) (by decide +kernel)
theorem ms_66 : Cond.selects ym_66.cls ym_66 ym_66 ∈ im_g := im_gm (List.mem_of_getElem? (i := 363) (by decide +kernel)) (by decide +kernel)
def ym_67 : MethodName := ⟨"FencedModules$Source", "canBeRewritten", "()Z"⟩
def fm_67 : im_F := (6, false, false, some .boolean, cm_67, 2)
set_option maxRecDepth 30000 in
theorem mf_67 : im_mf ym_67 1 fm_67 := ⟨by decide +kernel, im_gm (List.mem_of_getElem? (i := 284) rfl) rfl, im_gm (List.mem_of_getElem? (i := 40) (by decide +kernel)) (by decide +kernel), ⟨by decide +kernel, by decide +kernel⟩, rfl, Nat.le_of_ble_eq_true rfl, Nat.le_of_ble_eq_true rfl, fun h => nomatch h⟩
theorem mp_67 : (parseMethodDescriptor ym_67.desc).map (fun d => d.parameters.length) = some 0 := by decide +kernel
theorem mi_67 : Cond.instanceMethod ym_67 ∈ im_g := im_gm (List.mem_of_getElem? (i := 282) (by decide +kernel)) (by decide +kernel)
theorem ms_67 : Cond.selects ym_67.cls ym_67 ym_67 ∈ im_g := im_gm (List.mem_of_getElem? (i := 283) (by decide +kernel)) (by decide +kernel)
def ym_68 : MethodName := ⟨"FencedModules$Source", "wordsBefore", "(I)I"⟩
def fm_68 : im_F := (6, false, false, some .int, cm_68, 4)
set_option maxRecDepth 30000 in
theorem mf_68 : im_mf ym_68 2 fm_68 := ⟨by decide +kernel, im_gm (List.mem_of_getElem? (i := 323) rfl) rfl, im_gm (List.mem_of_getElem? (i := 40) (by decide +kernel)) (by decide +kernel), ⟨by decide +kernel, by decide +kernel⟩, rfl, Nat.le_of_ble_eq_true rfl, Nat.le_of_ble_eq_true rfl, fun h => nomatch h⟩
theorem mp_68 : (parseMethodDescriptor ym_68.desc).map (fun d => d.parameters.length) = some 1 := by decide +kernel
theorem mi_68 : Cond.instanceMethod ym_68 ∈ im_g := im_gm (List.mem_of_getElem? (i := 321) (by decide +kernel)) (by decide +kernel)
theorem ms_68 : Cond.selects ym_68.cls ym_68 ym_68 ∈ im_g := im_gm (List.mem_of_getElem? (i := 322) (by decide +kernel)) (by decide +kernel)
def ym_69 : MethodName := ⟨"FencedModules$Source", "wordsOf", "(I)I"⟩
def fm_69 : im_F := (6, false, false, some .int, cm_69, 1)
set_option maxRecDepth 30000 in
theorem mf_69 : im_mf ym_69 1 fm_69 := ⟨by decide +kernel, im_gm (List.mem_of_getElem? (i := 326) rfl) rfl, im_gm (List.mem_of_getElem? (i := 40) (by decide +kernel)) (by decide +kernel), ⟨by decide +kernel, by decide +kernel⟩, rfl, Nat.le_of_ble_eq_true rfl, Nat.le_of_ble_eq_true rfl, fun h => nomatch h⟩
theorem mp_69 : (parseMethodDescriptor ym_69.desc).map (fun d => d.parameters.length) = some 1 := by decide +kernel
theorem mi_69 : Cond.static ym_69 ∈ im_g := im_gm (List.mem_of_getElem? (i := 325) (by decide +kernel)) (by decide +kernel)
def ym_70 : MethodName := ⟨"FencedModules$Source", "keepsToFreeRegisters", "(I)Z"⟩
def fm_70 : im_F := (6, false, false, some .boolean, cm_70, 5)
set_option maxRecDepth 30000 in
theorem mf_70 : im_mf ym_70 2 fm_70 := ⟨by decide +kernel, im_gm (List.mem_of_getElem? (i := 288) rfl) rfl, im_gm (List.mem_of_getElem? (i := 40) (by decide +kernel)) (by decide +kernel), ⟨by decide +kernel, by decide +kernel⟩, rfl, Nat.le_of_ble_eq_true rfl, Nat.le_of_ble_eq_true rfl, fun h => nomatch h⟩
theorem mp_70 : (parseMethodDescriptor ym_70.desc).map (fun d => d.parameters.length) = some 1 := by decide +kernel
theorem mi_70 : Cond.instanceMethod ym_70 ∈ im_g := im_gm (List.mem_of_getElem? (i := 287) (by decide +kernel)) (by decide +kernel)
theorem ms_70 : Cond.selects ym_70.cls ym_70 ym_70 ∈ im_g := im_gm (List.mem_of_getElem? (i := 0) (by decide +kernel)) (by decide +kernel)
def ym_71 : MethodName := ⟨"FencedModules$Source", "namesWhatIsThere", "(I)Z"⟩
def fm_71 : im_F := (6, false, false, some .boolean, cm_71, 2)
set_option maxRecDepth 30000 in
theorem mf_71 : im_mf ym_71 2 fm_71 := ⟨by decide +kernel, im_gm (List.mem_of_getElem? (i := 308) rfl) rfl, im_gm (List.mem_of_getElem? (i := 40) (by decide +kernel)) (by decide +kernel), ⟨by decide +kernel, by decide +kernel⟩, rfl, Nat.le_of_ble_eq_true rfl, Nat.le_of_ble_eq_true rfl, fun h => nomatch h⟩
theorem mp_71 : (parseMethodDescriptor ym_71.desc).map (fun d => d.parameters.length) = some 1 := by decide +kernel
theorem mi_71 : Cond.instanceMethod ym_71 ∈ im_g := im_gm (List.mem_of_getElem? (i := 307) (by decide +kernel)) (by decide +kernel)
theorem ms_71 : Cond.selects ym_71.cls ym_71 ym_71 ∈ im_g := im_gm (List.mem_of_getElem? (i := 1) (by decide +kernel)) (by decide +kernel)
def ym_72 : MethodName := ⟨"FencedModules", "<init>", "()V"⟩
def fm_72 : im_F := (7, true, true, none, cm_72, 1)
set_option maxRecDepth 30000 in
theorem mf_72 : im_mf ym_72 1 fm_72 := ⟨by decide +kernel, im_gm (List.mem_of_getElem? (i := 56) rfl) rfl, im_gm (List.mem_of_getElem? (i := 39) (by decide +kernel)) (by decide +kernel), ⟨by decide +kernel, by decide +kernel⟩, rfl, Nat.le_of_ble_eq_true rfl, Nat.le_of_ble_eq_true rfl, fun _ => rfl⟩
theorem mp_72 : (parseMethodDescriptor ym_72.desc).map (fun d => d.parameters.length) = some 0 := by decide +kernel
theorem mi_72 : Cond.instanceMethod ym_72 ∈ im_g := im_gm (List.mem_of_getElem? (i := 55) (by decide +kernel)) (by decide +kernel)
def ym_73 : MethodName := ⟨"FencedModules", "line", "(IIII)Z"⟩
def fm_73 : im_F := (7, false, false, some .boolean, cm_73, 5)
set_option maxRecDepth 30000 in
theorem mf_73 : im_mf ym_73 5 fm_73 := ⟨by decide +kernel, im_gm (List.mem_of_getElem? (i := 247) rfl) rfl, im_gm (List.mem_of_getElem? (i := 39) (by decide +kernel)) (by decide +kernel), ⟨by decide +kernel, by decide +kernel⟩, rfl, Nat.le_of_ble_eq_true rfl, Nat.le_of_ble_eq_true rfl, fun h => nomatch h⟩
theorem mp_73 : (parseMethodDescriptor ym_73.desc).map (fun d => d.parameters.length) = some 4 := by decide +kernel
theorem mi_73 : Cond.instanceMethod ym_73 ∈ im_g := im_gm (List.mem_of_getElem? (i := 245) (by decide +kernel)) (by decide +kernel)
theorem ms_73 : Cond.selects ym_73.cls ym_73 ym_73 ∈ im_g := im_gm (List.mem_of_getElem? (i := 246) (by decide +kernel)) (by decide +kernel)
def ym_74 : MethodName := ⟨"FencedModules", "mark", "(I)Z"⟩
def fm_74 : im_F := (7, false, false, some .boolean, cm_74, 2)
set_option maxRecDepth 30000 in
theorem mf_74 : im_mf ym_74 2 fm_74 := ⟨by decide +kernel, im_gm (List.mem_of_getElem? (i := 257) rfl) rfl, im_gm (List.mem_of_getElem? (i := 39) (by decide +kernel)) (by decide +kernel), ⟨by decide +kernel, by decide +kernel⟩, rfl, Nat.le_of_ble_eq_true rfl, Nat.le_of_ble_eq_true rfl, fun h => nomatch h⟩
theorem mp_74 : (parseMethodDescriptor ym_74.desc).map (fun d => d.parameters.length) = some 1 := by decide +kernel
theorem mi_74 : Cond.instanceMethod ym_74 ∈ im_g := im_gm (List.mem_of_getElem? (i := 255) (by decide +kernel)) (by decide +kernel)
theorem ms_74 : Cond.selects ym_74.cls ym_74 ym_74 ∈ im_g := im_gm (List.mem_of_getElem? (i := 256) (by decide +kernel)) (by decide +kernel)
def ym_75 : MethodName := ⟨"FencedModules", "clear", "()V"⟩
def fm_75 : im_F := (7, false, false, none, cm_75, 1)
set_option maxRecDepth 30000 in
theorem mf_75 : im_mf ym_75 1 fm_75 := ⟨by decide +kernel, im_gm (List.mem_of_getElem? (i := 265) rfl) rfl, im_gm (List.mem_of_getElem? (i := 39) (by decide +kernel)) (by decide +kernel), ⟨by decide +kernel, by decide +kernel⟩, rfl, Nat.le_of_ble_eq_true rfl, Nat.le_of_ble_eq_true rfl, fun h => nomatch h⟩
theorem mp_75 : (parseMethodDescriptor ym_75.desc).map (fun d => d.parameters.length) = some 0 := by decide +kernel
theorem mi_75 : Cond.instanceMethod ym_75 ∈ im_g := im_gm (List.mem_of_getElem? (i := 263) (by decide +kernel)) (by decide +kernel)
theorem ms_75 : Cond.selects ym_75.cls ym_75 ym_75 ∈ im_g := im_gm (List.mem_of_getElem? (i := 264) (by decide +kernel)) (by decide +kernel)
def ym_76 : MethodName := ⟨"FencedModules", "rewrite", "(I)I"⟩
def fm_76 : im_F := (7, false, false, some .int, cm_76, 2)
set_option maxRecDepth 30000 in
theorem mf_76 : im_mf ym_76 2 fm_76 := ⟨by decide +kernel, im_gm (List.mem_of_getElem? (i := 277) rfl) rfl, im_gm (List.mem_of_getElem? (i := 39) (by decide +kernel)) (by decide +kernel), ⟨by decide +kernel, by decide +kernel⟩, rfl, Nat.le_of_ble_eq_true rfl, Nat.le_of_ble_eq_true rfl, fun h => nomatch h⟩
theorem mp_76 : (parseMethodDescriptor ym_76.desc).map (fun d => d.parameters.length) = some 1 := by decide +kernel
theorem mi_76 : Cond.instanceMethod ym_76 ∈ im_g := im_gm (List.mem_of_getElem? (i := 275) (by decide +kernel)) (by decide +kernel)
theorem ms_76 : Cond.selects ym_76.cls ym_76 ym_76 ∈ im_g := im_gm (List.mem_of_getElem? (i := 276) (by decide +kernel)) (by decide +kernel)
def ym_77 : MethodName := ⟨"FencedModules", "word", "(I)Z"⟩
def fm_77 : im_F := (7, false, false, some .boolean, cm_77, 2)
set_option maxRecDepth 30000 in
theorem mf_77 : im_mf ym_77 2 fm_77 := ⟨by decide +kernel, im_gm (List.mem_of_getElem? (i := 380) rfl) rfl, im_gm (List.mem_of_getElem? (i := 39) (by decide +kernel)) (by decide +kernel), ⟨by decide +kernel, by decide +kernel⟩, rfl, Nat.le_of_ble_eq_true rfl, Nat.le_of_ble_eq_true rfl, fun h => nomatch h⟩
theorem mp_77 : (parseMethodDescriptor ym_77.desc).map (fun d => d.parameters.length) = some 1 := by decide +kernel
theorem mi_77 : Cond.instanceMethod ym_77 ∈ im_g := im_gm (List.mem_of_getElem? (i := 378) (by decide +kernel)) (by decide +kernel)
theorem ms_77 : Cond.selects ym_77.cls ym_77 ym_77 ∈ im_g := im_gm (List.mem_of_getElem? (i := 379) (by decide +kernel)) (by decide +kernel)
def ym_78 : MethodName := ⟨"FencedModules", "module", "(I)I"⟩
def fm_78 : im_F := (7, false, false, some .int, cm_78, 2)
set_option maxRecDepth 30000 in
theorem mf_78 : im_mf ym_78 2 fm_78 := ⟨by decide +kernel, im_gm (List.mem_of_getElem? (i := 385) rfl) rfl, im_gm (List.mem_of_getElem? (i := 39) (by decide +kernel)) (by decide +kernel), ⟨by decide +kernel, by decide +kernel⟩, rfl, Nat.le_of_ble_eq_true rfl, Nat.le_of_ble_eq_true rfl, fun h => nomatch h⟩
theorem mp_78 : (parseMethodDescriptor ym_78.desc).map (fun d => d.parameters.length) = some 1 := by decide +kernel
theorem mi_78 : Cond.instanceMethod ym_78 ∈ im_g := im_gm (List.mem_of_getElem? (i := 383) (by decide +kernel)) (by decide +kernel)
theorem ms_78 : Cond.selects ym_78.cls ym_78 ym_78 ∈ im_g := im_gm (List.mem_of_getElem? (i := 384) (by decide +kernel)) (by decide +kernel)
def ym_79 : MethodName := ⟨"FencedModules", "verify", "(I)I"⟩
def fm_79 : im_F := (7, false, false, some .int, cm_79, 2)
set_option maxRecDepth 30000 in
theorem mf_79 : im_mf ym_79 2 fm_79 := ⟨by decide +kernel, im_gm (List.mem_of_getElem? (i := 393) rfl) rfl, im_gm (List.mem_of_getElem? (i := 39) (by decide +kernel)) (by decide +kernel), ⟨by decide +kernel, by decide +kernel⟩, rfl, Nat.le_of_ble_eq_true rfl, Nat.le_of_ble_eq_true rfl, fun h => nomatch h⟩
theorem mp_79 : (parseMethodDescriptor ym_79.desc).map (fun d => d.parameters.length) = some 1 := by decide +kernel
theorem mi_79 : Cond.instanceMethod ym_79 ∈ im_g := im_gm (List.mem_of_getElem? (i := 391) (by decide +kernel)) (by decide +kernel)
theorem ms_79 : Cond.selects ym_79.cls ym_79 ym_79 ∈ im_g := im_gm (List.mem_of_getElem? (i := 392) (by decide +kernel)) (by decide +kernel)
def ym_80 : MethodName := ⟨"FencedModules", "load", "(I)Z"⟩
def fm_80 : im_F := (7, false, false, some .boolean, cm_80, 2)
set_option maxRecDepth 30000 in
theorem mf_80 : im_mf ym_80 2 fm_80 := ⟨by decide +kernel, im_gm (List.mem_of_getElem? (i := 427) rfl) rfl, im_gm (List.mem_of_getElem? (i := 39) (by decide +kernel)) (by decide +kernel), ⟨by decide +kernel, by decide +kernel⟩, rfl, Nat.le_of_ble_eq_true rfl, Nat.le_of_ble_eq_true rfl, fun h => nomatch h⟩
theorem mp_80 : (parseMethodDescriptor ym_80.desc).map (fun d => d.parameters.length) = some 1 := by decide +kernel
theorem mi_80 : Cond.instanceMethod ym_80 ∈ im_g := im_gm (List.mem_of_getElem? (i := 425) (by decide +kernel)) (by decide +kernel)
theorem ms_80 : Cond.selects ym_80.cls ym_80 ym_80 ∈ im_g := im_gm (List.mem_of_getElem? (i := 426) (by decide +kernel)) (by decide +kernel)
def ym_81 : MethodName := ⟨"FencedModules", "feed", "(II)Z"⟩
def fm_81 : im_F := (7, false, false, some .boolean, cm_81, 4)
set_option maxRecDepth 30000 in
theorem mf_81 : im_mf ym_81 3 fm_81 := ⟨by decide +kernel, im_gm (List.mem_of_getElem? (i := 462) rfl) rfl, im_gm (List.mem_of_getElem? (i := 39) (by decide +kernel)) (by decide +kernel), ⟨by decide +kernel, by decide +kernel⟩, rfl, Nat.le_of_ble_eq_true rfl, Nat.le_of_ble_eq_true rfl, fun h => nomatch h⟩
theorem mp_81 : (parseMethodDescriptor ym_81.desc).map (fun d => d.parameters.length) = some 2 := by decide +kernel
theorem mi_81 : Cond.instanceMethod ym_81 ∈ im_g := im_gm (List.mem_of_getElem? (i := 460) (by decide +kernel)) (by decide +kernel)
theorem ms_81 : Cond.selects ym_81.cls ym_81 ym_81 ∈ im_g := im_gm (List.mem_of_getElem? (i := 461) (by decide +kernel)) (by decide +kernel)
def ym_82 : MethodName := ⟨"FencedModules", "run", "(I)I"⟩
def fm_82 : im_F := (7, false, false, some .int, cm_82, 2)
set_option maxRecDepth 30000 in
theorem mf_82 : im_mf ym_82 2 fm_82 := ⟨by decide +kernel, im_gm (List.mem_of_getElem? (i := 471) rfl) rfl, im_gm (List.mem_of_getElem? (i := 39) (by decide +kernel)) (by decide +kernel), ⟨by decide +kernel, by decide +kernel⟩, rfl, Nat.le_of_ble_eq_true rfl, Nat.le_of_ble_eq_true rfl, fun h => nomatch h⟩
theorem mp_82 : (parseMethodDescriptor ym_82.desc).map (fun d => d.parameters.length) = some 1 := by decide +kernel
theorem mi_82 : Cond.instanceMethod ym_82 ∈ im_g := im_gm (List.mem_of_getElem? (i := 469) (by decide +kernel)) (by decide +kernel)
theorem ms_82 : Cond.selects ym_82.cls ym_82 ym_82 ∈ im_g := im_gm (List.mem_of_getElem? (i := 470) (by decide +kernel)) (by decide +kernel)
def ym_83 : MethodName := ⟨"FencedModules", "state", "(I)I"⟩
def fm_83 : im_F := (7, false, false, some .int, cm_83, 3)
set_option maxRecDepth 30000 in
theorem mf_83 : im_mf ym_83 2 fm_83 := ⟨by decide +kernel, im_gm (List.mem_of_getElem? (i := 562) rfl) rfl, im_gm (List.mem_of_getElem? (i := 39) (by decide +kernel)) (by decide +kernel), ⟨by decide +kernel, by decide +kernel⟩, rfl, Nat.le_of_ble_eq_true rfl, Nat.le_of_ble_eq_true rfl, fun h => nomatch h⟩
theorem mp_83 : (parseMethodDescriptor ym_83.desc).map (fun d => d.parameters.length) = some 1 := by decide +kernel
theorem mi_83 : Cond.instanceMethod ym_83 ∈ im_g := im_gm (List.mem_of_getElem? (i := 560) (by decide +kernel)) (by decide +kernel)
theorem ms_83 : Cond.selects ym_83.cls ym_83 ym_83 ∈ im_g := im_gm (List.mem_of_getElem? (i := 561) (by decide +kernel)) (by decide +kernel)
def ym_84 : MethodName := ⟨"FencedModules", "pc", "(I)I"⟩
def fm_84 : im_F := (7, false, false, some .int, cm_84, 3)
set_option maxRecDepth 30000 in
theorem mf_84 : im_mf ym_84 2 fm_84 := ⟨by decide +kernel, im_gm (List.mem_of_getElem? (i := 566) rfl) rfl, im_gm (List.mem_of_getElem? (i := 39) (by decide +kernel)) (by decide +kernel), ⟨by decide +kernel, by decide +kernel⟩, rfl, Nat.le_of_ble_eq_true rfl, Nat.le_of_ble_eq_true rfl, fun h => nomatch h⟩
theorem mp_84 : (parseMethodDescriptor ym_84.desc).map (fun d => d.parameters.length) = some 1 := by decide +kernel
theorem mi_84 : Cond.instanceMethod ym_84 ∈ im_g := im_gm (List.mem_of_getElem? (i := 564) (by decide +kernel)) (by decide +kernel)
theorem ms_84 : Cond.selects ym_84.cls ym_84 ym_84 ∈ im_g := im_gm (List.mem_of_getElem? (i := 565) (by decide +kernel)) (by decide +kernel)
def ym_85 : MethodName := ⟨"FencedModules", "register", "(II)I"⟩
def fm_85 : im_F := (7, false, false, some .int, cm_85, 4)
set_option maxRecDepth 30000 in
theorem mf_85 : im_mf ym_85 3 fm_85 := ⟨by decide +kernel, im_gm (List.mem_of_getElem? (i := 570) rfl) rfl, im_gm (List.mem_of_getElem? (i := 39) (by decide +kernel)) (by decide +kernel), ⟨by decide +kernel, by decide +kernel⟩, rfl, Nat.le_of_ble_eq_true rfl, Nat.le_of_ble_eq_true rfl, fun h => nomatch h⟩
theorem mp_85 : (parseMethodDescriptor ym_85.desc).map (fun d => d.parameters.length) = some 2 := by decide +kernel
theorem mi_85 : Cond.instanceMethod ym_85 ∈ im_g := im_gm (List.mem_of_getElem? (i := 568) (by decide +kernel)) (by decide +kernel)
theorem ms_85 : Cond.selects ym_85.cls ym_85 ym_85 ∈ im_g := im_gm (List.mem_of_getElem? (i := 569) (by decide +kernel)) (by decide +kernel)
def ym_86 : MethodName := ⟨"FencedModules", "peek", "(I)I"⟩
def fm_86 : im_F := (7, false, false, some .int, cm_86, 2)
set_option maxRecDepth 30000 in
theorem mf_86 : im_mf ym_86 2 fm_86 := ⟨by decide +kernel, im_gm (List.mem_of_getElem? (i := 574) rfl) rfl, im_gm (List.mem_of_getElem? (i := 39) (by decide +kernel)) (by decide +kernel), ⟨by decide +kernel, by decide +kernel⟩, rfl, Nat.le_of_ble_eq_true rfl, Nat.le_of_ble_eq_true rfl, fun h => nomatch h⟩
theorem mp_86 : (parseMethodDescriptor ym_86.desc).map (fun d => d.parameters.length) = some 1 := by decide +kernel
theorem mi_86 : Cond.instanceMethod ym_86 ∈ im_g := im_gm (List.mem_of_getElem? (i := 572) (by decide +kernel)) (by decide +kernel)
theorem ms_86 : Cond.selects ym_86.cls ym_86 ym_86 ∈ im_g := im_gm (List.mem_of_getElem? (i := 573) (by decide +kernel)) (by decide +kernel)
def ym_87 : MethodName := ⟨"FencedModules", "output", "(II)I"⟩
def fm_87 : im_F := (7, false, false, some .int, cm_87, 4)
set_option maxRecDepth 30000 in
theorem mf_87 : im_mf ym_87 3 fm_87 := ⟨by decide +kernel, im_gm (List.mem_of_getElem? (i := 579) rfl) rfl, im_gm (List.mem_of_getElem? (i := 39) (by decide +kernel)) (by decide +kernel), ⟨by decide +kernel, by decide +kernel⟩, rfl, Nat.le_of_ble_eq_true rfl, Nat.le_of_ble_eq_true rfl, fun h => nomatch h⟩
theorem mp_87 : (parseMethodDescriptor ym_87.desc).map (fun d => d.parameters.length) = some 2 := by decide +kernel
theorem mi_87 : Cond.instanceMethod ym_87 ∈ im_g := im_gm (List.mem_of_getElem? (i := 577) (by decide +kernel)) (by decide +kernel)
theorem ms_87 : Cond.selects ym_87.cls ym_87 ym_87 ∈ im_g := im_gm (List.mem_of_getElem? (i := 578) (by decide +kernel)) (by decide +kernel)
def ym_88 : MethodName := ⟨"FencedModules", "call", "(III)I"⟩
def fm_88 : im_F := (7, false, false, some .int, cm_88, 5)
set_option maxRecDepth 30000 in
theorem mf_88 : im_mf ym_88 4 fm_88 := ⟨by decide +kernel, im_gm (List.mem_of_getElem? (i := 587) rfl) rfl, im_gm (List.mem_of_getElem? (i := 39) (by decide +kernel)) (by decide +kernel), ⟨by decide +kernel, by decide +kernel⟩, rfl, Nat.le_of_ble_eq_true rfl, Nat.le_of_ble_eq_true rfl, fun h => nomatch h⟩
theorem mp_88 : (parseMethodDescriptor ym_88.desc).map (fun d => d.parameters.length) = some 3 := by decide +kernel
theorem mi_88 : Cond.instanceMethod ym_88 ∈ im_g := im_gm (List.mem_of_getElem? (i := 585) (by decide +kernel)) (by decide +kernel)
theorem ms_88 : Cond.selects ym_88.cls ym_88 ym_88 ∈ im_g := im_gm (List.mem_of_getElem? (i := 586) (by decide +kernel)) (by decide +kernel)
def ym_89 : MethodName := ⟨"FencedModules", "follow", "(II)I"⟩
def fm_89 : im_F := (7, false, false, some .int, cm_89, 4)
set_option maxRecDepth 30000 in
theorem mf_89 : im_mf ym_89 3 fm_89 := ⟨by decide +kernel, im_gm (List.mem_of_getElem? (i := 595) rfl) rfl, im_gm (List.mem_of_getElem? (i := 39) (by decide +kernel)) (by decide +kernel), ⟨by decide +kernel, by decide +kernel⟩, rfl, Nat.le_of_ble_eq_true rfl, Nat.le_of_ble_eq_true rfl, fun h => nomatch h⟩
theorem mp_89 : (parseMethodDescriptor ym_89.desc).map (fun d => d.parameters.length) = some 2 := by decide +kernel
theorem mi_89 : Cond.instanceMethod ym_89 ∈ im_g := im_gm (List.mem_of_getElem? (i := 593) (by decide +kernel)) (by decide +kernel)
theorem ms_89 : Cond.selects ym_89.cls ym_89 ym_89 ∈ im_g := im_gm (List.mem_of_getElem? (i := 594) (by decide +kernel)) (by decide +kernel)
def ym_90 : MethodName := ⟨"FencedModules", "trace", "(II)I"⟩
def fm_90 : im_F := (7, false, false, some .int, cm_90, 3)
set_option maxRecDepth 30000 in
theorem mf_90 : im_mf ym_90 3 fm_90 := ⟨by decide +kernel, im_gm (List.mem_of_getElem? (i := 660) rfl) rfl, im_gm (List.mem_of_getElem? (i := 39) (by decide +kernel)) (by decide +kernel), ⟨by decide +kernel, by decide +kernel⟩, rfl, Nat.le_of_ble_eq_true rfl, Nat.le_of_ble_eq_true rfl, fun h => nomatch h⟩
theorem mp_90 : (parseMethodDescriptor ym_90.desc).map (fun d => d.parameters.length) = some 2 := by decide +kernel
theorem mi_90 : Cond.instanceMethod ym_90 ∈ im_g := im_gm (List.mem_of_getElem? (i := 658) (by decide +kernel)) (by decide +kernel)
theorem ms_90 : Cond.selects ym_90.cls ym_90 ym_90 ∈ im_g := im_gm (List.mem_of_getElem? (i := 659) (by decide +kernel)) (by decide +kernel)
def ym_91 : MethodName := ⟨"FencedModulesModel", "<init>", "()V"⟩
def fm_91 : im_F := (8, true, true, none, cm_91, 1)
set_option maxRecDepth 30000 in
theorem mf_91 : im_mf ym_91 1 fm_91 := ⟨by decide +kernel, im_gm (List.mem_of_getElem? (i := 665) rfl) rfl, im_gm (List.mem_of_getElem? (i := 48) (by decide +kernel)) (by decide +kernel), ⟨by decide +kernel, by decide +kernel⟩, rfl, Nat.le_of_ble_eq_true rfl, Nat.le_of_ble_eq_true rfl, fun _ => rfl⟩
theorem mp_91 : (parseMethodDescriptor ym_91.desc).map (fun d => d.parameters.length) = some 0 := by decide +kernel
theorem mi_91 : Cond.instanceMethod ym_91 ∈ im_g := im_gm (List.mem_of_getElem? (i := 664) (by decide +kernel)) (by decide +kernel)
def ym_92 : MethodName := ⟨"FencedModulesModel", "in", "(III)Z"⟩
def fm_92 : im_F := (8, false, false, some .boolean, cm_92, 3)
set_option maxRecDepth 30000 in
theorem mf_92 : im_mf ym_92 3 fm_92 := ⟨by decide +kernel, im_gm (List.mem_of_getElem? (i := 771) rfl) rfl, im_gm (List.mem_of_getElem? (i := 48) (by decide +kernel)) (by decide +kernel), ⟨by decide +kernel, by decide +kernel⟩, rfl, Nat.le_of_ble_eq_true rfl, Nat.le_of_ble_eq_true rfl, fun h => nomatch h⟩
theorem mp_92 : (parseMethodDescriptor ym_92.desc).map (fun d => d.parameters.length) = some 3 := by decide +kernel
theorem mi_92 : Cond.static ym_92 ∈ im_g := im_gm (List.mem_of_getElem? (i := 770) (by decide +kernel)) (by decide +kernel)
def ym_93 : MethodName := ⟨"FencedModulesModel", "line", "(IIII)Z"⟩
def fm_93 : im_F := (8, false, false, some .boolean, cm_93, 5)
set_option maxRecDepth 30000 in
theorem mf_93 : im_mf ym_93 5 fm_93 := ⟨by decide +kernel, im_gm (List.mem_of_getElem? (i := 768) rfl) rfl, im_gm (List.mem_of_getElem? (i := 48) (by decide +kernel)) (by decide +kernel), ⟨by decide +kernel, by decide +kernel⟩, rfl, Nat.le_of_ble_eq_true rfl, Nat.le_of_ble_eq_true rfl, fun h => nomatch h⟩
theorem mp_93 : (parseMethodDescriptor ym_93.desc).map (fun d => d.parameters.length) = some 4 := by decide +kernel
theorem mi_93 : Cond.instanceMethod ym_93 ∈ im_g := im_gm (List.mem_of_getElem? (i := 766) (by decide +kernel)) (by decide +kernel)
theorem ms_93 : Cond.selects ym_93.cls ym_93 ym_93 ∈ im_g := im_gm (List.mem_of_getElem? (i := 767) (by decide +kernel)) (by decide +kernel)
def ym_94 : MethodName := ⟨"FencedModulesModel", "mark", "(I)Z"⟩
def fm_94 : im_F := (8, false, false, some .boolean, cm_94, 2)
set_option maxRecDepth 30000 in
theorem mf_94 : im_mf ym_94 2 fm_94 := ⟨by decide +kernel, im_gm (List.mem_of_getElem? (i := 777) rfl) rfl, im_gm (List.mem_of_getElem? (i := 48) (by decide +kernel)) (by decide +kernel), ⟨by decide +kernel, by decide +kernel⟩, rfl, Nat.le_of_ble_eq_true rfl, Nat.le_of_ble_eq_true rfl, fun h => nomatch h⟩
theorem mp_94 : (parseMethodDescriptor ym_94.desc).map (fun d => d.parameters.length) = some 1 := by decide +kernel
theorem mi_94 : Cond.instanceMethod ym_94 ∈ im_g := im_gm (List.mem_of_getElem? (i := 775) (by decide +kernel)) (by decide +kernel)
theorem ms_94 : Cond.selects ym_94.cls ym_94 ym_94 ∈ im_g := im_gm (List.mem_of_getElem? (i := 776) (by decide +kernel)) (by decide +kernel)
def ym_95 : MethodName := ⟨"FencedModulesModel", "clear", "()V"⟩
def fm_95 : im_F := (8, false, false, none, cm_95, 2)
set_option maxRecDepth 30000 in
theorem mf_95 : im_mf ym_95 1 fm_95 := ⟨by decide +kernel, im_gm (List.mem_of_getElem? (i := 781) rfl) rfl, im_gm (List.mem_of_getElem? (i := 48) (by decide +kernel)) (by decide +kernel), ⟨by decide +kernel, by decide +kernel⟩, rfl, Nat.le_of_ble_eq_true rfl, Nat.le_of_ble_eq_true rfl, fun h => nomatch h⟩
theorem mp_95 : (parseMethodDescriptor ym_95.desc).map (fun d => d.parameters.length) = some 0 := by decide +kernel
theorem mi_95 : Cond.instanceMethod ym_95 ∈ im_g := im_gm (List.mem_of_getElem? (i := 779) (by decide +kernel)) (by decide +kernel)
theorem ms_95 : Cond.selects ym_95.cls ym_95 ym_95 ∈ im_g := im_gm (List.mem_of_getElem? (i := 780) (by decide +kernel)) (by decide +kernel)
def ym_96 : MethodName := ⟨"FencedModulesModel", "first", "(I)I"⟩
def fm_96 : im_F := (8, false, false, some .int, cm_96, 4)
set_option maxRecDepth 30000 in
theorem mf_96 : im_mf ym_96 2 fm_96 := ⟨by decide +kernel, im_gm (List.mem_of_getElem? (i := 797) rfl) rfl, im_gm (List.mem_of_getElem? (i := 48) (by decide +kernel)) (by decide +kernel), ⟨by decide +kernel, by decide +kernel⟩, rfl, Nat.le_of_ble_eq_true rfl, Nat.le_of_ble_eq_true rfl, fun h => nomatch h⟩
theorem mp_96 : (parseMethodDescriptor ym_96.desc).map (fun d => d.parameters.length) = some 1 := by decide +kernel
theorem mi_96 : Cond.instanceMethod ym_96 ∈ im_g := im_gm (List.mem_of_getElem? (i := 796) (by decide +kernel)) (by decide +kernel)
theorem ms_96 : Cond.selects ym_96.cls ym_96 ym_96 ∈ im_g := im_gm (List.mem_of_getElem? (i := 22) (by decide +kernel)) (by decide +kernel)
def ym_97 : MethodName := ⟨"FencedModulesModel", "fits", "(I)Z"⟩
def fm_97 : im_F := (8, false, false, some .boolean, cm_97, 6)
set_option maxRecDepth 30000 in
theorem mf_97 : im_mf ym_97 2 fm_97 := ⟨by decide +kernel, im_gm (List.mem_of_getElem? (i := 793) rfl) rfl, im_gm (List.mem_of_getElem? (i := 48) (by decide +kernel)) (by decide +kernel), ⟨by decide +kernel, by decide +kernel⟩, rfl, Nat.le_of_ble_eq_true rfl, Nat.le_of_ble_eq_true rfl, fun h => nomatch h⟩
theorem mp_97 : (parseMethodDescriptor ym_97.desc).map (fun d => d.parameters.length) = some 1 := by decide +kernel
theorem mi_97 : Cond.instanceMethod ym_97 ∈ im_g := im_gm (List.mem_of_getElem? (i := 792) (by decide +kernel)) (by decide +kernel)
theorem ms_97 : Cond.selects ym_97.cls ym_97 ym_97 ∈ im_g := im_gm (List.mem_of_getElem? (i := 21) (by decide +kernel)) (by decide +kernel)
def ym_98 : MethodName := ⟨"FencedModulesModel", "can", "()Z"⟩
def fm_98 : im_F := (8, false, false, some .boolean, cm_98, 2)
set_option maxRecDepth 30000 in
theorem mf_98 : im_mf ym_98 1 fm_98 := ⟨by decide +kernel, im_gm (List.mem_of_getElem? (i := 789) rfl) rfl, im_gm (List.mem_of_getElem? (i := 48) (by decide +kernel)) (by decide +kernel), ⟨by decide +kernel, by decide +kernel⟩, rfl, Nat.le_of_ble_eq_true rfl, Nat.le_of_ble_eq_true rfl, fun h => nomatch h⟩
theorem mp_98 : (parseMethodDescriptor ym_98.desc).map (fun d => d.parameters.length) = some 0 := by decide +kernel
theorem mi_98 : Cond.instanceMethod ym_98 ∈ im_g := im_gm (List.mem_of_getElem? (i := 788) (by decide +kernel)) (by decide +kernel)
theorem ms_98 : Cond.selects ym_98.cls ym_98 ym_98 ∈ im_g := im_gm (List.mem_of_getElem? (i := 20) (by decide +kernel)) (by decide +kernel)
def ym_99 : MethodName := ⟨"FencedModulesModel", "code", "(IIII)I"⟩
def fm_99 : im_F := (8, false, false, some .int, cm_99, 4)
set_option maxRecDepth 30000 in
theorem mf_99 : im_mf ym_99 4 fm_99 := ⟨by decide +kernel, im_gm (List.mem_of_getElem? (i := 804) rfl) rfl, im_gm (List.mem_of_getElem? (i := 48) (by decide +kernel)) (by decide +kernel), ⟨by decide +kernel, by decide +kernel⟩, rfl, Nat.le_of_ble_eq_true rfl, Nat.le_of_ble_eq_true rfl, fun h => nomatch h⟩
theorem mp_99 : (parseMethodDescriptor ym_99.desc).map (fun d => d.parameters.length) = some 4 := by decide +kernel
theorem mi_99 : Cond.static ym_99 ∈ im_g := im_gm (List.mem_of_getElem? (i := 803) (by decide +kernel)) (by decide +kernel)
def ym_100 : MethodName := ⟨"FencedModulesModel", "add", "(I)V"⟩
def fm_100 : im_F := (8, false, false, none, cm_100, 2)
set_option maxRecDepth 30000 in
theorem mf_100 : im_mf ym_100 2 fm_100 := ⟨by decide +kernel, im_gm (List.mem_of_getElem? (i := 808) rfl) rfl, im_gm (List.mem_of_getElem? (i := 48) (by decide +kernel)) (by decide +kernel), ⟨by decide +kernel, by decide +kernel⟩, rfl, Nat.le_of_ble_eq_true rfl, Nat.le_of_ble_eq_true rfl, fun h => nomatch h⟩
theorem mp_100 : (parseMethodDescriptor ym_100.desc).map (fun d => d.parameters.length) = some 1 := by decide +kernel
theorem mi_100 : Cond.instanceMethod ym_100 ∈ im_g := im_gm (List.mem_of_getElem? (i := 807) (by decide +kernel)) (by decide +kernel)
theorem ms_100 : Cond.selects ym_100.cls ym_100 ym_100 ∈ im_g := im_gm (List.mem_of_getElem? (i := 24) (by decide +kernel)) (by decide +kernel)
def ym_101 : MethodName := ⟨"FencedModulesModel", "target", "(I)I"⟩
def fm_101 : im_F := (8, false, false, some .int, cm_101, 2)
set_option maxRecDepth 30000 in
theorem mf_101 : im_mf ym_101 2 fm_101 := ⟨by decide +kernel, im_gm (List.mem_of_getElem? (i := 812) rfl) rfl, im_gm (List.mem_of_getElem? (i := 48) (by decide +kernel)) (by decide +kernel), ⟨by decide +kernel, by decide +kernel⟩, rfl, Nat.le_of_ble_eq_true rfl, Nat.le_of_ble_eq_true rfl, fun h => nomatch h⟩
theorem mp_101 : (parseMethodDescriptor ym_101.desc).map (fun d => d.parameters.length) = some 1 := by decide +kernel
theorem mi_101 : Cond.instanceMethod ym_101 ∈ im_g := im_gm (List.mem_of_getElem? (i := 811) (by decide +kernel)) (by decide +kernel)
theorem ms_101 : Cond.selects ym_101.cls ym_101 ym_101 ∈ im_g := im_gm (List.mem_of_getElem? (i := 25) (by decide +kernel)) (by decide +kernel)
def ym_102 : MethodName := ⟨"FencedModulesModel", "rewrite", "(I)I"⟩
def fm_102 : im_F := (8, false, false, some .int, cm_102, 3)
set_option maxRecDepth 30000 in
theorem mf_102 : im_mf ym_102 2 fm_102 := ⟨by decide +kernel, im_gm (List.mem_of_getElem? (i := 785) rfl) rfl, im_gm (List.mem_of_getElem? (i := 48) (by decide +kernel)) (by decide +kernel), ⟨by decide +kernel, by decide +kernel⟩, rfl, Nat.le_of_ble_eq_true rfl, Nat.le_of_ble_eq_true rfl, fun h => nomatch h⟩
theorem mp_102 : (parseMethodDescriptor ym_102.desc).map (fun d => d.parameters.length) = some 1 := by decide +kernel
theorem mi_102 : Cond.instanceMethod ym_102 ∈ im_g := im_gm (List.mem_of_getElem? (i := 783) (by decide +kernel)) (by decide +kernel)
theorem ms_102 : Cond.selects ym_102.cls ym_102 ym_102 ∈ im_g := im_gm (List.mem_of_getElem? (i := 784) (by decide +kernel)) (by decide +kernel)
def ym_103 : MethodName := ⟨"FencedModulesModel", "translate", "(II)V"⟩
def fm_103 : im_F := (8, false, false, none, cm_103, 8)
set_option maxRecDepth 30000 in
theorem mf_103 : im_mf ym_103 3 fm_103 := ⟨by decide +kernel, im_gm (List.mem_of_getElem? (i := 801) rfl) rfl, im_gm (List.mem_of_getElem? (i := 48) (by decide +kernel)) (by decide +kernel), ⟨by decide +kernel, by decide +kernel⟩, rfl, Nat.le_of_ble_eq_true rfl, Nat.le_of_ble_eq_true rfl, fun h => nomatch h⟩
theorem mp_103 : (parseMethodDescriptor ym_103.desc).map (fun d => d.parameters.length) = some 2 := by decide +kernel
theorem mi_103 : Cond.instanceMethod ym_103 ∈ im_g := im_gm (List.mem_of_getElem? (i := 800) (by decide +kernel)) (by decide +kernel)
theorem ms_103 : Cond.selects ym_103.cls ym_103 ym_103 ∈ im_g := im_gm (List.mem_of_getElem? (i := 23) (by decide +kernel)) (by decide +kernel)
def ym_104 : MethodName := ⟨"FencedModulesModel", "word", "(I)Z"⟩
def fm_104 : im_F := (8, false, false, some .boolean, cm_104, 2)
set_option maxRecDepth 30000 in
theorem mf_104 : im_mf ym_104 2 fm_104 := ⟨by decide +kernel, im_gm (List.mem_of_getElem? (i := 816) rfl) rfl, im_gm (List.mem_of_getElem? (i := 48) (by decide +kernel)) (by decide +kernel), ⟨by decide +kernel, by decide +kernel⟩, rfl, Nat.le_of_ble_eq_true rfl, Nat.le_of_ble_eq_true rfl, fun h => nomatch h⟩
theorem mp_104 : (parseMethodDescriptor ym_104.desc).map (fun d => d.parameters.length) = some 1 := by decide +kernel
theorem mi_104 : Cond.instanceMethod ym_104 ∈ im_g := im_gm (List.mem_of_getElem? (i := 814) (by decide +kernel)) (by decide +kernel)
theorem ms_104 : Cond.selects ym_104.cls ym_104 ym_104 ∈ im_g := im_gm (List.mem_of_getElem? (i := 815) (by decide +kernel)) (by decide +kernel)
def ym_105 : MethodName := ⟨"FencedModulesModel", "module", "(I)I"⟩
def fm_105 : im_F := (8, false, false, some .int, cm_105, 2)
set_option maxRecDepth 30000 in
theorem mf_105 : im_mf ym_105 2 fm_105 := ⟨by decide +kernel, im_gm (List.mem_of_getElem? (i := 820) rfl) rfl, im_gm (List.mem_of_getElem? (i := 48) (by decide +kernel)) (by decide +kernel), ⟨by decide +kernel, by decide +kernel⟩, rfl, Nat.le_of_ble_eq_true rfl, Nat.le_of_ble_eq_true rfl, fun h => nomatch h⟩
theorem mp_105 : (parseMethodDescriptor ym_105.desc).map (fun d => d.parameters.length) = some 1 := by decide +kernel
theorem mi_105 : Cond.instanceMethod ym_105 ∈ im_g := im_gm (List.mem_of_getElem? (i := 818) (by decide +kernel)) (by decide +kernel)
theorem ms_105 : Cond.selects ym_105.cls ym_105 ym_105 ∈ im_g := im_gm (List.mem_of_getElem? (i := 819) (by decide +kernel)) (by decide +kernel)
def ym_106 : MethodName := ⟨"FencedModulesModel", "isWord", "(IIIII)Z"⟩
def fm_106 : im_F := (8, false, false, some .boolean, cm_106, 6)
set_option maxRecDepth 30000 in
theorem mf_106 : im_mf ym_106 6 fm_106 := ⟨by decide +kernel, im_gm (List.mem_of_getElem? (i := 836) rfl) rfl, im_gm (List.mem_of_getElem? (i := 48) (by decide +kernel)) (by decide +kernel), ⟨by decide +kernel, by decide +kernel⟩, rfl, Nat.le_of_ble_eq_true rfl, Nat.le_of_ble_eq_true rfl, fun h => nomatch h⟩
theorem mp_106 : (parseMethodDescriptor ym_106.desc).map (fun d => d.parameters.length) = some 5 := by decide +kernel
theorem mi_106 : Cond.instanceMethod ym_106 ∈ im_g := im_gm (List.mem_of_getElem? (i := 835) (by decide +kernel)) (by decide +kernel)
theorem ms_106 : Cond.selects ym_106.cls ym_106 ym_106 ∈ im_g := im_gm (List.mem_of_getElem? (i := 28) (by decide +kernel)) (by decide +kernel)
def ym_107 : MethodName := ⟨"FencedModulesModel", "keeps", "(IIII)Z"⟩
def fm_107 : im_F := (8, false, false, some .boolean, cm_107, 7)
set_option maxRecDepth 30000 in
theorem mf_107 : im_mf ym_107 5 fm_107 := ⟨by decide +kernel, im_gm (List.mem_of_getElem? (i := 832) rfl) rfl, im_gm (List.mem_of_getElem? (i := 48) (by decide +kernel)) (by decide +kernel), ⟨by decide +kernel, by decide +kernel⟩, rfl, Nat.le_of_ble_eq_true rfl, Nat.le_of_ble_eq_true rfl, fun h => nomatch h⟩
theorem mp_107 : (parseMethodDescriptor ym_107.desc).map (fun d => d.parameters.length) = some 4 := by decide +kernel
theorem mi_107 : Cond.instanceMethod ym_107 ∈ im_g := im_gm (List.mem_of_getElem? (i := 831) (by decide +kernel)) (by decide +kernel)
theorem ms_107 : Cond.selects ym_107.cls ym_107 ym_107 ∈ im_g := im_gm (List.mem_of_getElem? (i := 27) (by decide +kernel)) (by decide +kernel)
def ym_108 : MethodName := ⟨"FencedModulesModel", "safe", "(II)Z"⟩
def fm_108 : im_F := (8, false, false, some .boolean, cm_108, 7)
set_option maxRecDepth 30000 in
theorem mf_108 : im_mf ym_108 3 fm_108 := ⟨by decide +kernel, im_gm (List.mem_of_getElem? (i := 828) rfl) rfl, im_gm (List.mem_of_getElem? (i := 48) (by decide +kernel)) (by decide +kernel), ⟨by decide +kernel, by decide +kernel⟩, rfl, Nat.le_of_ble_eq_true rfl, Nat.le_of_ble_eq_true rfl, fun h => nomatch h⟩
theorem mp_108 : (parseMethodDescriptor ym_108.desc).map (fun d => d.parameters.length) = some 2 := by decide +kernel
theorem mi_108 : Cond.instanceMethod ym_108 ∈ im_g := im_gm (List.mem_of_getElem? (i := 827) (by decide +kernel)) (by decide +kernel)
theorem ms_108 : Cond.selects ym_108.cls ym_108 ym_108 ∈ im_g := im_gm (List.mem_of_getElem? (i := 26) (by decide +kernel)) (by decide +kernel)
def ym_109 : MethodName := ⟨"FencedModulesModel", "verify", "(I)I"⟩
def fm_109 : im_F := (8, false, false, some .int, cm_109, 3)
set_option maxRecDepth 30000 in
theorem mf_109 : im_mf ym_109 2 fm_109 := ⟨by decide +kernel, im_gm (List.mem_of_getElem? (i := 824) rfl) rfl, im_gm (List.mem_of_getElem? (i := 48) (by decide +kernel)) (by decide +kernel), ⟨by decide +kernel, by decide +kernel⟩, rfl, Nat.le_of_ble_eq_true rfl, Nat.le_of_ble_eq_true rfl, fun h => nomatch h⟩
theorem mp_109 : (parseMethodDescriptor ym_109.desc).map (fun d => d.parameters.length) = some 1 := by decide +kernel
theorem mi_109 : Cond.instanceMethod ym_109 ∈ im_g := im_gm (List.mem_of_getElem? (i := 822) (by decide +kernel)) (by decide +kernel)
theorem ms_109 : Cond.selects ym_109.cls ym_109 ym_109 ∈ im_g := im_gm (List.mem_of_getElem? (i := 823) (by decide +kernel)) (by decide +kernel)
def ym_110 : MethodName := ⟨"FencedModulesModel", "load", "(I)Z"⟩
def fm_110 : im_F := (8, false, false, some .boolean, cm_110, 4)
set_option maxRecDepth 30000 in
theorem mf_110 : im_mf ym_110 2 fm_110 := ⟨by decide +kernel, im_gm (List.mem_of_getElem? (i := 840) rfl) rfl, im_gm (List.mem_of_getElem? (i := 48) (by decide +kernel)) (by decide +kernel), ⟨by decide +kernel, by decide +kernel⟩, rfl, Nat.le_of_ble_eq_true rfl, Nat.le_of_ble_eq_true rfl, fun h => nomatch h⟩
theorem mp_110 : (parseMethodDescriptor ym_110.desc).map (fun d => d.parameters.length) = some 1 := by decide +kernel
theorem mi_110 : Cond.instanceMethod ym_110 ∈ im_g := im_gm (List.mem_of_getElem? (i := 838) (by decide +kernel)) (by decide +kernel)
theorem ms_110 : Cond.selects ym_110.cls ym_110 ym_110 ∈ im_g := im_gm (List.mem_of_getElem? (i := 839) (by decide +kernel)) (by decide +kernel)
def ym_111 : MethodName := ⟨"FencedModulesModel", "feed", "(II)Z"⟩
def fm_111 : im_F := (8, false, false, some .boolean, cm_111, 3)
set_option maxRecDepth 30000 in
theorem mf_111 : im_mf ym_111 3 fm_111 := ⟨by decide +kernel, im_gm (List.mem_of_getElem? (i := 845) rfl) rfl, im_gm (List.mem_of_getElem? (i := 48) (by decide +kernel)) (by decide +kernel), ⟨by decide +kernel, by decide +kernel⟩, rfl, Nat.le_of_ble_eq_true rfl, Nat.le_of_ble_eq_true rfl, fun h => nomatch h⟩
theorem mp_111 : (parseMethodDescriptor ym_111.desc).map (fun d => d.parameters.length) = some 2 := by decide +kernel
theorem mi_111 : Cond.instanceMethod ym_111 ∈ im_g := im_gm (List.mem_of_getElem? (i := 843) (by decide +kernel)) (by decide +kernel)
theorem ms_111 : Cond.selects ym_111.cls ym_111 ym_111 ∈ im_g := im_gm (List.mem_of_getElem? (i := 844) (by decide +kernel)) (by decide +kernel)
def ym_112 : MethodName := ⟨"FencedModulesModel", "put", "(II)V"⟩
def fm_112 : im_F := (8, false, false, none, cm_112, 3)
set_option maxRecDepth 30000 in
theorem mf_112 : im_mf ym_112 3 fm_112 := ⟨by decide +kernel, im_gm (List.mem_of_getElem? (i := 869) rfl) rfl, im_gm (List.mem_of_getElem? (i := 48) (by decide +kernel)) (by decide +kernel), ⟨by decide +kernel, by decide +kernel⟩, rfl, Nat.le_of_ble_eq_true rfl, Nat.le_of_ble_eq_true rfl, fun h => nomatch h⟩
theorem mp_112 : (parseMethodDescriptor ym_112.desc).map (fun d => d.parameters.length) = some 2 := by decide +kernel
theorem mi_112 : Cond.instanceMethod ym_112 ∈ im_g := im_gm (List.mem_of_getElem? (i := 868) (by decide +kernel)) (by decide +kernel)
theorem ms_112 : Cond.selects ym_112.cls ym_112 ym_112 ∈ im_g := im_gm (List.mem_of_getElem? (i := 33) (by decide +kernel)) (by decide +kernel)
def ym_113 : MethodName := ⟨"FencedModulesModel", "note", "(IIII)V"⟩
def fm_113 : im_F := (8, false, false, none, cm_113, 6)
set_option maxRecDepth 30000 in
theorem mf_113 : im_mf ym_113 5 fm_113 := ⟨by decide +kernel, im_gm (List.mem_of_getElem? (i := 861) rfl) rfl, im_gm (List.mem_of_getElem? (i := 48) (by decide +kernel)) (by decide +kernel), ⟨by decide +kernel, by decide +kernel⟩, rfl, Nat.le_of_ble_eq_true rfl, Nat.le_of_ble_eq_true rfl, fun h => nomatch h⟩
theorem mp_113 : (parseMethodDescriptor ym_113.desc).map (fun d => d.parameters.length) = some 4 := by decide +kernel
theorem mi_113 : Cond.instanceMethod ym_113 ∈ im_g := im_gm (List.mem_of_getElem? (i := 860) (by decide +kernel)) (by decide +kernel)
theorem ms_113 : Cond.selects ym_113.cls ym_113 ym_113 ∈ im_g := im_gm (List.mem_of_getElem? (i := 31) (by decide +kernel)) (by decide +kernel)
def ym_114 : MethodName := ⟨"FencedModulesModel", "host", "(II)V"⟩
def fm_114 : im_F := (8, false, false, none, cm_114, 7)
set_option maxRecDepth 30000 in
theorem mf_114 : im_mf ym_114 3 fm_114 := ⟨by decide +kernel, im_gm (List.mem_of_getElem? (i := 865) rfl) rfl, im_gm (List.mem_of_getElem? (i := 48) (by decide +kernel)) (by decide +kernel), ⟨by decide +kernel, by decide +kernel⟩, rfl, Nat.le_of_ble_eq_true rfl, Nat.le_of_ble_eq_true rfl, fun h => nomatch h⟩
theorem mp_114 : (parseMethodDescriptor ym_114.desc).map (fun d => d.parameters.length) = some 2 := by decide +kernel
theorem mi_114 : Cond.instanceMethod ym_114 ∈ im_g := im_gm (List.mem_of_getElem? (i := 864) (by decide +kernel)) (by decide +kernel)
theorem ms_114 : Cond.selects ym_114.cls ym_114 ym_114 ∈ im_g := im_gm (List.mem_of_getElem? (i := 32) (by decide +kernel)) (by decide +kernel)
def ym_115 : MethodName := ⟨"FencedModulesModel", "prints", "(II)Z"⟩
def fm_115 : im_F := (8, false, false, some .boolean, cm_115, 2)
set_option maxRecDepth 30000 in
theorem mf_115 : im_mf ym_115 2 fm_115 := ⟨by decide +kernel, im_gm (List.mem_of_getElem? (i := 872) rfl) rfl, im_gm (List.mem_of_getElem? (i := 48) (by decide +kernel)) (by decide +kernel), ⟨by decide +kernel, by decide +kernel⟩, rfl, Nat.le_of_ble_eq_true rfl, Nat.le_of_ble_eq_true rfl, fun h => nomatch h⟩
theorem mp_115 : (parseMethodDescriptor ym_115.desc).map (fun d => d.parameters.length) = some 2 := by decide +kernel
theorem mi_115 : Cond.static ym_115 ∈ im_g := im_gm (List.mem_of_getElem? (i := 871) (by decide +kernel)) (by decide +kernel)
def ym_116 : MethodName := ⟨"FencedModulesModel", "step", "(I)V"⟩
def fm_116 : im_F := (8, false, false, none, cm_116, 8)
set_option maxRecDepth 30000 in
theorem mf_116 : im_mf ym_116 2 fm_116 := ⟨by decide +kernel, im_gm (List.mem_of_getElem? (i := 857) rfl) rfl, im_gm (List.mem_of_getElem? (i := 48) (by decide +kernel)) (by decide +kernel), ⟨by decide +kernel, by decide +kernel⟩, rfl, Nat.le_of_ble_eq_true rfl, Nat.le_of_ble_eq_true rfl, fun h => nomatch h⟩
theorem mp_116 : (parseMethodDescriptor ym_116.desc).map (fun d => d.parameters.length) = some 1 := by decide +kernel
theorem mi_116 : Cond.instanceMethod ym_116 ∈ im_g := im_gm (List.mem_of_getElem? (i := 856) (by decide +kernel)) (by decide +kernel)
theorem ms_116 : Cond.selects ym_116.cls ym_116 ym_116 ∈ im_g := im_gm (List.mem_of_getElem? (i := 30) (by decide +kernel)) (by decide +kernel)
def ym_117 : MethodName := ⟨"FencedModulesModel", "goes", "(III)Z"⟩
def fm_117 : im_F := (8, false, false, some .boolean, cm_117, 3)
set_option maxRecDepth 30000 in
theorem mf_117 : im_mf ym_117 3 fm_117 := ⟨by decide +kernel, im_gm (List.mem_of_getElem? (i := 875) rfl) rfl, im_gm (List.mem_of_getElem? (i := 48) (by decide +kernel)) (by decide +kernel), ⟨by decide +kernel, by decide +kernel⟩, rfl, Nat.le_of_ble_eq_true rfl, Nat.le_of_ble_eq_true rfl, fun h => nomatch h⟩
theorem mp_117 : (parseMethodDescriptor ym_117.desc).map (fun d => d.parameters.length) = some 3 := by decide +kernel
theorem mi_117 : Cond.static ym_117 ∈ im_g := im_gm (List.mem_of_getElem? (i := 874) (by decide +kernel)) (by decide +kernel)
def ym_118 : MethodName := ⟨"FencedModulesModel", "value", "(IIII)I"⟩
def fm_118 : im_F := (8, false, false, some .int, cm_118, 4)
set_option maxRecDepth 30000 in
theorem mf_118 : im_mf ym_118 4 fm_118 := ⟨by decide +kernel, im_gm (List.mem_of_getElem? (i := 878) rfl) rfl, im_gm (List.mem_of_getElem? (i := 48) (by decide +kernel)) (by decide +kernel), ⟨by decide +kernel, by decide +kernel⟩, rfl, Nat.le_of_ble_eq_true rfl, Nat.le_of_ble_eq_true rfl, fun h => nomatch h⟩
theorem mp_118 : (parseMethodDescriptor ym_118.desc).map (fun d => d.parameters.length) = some 4 := by decide +kernel
theorem mi_118 : Cond.static ym_118 ∈ im_g := im_gm (List.mem_of_getElem? (i := 877) (by decide +kernel)) (by decide +kernel)
def ym_119 : MethodName := ⟨"FencedModulesModel", "pass", "()V"⟩
def fm_119 : im_F := (8, false, false, none, cm_119, 1)
set_option maxRecDepth 30000 in
theorem mf_119 : im_mf ym_119 1 fm_119 := ⟨by decide +kernel, im_gm (List.mem_of_getElem? (i := 853) rfl) rfl, im_gm (List.mem_of_getElem? (i := 48) (by decide +kernel)) (by decide +kernel), ⟨by decide +kernel, by decide +kernel⟩, rfl, Nat.le_of_ble_eq_true rfl, Nat.le_of_ble_eq_true rfl, fun h => nomatch h⟩
theorem mp_119 : (parseMethodDescriptor ym_119.desc).map (fun d => d.parameters.length) = some 0 := by decide +kernel
theorem mi_119 : Cond.instanceMethod ym_119 ∈ im_g := im_gm (List.mem_of_getElem? (i := 852) (by decide +kernel)) (by decide +kernel)
theorem ms_119 : Cond.selects ym_119.cls ym_119 ym_119 ∈ im_g := im_gm (List.mem_of_getElem? (i := 29) (by decide +kernel)) (by decide +kernel)
def ym_120 : MethodName := ⟨"FencedModulesModel", "run", "(I)I"⟩
def fm_120 : im_F := (8, false, false, some .int, cm_120, 4)
set_option maxRecDepth 30000 in
theorem mf_120 : im_mf ym_120 2 fm_120 := ⟨by decide +kernel, im_gm (List.mem_of_getElem? (i := 849) rfl) rfl, im_gm (List.mem_of_getElem? (i := 48) (by decide +kernel)) (by decide +kernel), ⟨by decide +kernel, by decide +kernel⟩, rfl, Nat.le_of_ble_eq_true rfl, Nat.le_of_ble_eq_true rfl, fun h => nomatch h⟩
theorem mp_120 : (parseMethodDescriptor ym_120.desc).map (fun d => d.parameters.length) = some 1 := by decide +kernel
theorem mi_120 : Cond.instanceMethod ym_120 ∈ im_g := im_gm (List.mem_of_getElem? (i := 847) (by decide +kernel)) (by decide +kernel)
theorem ms_120 : Cond.selects ym_120.cls ym_120 ym_120 ∈ im_g := im_gm (List.mem_of_getElem? (i := 848) (by decide +kernel)) (by decide +kernel)
def ym_121 : MethodName := ⟨"FencedModulesModel", "anyNamed", "(II)Z"⟩
def fm_121 : im_F := (8, false, false, some .boolean, cm_121, 5)
set_option maxRecDepth 30000 in
theorem mf_121 : im_mf ym_121 3 fm_121 := ⟨by decide +kernel, im_gm (List.mem_of_getElem? (i := 898) rfl) rfl, im_gm (List.mem_of_getElem? (i := 48) (by decide +kernel)) (by decide +kernel), ⟨by decide +kernel, by decide +kernel⟩, rfl, Nat.le_of_ble_eq_true rfl, Nat.le_of_ble_eq_true rfl, fun h => nomatch h⟩
theorem mp_121 : (parseMethodDescriptor ym_121.desc).map (fun d => d.parameters.length) = some 2 := by decide +kernel
theorem mi_121 : Cond.instanceMethod ym_121 ∈ im_g := im_gm (List.mem_of_getElem? (i := 897) (by decide +kernel)) (by decide +kernel)
theorem ms_121 : Cond.selects ym_121.cls ym_121 ym_121 ∈ im_g := im_gm (List.mem_of_getElem? (i := 37) (by decide +kernel)) (by decide +kernel)
def ym_122 : MethodName := ⟨"FencedModulesModel", "become", "(IIZ)V"⟩
def fm_122 : im_F := (8, false, false, none, cm_122, 4)
set_option maxRecDepth 30000 in
theorem mf_122 : im_mf ym_122 4 fm_122 := ⟨by decide +kernel, im_gm (List.mem_of_getElem? (i := 886) rfl) rfl, im_gm (List.mem_of_getElem? (i := 48) (by decide +kernel)) (by decide +kernel), ⟨by decide +kernel, by decide +kernel⟩, rfl, Nat.le_of_ble_eq_true rfl, Nat.le_of_ble_eq_true rfl, fun h => nomatch h⟩
theorem mp_122 : (parseMethodDescriptor ym_122.desc).map (fun d => d.parameters.length) = some 3 := by decide +kernel
theorem mi_122 : Cond.instanceMethod ym_122 ∈ im_g := im_gm (List.mem_of_getElem? (i := 885) (by decide +kernel)) (by decide +kernel)
theorem ms_122 : Cond.selects ym_122.cls ym_122 ym_122 ∈ im_g := im_gm (List.mem_of_getElem? (i := 34) (by decide +kernel)) (by decide +kernel)
def ym_123 : MethodName := ⟨"FencedModulesModel", "follow", "(II)I"⟩
def fm_123 : im_F := (8, false, false, some .int, cm_123, 5)
set_option maxRecDepth 30000 in
theorem mf_123 : im_mf ym_123 3 fm_123 := ⟨by decide +kernel, im_gm (List.mem_of_getElem? (i := 882) rfl) rfl, im_gm (List.mem_of_getElem? (i := 48) (by decide +kernel)) (by decide +kernel), ⟨by decide +kernel, by decide +kernel⟩, rfl, Nat.le_of_ble_eq_true rfl, Nat.le_of_ble_eq_true rfl, fun h => nomatch h⟩
theorem mp_123 : (parseMethodDescriptor ym_123.desc).map (fun d => d.parameters.length) = some 2 := by decide +kernel
theorem mi_123 : Cond.instanceMethod ym_123 ∈ im_g := im_gm (List.mem_of_getElem? (i := 880) (by decide +kernel)) (by decide +kernel)
theorem ms_123 : Cond.selects ym_123.cls ym_123 ym_123 ∈ im_g := im_gm (List.mem_of_getElem? (i := 881) (by decide +kernel)) (by decide +kernel)
def ym_124 : MethodName := ⟨"FencedModulesModel", "along", "(I)I"⟩
def fm_124 : im_F := (8, false, false, some .int, cm_124, 8)
set_option maxRecDepth 30000 in
theorem mf_124 : im_mf ym_124 2 fm_124 := ⟨by decide +kernel, im_gm (List.mem_of_getElem? (i := 890) rfl) rfl, im_gm (List.mem_of_getElem? (i := 48) (by decide +kernel)) (by decide +kernel), ⟨by decide +kernel, by decide +kernel⟩, rfl, Nat.le_of_ble_eq_true rfl, Nat.le_of_ble_eq_true rfl, fun h => nomatch h⟩
theorem mp_124 : (parseMethodDescriptor ym_124.desc).map (fun d => d.parameters.length) = some 1 := by decide +kernel
theorem mi_124 : Cond.instanceMethod ym_124 ∈ im_g := im_gm (List.mem_of_getElem? (i := 889) (by decide +kernel)) (by decide +kernel)
theorem ms_124 : Cond.selects ym_124.cls ym_124 ym_124 ∈ im_g := im_gm (List.mem_of_getElem? (i := 35) (by decide +kernel)) (by decide +kernel)
def ym_125 : MethodName := ⟨"FencedModulesModel", "ask", "(II)I"⟩
def fm_125 : im_F := (8, false, false, some .int, cm_125, 9)
set_option maxRecDepth 30000 in
theorem mf_125 : im_mf ym_125 3 fm_125 := ⟨by decide +kernel, im_gm (List.mem_of_getElem? (i := 894) rfl) rfl, im_gm (List.mem_of_getElem? (i := 48) (by decide +kernel)) (by decide +kernel), ⟨by decide +kernel, by decide +kernel⟩, rfl, Nat.le_of_ble_eq_true rfl, Nat.le_of_ble_eq_true rfl, fun h => nomatch h⟩
theorem mp_125 : (parseMethodDescriptor ym_125.desc).map (fun d => d.parameters.length) = some 2 := by decide +kernel
theorem mi_125 : Cond.instanceMethod ym_125 ∈ im_g := im_gm (List.mem_of_getElem? (i := 893) (by decide +kernel)) (by decide +kernel)
theorem ms_125 : Cond.selects ym_125.cls ym_125 ym_125 ∈ im_g := im_gm (List.mem_of_getElem? (i := 36) (by decide +kernel)) (by decide +kernel)
def ym_126 : MethodName := ⟨"FencedModulesModel", "state", "(I)I"⟩
def fm_126 : im_F := (8, false, false, some .int, cm_126, 2)
set_option maxRecDepth 30000 in
theorem mf_126 : im_mf ym_126 2 fm_126 := ⟨by decide +kernel, im_gm (List.mem_of_getElem? (i := 902) rfl) rfl, im_gm (List.mem_of_getElem? (i := 48) (by decide +kernel)) (by decide +kernel), ⟨by decide +kernel, by decide +kernel⟩, rfl, Nat.le_of_ble_eq_true rfl, Nat.le_of_ble_eq_true rfl, fun h => nomatch h⟩
theorem mp_126 : (parseMethodDescriptor ym_126.desc).map (fun d => d.parameters.length) = some 1 := by decide +kernel
theorem mi_126 : Cond.instanceMethod ym_126 ∈ im_g := im_gm (List.mem_of_getElem? (i := 900) (by decide +kernel)) (by decide +kernel)
theorem ms_126 : Cond.selects ym_126.cls ym_126 ym_126 ∈ im_g := im_gm (List.mem_of_getElem? (i := 901) (by decide +kernel)) (by decide +kernel)
def ym_127 : MethodName := ⟨"FencedModulesModel", "pc", "(I)I"⟩
def fm_127 : im_F := (8, false, false, some .int, cm_127, 2)
set_option maxRecDepth 30000 in
theorem mf_127 : im_mf ym_127 2 fm_127 := ⟨by decide +kernel, im_gm (List.mem_of_getElem? (i := 906) rfl) rfl, im_gm (List.mem_of_getElem? (i := 48) (by decide +kernel)) (by decide +kernel), ⟨by decide +kernel, by decide +kernel⟩, rfl, Nat.le_of_ble_eq_true rfl, Nat.le_of_ble_eq_true rfl, fun h => nomatch h⟩
theorem mp_127 : (parseMethodDescriptor ym_127.desc).map (fun d => d.parameters.length) = some 1 := by decide +kernel
theorem mi_127 : Cond.instanceMethod ym_127 ∈ im_g := im_gm (List.mem_of_getElem? (i := 904) (by decide +kernel)) (by decide +kernel)
theorem ms_127 : Cond.selects ym_127.cls ym_127 ym_127 ∈ im_g := im_gm (List.mem_of_getElem? (i := 905) (by decide +kernel)) (by decide +kernel)
def ym_128 : MethodName := ⟨"FencedModulesModel", "register", "(II)I"⟩
def fm_128 : im_F := (8, false, false, some .int, cm_128, 3)
set_option maxRecDepth 30000 in
theorem mf_128 : im_mf ym_128 3 fm_128 := ⟨by decide +kernel, im_gm (List.mem_of_getElem? (i := 910) rfl) rfl, im_gm (List.mem_of_getElem? (i := 48) (by decide +kernel)) (by decide +kernel), ⟨by decide +kernel, by decide +kernel⟩, rfl, Nat.le_of_ble_eq_true rfl, Nat.le_of_ble_eq_true rfl, fun h => nomatch h⟩
theorem mp_128 : (parseMethodDescriptor ym_128.desc).map (fun d => d.parameters.length) = some 2 := by decide +kernel
theorem mi_128 : Cond.instanceMethod ym_128 ∈ im_g := im_gm (List.mem_of_getElem? (i := 908) (by decide +kernel)) (by decide +kernel)
theorem ms_128 : Cond.selects ym_128.cls ym_128 ym_128 ∈ im_g := im_gm (List.mem_of_getElem? (i := 909) (by decide +kernel)) (by decide +kernel)
def ym_129 : MethodName := ⟨"FencedModulesModel", "peek", "(I)I"⟩
def fm_129 : im_F := (8, false, false, some .int, cm_129, 2)
set_option maxRecDepth 30000 in
theorem mf_129 : im_mf ym_129 2 fm_129 := ⟨by decide +kernel, im_gm (List.mem_of_getElem? (i := 914) rfl) rfl, im_gm (List.mem_of_getElem? (i := 48) (by decide +kernel)) (by decide +kernel), ⟨by decide +kernel, by decide +kernel⟩, rfl, Nat.le_of_ble_eq_true rfl, Nat.le_of_ble_eq_true rfl, fun h => nomatch h⟩
theorem mp_129 : (parseMethodDescriptor ym_129.desc).map (fun d => d.parameters.length) = some 1 := by decide +kernel
theorem mi_129 : Cond.instanceMethod ym_129 ∈ im_g := im_gm (List.mem_of_getElem? (i := 912) (by decide +kernel)) (by decide +kernel)
theorem ms_129 : Cond.selects ym_129.cls ym_129 ym_129 ∈ im_g := im_gm (List.mem_of_getElem? (i := 913) (by decide +kernel)) (by decide +kernel)
def ym_130 : MethodName := ⟨"FencedModulesModel", "output", "(II)I"⟩
def fm_130 : im_F := (8, false, false, some .int, cm_130, 3)
set_option maxRecDepth 30000 in
theorem mf_130 : im_mf ym_130 3 fm_130 := ⟨by decide +kernel, im_gm (List.mem_of_getElem? (i := 918) rfl) rfl, im_gm (List.mem_of_getElem? (i := 48) (by decide +kernel)) (by decide +kernel), ⟨by decide +kernel, by decide +kernel⟩, rfl, Nat.le_of_ble_eq_true rfl, Nat.le_of_ble_eq_true rfl, fun h => nomatch h⟩
theorem mp_130 : (parseMethodDescriptor ym_130.desc).map (fun d => d.parameters.length) = some 2 := by decide +kernel
theorem mi_130 : Cond.instanceMethod ym_130 ∈ im_g := im_gm (List.mem_of_getElem? (i := 916) (by decide +kernel)) (by decide +kernel)
theorem ms_130 : Cond.selects ym_130.cls ym_130 ym_130 ∈ im_g := im_gm (List.mem_of_getElem? (i := 917) (by decide +kernel)) (by decide +kernel)
def ym_131 : MethodName := ⟨"FencedModulesModel", "call", "(III)I"⟩
def fm_131 : im_F := (8, false, false, some .int, cm_131, 4)
set_option maxRecDepth 30000 in
theorem mf_131 : im_mf ym_131 4 fm_131 := ⟨by decide +kernel, im_gm (List.mem_of_getElem? (i := 922) rfl) rfl, im_gm (List.mem_of_getElem? (i := 48) (by decide +kernel)) (by decide +kernel), ⟨by decide +kernel, by decide +kernel⟩, rfl, Nat.le_of_ble_eq_true rfl, Nat.le_of_ble_eq_true rfl, fun h => nomatch h⟩
theorem mp_131 : (parseMethodDescriptor ym_131.desc).map (fun d => d.parameters.length) = some 3 := by decide +kernel
theorem mi_131 : Cond.instanceMethod ym_131 ∈ im_g := im_gm (List.mem_of_getElem? (i := 920) (by decide +kernel)) (by decide +kernel)
theorem ms_131 : Cond.selects ym_131.cls ym_131 ym_131 ∈ im_g := im_gm (List.mem_of_getElem? (i := 921) (by decide +kernel)) (by decide +kernel)
def ym_132 : MethodName := ⟨"FencedModulesModel", "trace", "(II)I"⟩
def fm_132 : im_F := (8, false, false, some .int, cm_132, 3)
set_option maxRecDepth 30000 in
theorem mf_132 : im_mf ym_132 3 fm_132 := ⟨by decide +kernel, im_gm (List.mem_of_getElem? (i := 926) rfl) rfl, im_gm (List.mem_of_getElem? (i := 48) (by decide +kernel)) (by decide +kernel), ⟨by decide +kernel, by decide +kernel⟩, rfl, Nat.le_of_ble_eq_true rfl, Nat.le_of_ble_eq_true rfl, fun h => nomatch h⟩
theorem mp_132 : (parseMethodDescriptor ym_132.desc).map (fun d => d.parameters.length) = some 2 := by decide +kernel
theorem mi_132 : Cond.instanceMethod ym_132 ∈ im_g := im_gm (List.mem_of_getElem? (i := 924) (by decide +kernel)) (by decide +kernel)
theorem ms_132 : Cond.selects ym_132.cls ym_132 ym_132 ∈ im_g := im_gm (List.mem_of_getElem? (i := 925) (by decide +kernel)) (by decide +kernel)
def ym_133 : MethodName := ⟨"FencedModules$Rewriter", "translate", "(LFencedModules$Source;ILFencedModules$Code;)V"⟩
def fm_133 : im_F := (9, false, false, none, cm_133, 4)
set_option maxRecDepth 30000 in
theorem mf_133 : im_mf ym_133 3 fm_133 := ⟨by decide +kernel, im_gm (List.mem_of_getElem? (i := 329) rfl) rfl, im_gm (List.mem_of_getElem? (i := 49) (by decide +kernel)) (by decide +kernel), ⟨by decide +kernel, by decide +kernel⟩, rfl, Nat.le_of_ble_eq_true rfl, Nat.le_of_ble_eq_true rfl, fun h => nomatch h⟩
theorem mp_133 : (parseMethodDescriptor ym_133.desc).map (fun d => d.parameters.length) = some 3 := by decide +kernel
theorem mi_133 : Cond.static ym_133 ∈ im_g := im_gm (List.mem_of_getElem? (i := 328) (by decide +kernel)) (by decide +kernel)
def ym_134 : MethodName := ⟨"FencedModules$Rewriter", "translateLine", "(LFencedModules$Source;IILFencedModules$Code;)V"⟩
def fm_134 : im_F := (9, false, false, none, cm_134, 8)
set_option maxRecDepth 30000 in
theorem mf_134 : im_mf ym_134 4 fm_134 := ⟨by decide +kernel, im_gm (List.mem_of_getElem? (i := 337) rfl) rfl, im_gm (List.mem_of_getElem? (i := 49) (by decide +kernel)) (by decide +kernel), ⟨by decide +kernel, by decide +kernel⟩, rfl, Nat.le_of_ble_eq_true rfl, Nat.le_of_ble_eq_true rfl, fun h => nomatch h⟩
theorem mp_134 : (parseMethodDescriptor ym_134.desc).map (fun d => d.parameters.length) = some 4 := by decide +kernel
theorem mi_134 : Cond.static ym_134 ∈ im_g := im_gm (List.mem_of_getElem? (i := 336) (by decide +kernel)) (by decide +kernel)
def ym_135 : MethodName := ⟨"FencedModules$Rewriter", "addFence", "(LFencedModules$Code;IIII)V"⟩
def fm_135 : im_F := (9, false, false, none, cm_135, 5)
set_option maxRecDepth 30000 in
theorem mf_135 : im_mf ym_135 5 fm_135 := ⟨by decide +kernel, im_gm (List.mem_of_getElem? (i := 354) rfl) rfl, im_gm (List.mem_of_getElem? (i := 49) (by decide +kernel)) (by decide +kernel), ⟨by decide +kernel, by decide +kernel⟩, rfl, Nat.le_of_ble_eq_true rfl, Nat.le_of_ble_eq_true rfl, fun h => nomatch h⟩
theorem mp_135 : (parseMethodDescriptor ym_135.desc).map (fun d => d.parameters.length) = some 5 := by decide +kernel
theorem mi_135 : Cond.static ym_135 ∈ im_g := im_gm (List.mem_of_getElem? (i := 353) (by decide +kernel)) (by decide +kernel)
def ym_136 : MethodName := ⟨"FencedModules$Rewriter", "targetOf", "(LFencedModules$Source;I)I"⟩
def fm_136 : im_F := (9, false, false, some .int, cm_136, 2)
set_option maxRecDepth 30000 in
theorem mf_136 : im_mf ym_136 2 fm_136 := ⟨by decide +kernel, im_gm (List.mem_of_getElem? (i := 360) rfl) rfl, im_gm (List.mem_of_getElem? (i := 49) (by decide +kernel)) (by decide +kernel), ⟨by decide +kernel, by decide +kernel⟩, rfl, Nat.le_of_ble_eq_true rfl, Nat.le_of_ble_eq_true rfl, fun h => nomatch h⟩
theorem mp_136 : (parseMethodDescriptor ym_136.desc).map (fun d => d.parameters.length) = some 2 := by decide +kernel
theorem mi_136 : Cond.static ym_136 ∈ im_g := im_gm (List.mem_of_getElem? (i := 359) (by decide +kernel)) (by decide +kernel)
def ym_137 : MethodName := ⟨"FencedModules$Rewriter", "distance", "(LFencedModules$Source;ILFencedModules$Code;)I"⟩
def fm_137 : im_F := (9, false, false, some .int, cm_137, 3)
set_option maxRecDepth 30000 in
theorem mf_137 : im_mf ym_137 3 fm_137 := ⟨by decide +kernel, im_gm (List.mem_of_getElem? (i := 368) rfl) rfl, im_gm (List.mem_of_getElem? (i := 49) (by decide +kernel)) (by decide +kernel), ⟨by decide +kernel, by decide +kernel⟩, rfl, Nat.le_of_ble_eq_true rfl, Nat.le_of_ble_eq_true rfl, fun h => nomatch h⟩
theorem mp_137 : (parseMethodDescriptor ym_137.desc).map (fun d => d.parameters.length) = some 3 := by decide +kernel
theorem mi_137 : Cond.static ym_137 ∈ im_g := im_gm (List.mem_of_getElem? (i := 367) (by decide +kernel)) (by decide +kernel)
def ym_138 : MethodName := ⟨"FencedModules$Rewriter", "withoutUnusedFields", "(IIII)I"⟩
def fm_138 : im_F := (9, false, false, some .int, cm_138, 4)
set_option maxRecDepth 30000 in
theorem mf_138 : im_mf ym_138 4 fm_138 := ⟨by decide +kernel, im_gm (List.mem_of_getElem? (i := 375) rfl) rfl, im_gm (List.mem_of_getElem? (i := 49) (by decide +kernel)) (by decide +kernel), ⟨by decide +kernel, by decide +kernel⟩, rfl, Nat.le_of_ble_eq_true rfl, Nat.le_of_ble_eq_true rfl, fun h => nomatch h⟩
theorem mp_138 : (parseMethodDescriptor ym_138.desc).map (fun d => d.parameters.length) = some 4 := by decide +kernel
theorem mi_138 : Cond.static ym_138 ∈ im_g := im_gm (List.mem_of_getElem? (i := 374) (by decide +kernel)) (by decide +kernel)
def ym_139 : MethodName := ⟨"FencedModules$Verifier", "firstUnsafe", "(LFencedModules$Code;I)I"⟩
def fm_139 : im_F := (10, false, false, some .int, cm_139, 3)
set_option maxRecDepth 30000 in
theorem mf_139 : im_mf ym_139 2 fm_139 := ⟨by decide +kernel, im_gm (List.mem_of_getElem? (i := 396) rfl) rfl, im_gm (List.mem_of_getElem? (i := 51) (by decide +kernel)) (by decide +kernel), ⟨by decide +kernel, by decide +kernel⟩, rfl, Nat.le_of_ble_eq_true rfl, Nat.le_of_ble_eq_true rfl, fun h => nomatch h⟩
theorem mp_139 : (parseMethodDescriptor ym_139.desc).map (fun d => d.parameters.length) = some 2 := by decide +kernel
theorem mi_139 : Cond.static ym_139 ∈ im_g := im_gm (List.mem_of_getElem? (i := 395) (by decide +kernel)) (by decide +kernel)
def ym_140 : MethodName := ⟨"FencedModules$Verifier", "isSafe", "(LFencedModules$Code;I)Z"⟩
def fm_140 : im_F := (10, false, false, some .boolean, cm_140, 4)
set_option maxRecDepth 30000 in
theorem mf_140 : im_mf ym_140 2 fm_140 := ⟨by decide +kernel, im_gm (List.mem_of_getElem? (i := 400) rfl) rfl, im_gm (List.mem_of_getElem? (i := 51) (by decide +kernel)) (by decide +kernel), ⟨by decide +kernel, by decide +kernel⟩, rfl, Nat.le_of_ble_eq_true rfl, Nat.le_of_ble_eq_true rfl, fun h => nomatch h⟩
theorem mp_140 : (parseMethodDescriptor ym_140.desc).map (fun d => d.parameters.length) = some 2 := by decide +kernel
theorem mi_140 : Cond.static ym_140 ∈ im_g := im_gm (List.mem_of_getElem? (i := 399) (by decide +kernel)) (by decide +kernel)
def ym_141 : MethodName := ⟨"FencedModules$Verifier", "keepsFences", "(LFencedModules$Code;II)Z"⟩
def fm_141 : im_F := (10, false, false, some .boolean, cm_141, 5)
set_option maxRecDepth 30000 in
theorem mf_141 : im_mf ym_141 3 fm_141 := ⟨by decide +kernel, im_gm (List.mem_of_getElem? (i := 417) rfl) rfl, im_gm (List.mem_of_getElem? (i := 51) (by decide +kernel)) (by decide +kernel), ⟨by decide +kernel, by decide +kernel⟩, rfl, Nat.le_of_ble_eq_true rfl, Nat.le_of_ble_eq_true rfl, fun h => nomatch h⟩
theorem mp_141 : (parseMethodDescriptor ym_141.desc).map (fun d => d.parameters.length) = some 3 := by decide +kernel
theorem mi_141 : Cond.static ym_141 ∈ im_g := im_gm (List.mem_of_getElem? (i := 416) (by decide +kernel)) (by decide +kernel)
def ym_142 : MethodName := ⟨"FencedModules$Verifier", "isFenced", "(LFencedModules$Code;III)Z"⟩
def fm_142 : im_F := (10, false, false, some .boolean, cm_142, 7)
set_option maxRecDepth 30000 in
theorem mf_142 : im_mf ym_142 4 fm_142 := ⟨by decide +kernel, im_gm (List.mem_of_getElem? (i := 421) rfl) rfl, im_gm (List.mem_of_getElem? (i := 51) (by decide +kernel)) (by decide +kernel), ⟨by decide +kernel, by decide +kernel⟩, rfl, Nat.le_of_ble_eq_true rfl, Nat.le_of_ble_eq_true rfl, fun h => nomatch h⟩
theorem mp_142 : (parseMethodDescriptor ym_142.desc).map (fun d => d.parameters.length) = some 4 := by decide +kernel
theorem mi_142 : Cond.static ym_142 ∈ im_g := im_gm (List.mem_of_getElem? (i := 420) (by decide +kernel)) (by decide +kernel)
def ym_143 : MethodName := ⟨"FencedModules$Words", "opOf", "(I)I"⟩
def fm_143 : im_F := (11, false, false, some .int, cm_143, 1)
set_option maxRecDepth 30000 in
theorem mf_143 : im_mf ym_143 1 fm_143 := ⟨by decide +kernel, im_gm (List.mem_of_getElem? (i := 407) rfl) rfl, im_gm (List.mem_of_getElem? (i := 50) (by decide +kernel)) (by decide +kernel), ⟨by decide +kernel, by decide +kernel⟩, rfl, Nat.le_of_ble_eq_true rfl, Nat.le_of_ble_eq_true rfl, fun h => nomatch h⟩
theorem mp_143 : (parseMethodDescriptor ym_143.desc).map (fun d => d.parameters.length) = some 1 := by decide +kernel
theorem mi_143 : Cond.static ym_143 ∈ im_g := im_gm (List.mem_of_getElem? (i := 406) (by decide +kernel)) (by decide +kernel)
def ym_144 : MethodName := ⟨"FencedModules$Words", "aOf", "(I)I"⟩
def fm_144 : im_F := (11, false, false, some .int, cm_144, 1)
set_option maxRecDepth 30000 in
theorem mf_144 : im_mf ym_144 1 fm_144 := ⟨by decide +kernel, im_gm (List.mem_of_getElem? (i := 413) rfl) rfl, im_gm (List.mem_of_getElem? (i := 50) (by decide +kernel)) (by decide +kernel), ⟨by decide +kernel, by decide +kernel⟩, rfl, Nat.le_of_ble_eq_true rfl, Nat.le_of_ble_eq_true rfl, fun h => nomatch h⟩
theorem mp_144 : (parseMethodDescriptor ym_144.desc).map (fun d => d.parameters.length) = some 1 := by decide +kernel
theorem mi_144 : Cond.static ym_144 ∈ im_g := im_gm (List.mem_of_getElem? (i := 412) (by decide +kernel)) (by decide +kernel)
def ym_145 : MethodName := ⟨"FencedModules$Words", "bOf", "(I)I"⟩
def fm_145 : im_F := (11, false, false, some .int, cm_145, 1)
set_option maxRecDepth 30000 in
theorem mf_145 : im_mf ym_145 1 fm_145 := ⟨by decide +kernel, im_gm (List.mem_of_getElem? (i := 410) rfl) rfl, im_gm (List.mem_of_getElem? (i := 50) (by decide +kernel)) (by decide +kernel), ⟨by decide +kernel, by decide +kernel⟩, rfl, Nat.le_of_ble_eq_true rfl, Nat.le_of_ble_eq_true rfl, fun h => nomatch h⟩
theorem mp_145 : (parseMethodDescriptor ym_145.desc).map (fun d => d.parameters.length) = some 1 := by decide +kernel
theorem mi_145 : Cond.static ym_145 ∈ im_g := im_gm (List.mem_of_getElem? (i := 409) (by decide +kernel)) (by decide +kernel)
def ym_146 : MethodName := ⟨"FencedModules$Words", "iOf", "(I)I"⟩
def fm_146 : im_F := (11, false, false, some .int, cm_146, 1)
set_option maxRecDepth 30000 in
theorem mf_146 : im_mf ym_146 1 fm_146 := ⟨by decide +kernel, im_gm (List.mem_of_getElem? (i := 404) rfl) rfl, im_gm (List.mem_of_getElem? (i := 50) (by decide +kernel)) (by decide +kernel), ⟨by decide +kernel, by decide +kernel⟩, rfl, Nat.le_of_ble_eq_true rfl, Nat.le_of_ble_eq_true rfl, fun h => nomatch h⟩
theorem mp_146 : (parseMethodDescriptor ym_146.desc).map (fun d => d.parameters.length) = some 1 := by decide +kernel
theorem mi_146 : Cond.static ym_146 ∈ im_g := im_gm (List.mem_of_getElem? (i := 403) (by decide +kernel)) (by decide +kernel)
def ym_147 : MethodName := ⟨"FencedModules$Words", "join", "(IIII)I"⟩
def fm_147 : im_F := (11, false, false, some .int, cm_147, 4)
set_option maxRecDepth 30000 in
theorem mf_147 : im_mf ym_147 4 fm_147 := ⟨by decide +kernel, im_gm (List.mem_of_getElem? (i := 344) rfl) rfl, im_gm (List.mem_of_getElem? (i := 50) (by decide +kernel)) (by decide +kernel), ⟨by decide +kernel, by decide +kernel⟩, rfl, Nat.le_of_ble_eq_true rfl, Nat.le_of_ble_eq_true rfl, fun h => nomatch h⟩
theorem mp_147 : (parseMethodDescriptor ym_147.desc).map (fun d => d.parameters.length) = some 4 := by decide +kernel
theorem mi_147 : Cond.static ym_147 ∈ im_g := im_gm (List.mem_of_getElem? (i := 343) (by decide +kernel)) (by decide +kernel)
def ym_148 : MethodName := ⟨"FencedModules$Words", "result", "(IIII)I"⟩
def fm_148 : im_F := (11, false, false, some .int, cm_148, 4)
set_option maxRecDepth 30000 in
theorem mf_148 : im_mf ym_148 4 fm_148 := ⟨by decide +kernel, im_gm (List.mem_of_getElem? (i := 554) rfl) rfl, im_gm (List.mem_of_getElem? (i := 50) (by decide +kernel)) (by decide +kernel), ⟨by decide +kernel, by decide +kernel⟩, rfl, Nat.le_of_ble_eq_true rfl, Nat.le_of_ble_eq_true rfl, fun h => nomatch h⟩
theorem mp_148 : (parseMethodDescriptor ym_148.desc).map (fun d => d.parameters.length) = some 4 := by decide +kernel
theorem mi_148 : Cond.static ym_148 ∈ im_g := im_gm (List.mem_of_getElem? (i := 553) (by decide +kernel)) (by decide +kernel)
def ym_149 : MethodName := ⟨"FencedModules$Words", "branches", "(III)Z"⟩
def fm_149 : im_F := (11, false, false, some .boolean, cm_149, 3)
set_option maxRecDepth 30000 in
theorem mf_149 : im_mf ym_149 3 fm_149 := ⟨by decide +kernel, im_gm (List.mem_of_getElem? (i := 501) rfl) rfl, im_gm (List.mem_of_getElem? (i := 50) (by decide +kernel)) (by decide +kernel), ⟨by decide +kernel, by decide +kernel⟩, rfl, Nat.le_of_ble_eq_true rfl, Nat.le_of_ble_eq_true rfl, fun h => nomatch h⟩
theorem mp_149 : (parseMethodDescriptor ym_149.desc).map (fun d => d.parameters.length) = some 3 := by decide +kernel
theorem mi_149 : Cond.static ym_149 ∈ im_g := im_gm (List.mem_of_getElem? (i := 500) (by decide +kernel)) (by decide +kernel)
def ym_150 : MethodName := ⟨"java/util/Arrays", "fill", "([II)V"⟩
def fm_150 : im_F := (12, false, false, none, cm_150, 4)
set_option maxRecDepth 30000 in
theorem mf_150 : im_mf ym_150 2 fm_150 := ⟨by decide +kernel, im_gm (List.mem_of_getElem? (i := 68) rfl) rfl, im_gm (List.mem_of_getElem? (i := 41) (by decide +kernel)) (by decide +kernel), ⟨by decide +kernel, by decide +kernel⟩, rfl, Nat.le_of_ble_eq_true rfl, Nat.le_of_ble_eq_true rfl, fun h => nomatch h⟩
theorem mp_150 : (parseMethodDescriptor ym_150.desc).map (fun d => d.parameters.length) = some 2 := by decide +kernel
theorem mi_150 : Cond.static ym_150 ∈ im_g := im_gm (List.mem_of_getElem? (i := 67) (by decide +kernel)) (by decide +kernel)
theorem mo_i : Cond.instanceMethod objectInit ∈ im_g := im_gm (List.mem_of_getElem? (i := 58) (by decide +kernel)) (by decide +kernel)
set_option maxRecDepth 30000 in
theorem mo_c : Cond.code objectInit ⟨#[0xb1]⟩ 1 none ∈ im_g := im_gm (List.mem_of_getElem? (i := 59) rfl) rfl
theorem ma_I : Cond.arrayClass .int ∈ im_g := im_gm (List.mem_of_getElem? (i := 88) (by decide +kernel)) (by decide +kernel)
theorem ma_Z : Cond.arrayClass .boolean ∈ im_g := im_gm (List.mem_of_getElem? (i := 764) (by decide +kernel)) (by decide +kernel)
theorem ml_0_1 : Cond.methodLink (nm_R 0) 1 objectInit ∈ im_g := im_gm (List.mem_of_getElem? (i := 126) (by decide +kernel)) (by decide +kernel)
theorem ml_1_1 : Cond.methodLink (nm_R 1) 1 objectInit ∈ im_g := im_gm (List.mem_of_getElem? (i := 94) (by decide +kernel)) (by decide +kernel)
theorem ml_2_1 : Cond.methodLink (nm_R 2) 1 objectInit ∈ im_g := im_gm (List.mem_of_getElem? (i := 120) (by decide +kernel)) (by decide +kernel)
theorem ml_2_9 : Cond.methodLink (nm_R 2) 9 ym_0 ∈ im_g ∨ ∃ host, (nm_R 2, 9, ym_0, host) ∈ im_nest := Or.inr ⟨"FencedModules", by decide +kernel⟩
theorem ml_2_18 : Cond.methodLink (nm_R 2) 18 ym_1 ∈ im_g := im_gm (List.mem_of_getElem? (i := 455) (by decide +kernel)) (by decide +kernel)
theorem ml_2_28 : Cond.methodLink (nm_R 2) 28 ym_11 ∈ im_g := im_gm (List.mem_of_getElem? (i := 510) (by decide +kernel)) (by decide +kernel)
theorem ml_2_32 : Cond.methodLink (nm_R 2) 32 ym_2 ∈ im_g := im_gm (List.mem_of_getElem? (i := 513) (by decide +kernel)) (by decide +kernel)
theorem ml_3_7 : Cond.methodLink (nm_R 3) 7 objectInit ∈ im_g := im_gm (List.mem_of_getElem? (i := 214) (by decide +kernel)) (by decide +kernel)
theorem ml_3_15 : Cond.methodLink (nm_R 3) 15 ym_9 ∈ im_g ∨ ∃ host, (nm_R 3, 15, ym_9, host) ∈ im_nest := Or.inr ⟨"FencedModules", by decide +kernel⟩
theorem ml_3_27 : Cond.methodLink (nm_R 3) 27 ym_13 ∈ im_g := im_gm (List.mem_of_getElem? (i := 600) (by decide +kernel)) (by decide +kernel)
theorem ml_3_30 : Cond.methodLink (nm_R 3) 30 ym_150 ∈ im_g := im_gm (List.mem_of_getElem? (i := 601) (by decide +kernel)) (by decide +kernel)
theorem ml_3_40 : Cond.methodLink (nm_R 3) 40 ym_19 ∈ im_g := im_gm (List.mem_of_getElem? (i := 602) (by decide +kernel)) (by decide +kernel)
theorem ml_3_44 : Cond.methodLink (nm_R 3) 44 ym_25 ∈ im_g := im_gm (List.mem_of_getElem? (i := 631) (by decide +kernel)) (by decide +kernel)
theorem ml_3_48 : Cond.methodLink (nm_R 3) 48 ym_61 ∈ im_g := im_gm (List.mem_of_getElem? (i := 606) (by decide +kernel)) (by decide +kernel)
theorem ml_3_52 : Cond.methodLink (nm_R 3) 52 ym_62 ∈ im_g := im_gm (List.mem_of_getElem? (i := 607) (by decide +kernel)) (by decide +kernel)
theorem ml_3_55 : Cond.methodLink (nm_R 3) 55 ym_63 ∈ im_g := im_gm (List.mem_of_getElem? (i := 608) (by decide +kernel)) (by decide +kernel)
theorem ml_3_58 : Cond.methodLink (nm_R 3) 58 ym_64 ∈ im_g := im_gm (List.mem_of_getElem? (i := 609) (by decide +kernel)) (by decide +kernel)
theorem ml_3_61 : Cond.methodLink (nm_R 3) 61 ym_20 ∈ im_g := im_gm (List.mem_of_getElem? (i := 610) (by decide +kernel)) (by decide +kernel)
theorem ml_3_67 : Cond.methodLink (nm_R 3) 67 ym_23 ∈ im_g := im_gm (List.mem_of_getElem? (i := 614) (by decide +kernel)) (by decide +kernel)
theorem ml_3_71 : Cond.methodLink (nm_R 3) 71 ym_24 ∈ im_g := im_gm (List.mem_of_getElem? (i := 628) (by decide +kernel)) (by decide +kernel)
theorem ml_3_74 : Cond.methodLink (nm_R 3) 74 ym_21 ∈ im_g := im_gm (List.mem_of_getElem? (i := 618) (by decide +kernel)) (by decide +kernel)
theorem ml_3_77 : Cond.methodLink (nm_R 3) 77 ym_11 ∈ im_g := im_gm (List.mem_of_getElem? (i := 622) (by decide +kernel)) (by decide +kernel)
theorem ml_3_80 : Cond.methodLink (nm_R 3) 80 ym_22 ∈ im_g := im_gm (List.mem_of_getElem? (i := 623) (by decide +kernel)) (by decide +kernel)
theorem ml_3_84 : Cond.methodLink (nm_R 3) 84 ym_12 ∈ im_g := im_gm (List.mem_of_getElem? (i := 627) (by decide +kernel)) (by decide +kernel)
theorem ml_3_87 : Cond.methodLink (nm_R 3) 87 ym_26 ∈ im_g := im_gm (List.mem_of_getElem? (i := 635) (by decide +kernel)) (by decide +kernel)
theorem ml_3_91 : Cond.methodLink (nm_R 3) 91 ym_149 ∈ im_g := im_gm (List.mem_of_getElem? (i := 639) (by decide +kernel)) (by decide +kernel)
theorem ml_3_95 : Cond.methodLink (nm_R 3) 95 ym_66 ∈ im_g := im_gm (List.mem_of_getElem? (i := 640) (by decide +kernel)) (by decide +kernel)
theorem ml_3_98 : Cond.methodLink (nm_R 3) 98 ym_29 ∈ im_g := im_gm (List.mem_of_getElem? (i := 641) (by decide +kernel)) (by decide +kernel)
theorem ml_3_102 : Cond.methodLink (nm_R 3) 102 ym_28 ∈ im_g := im_gm (List.mem_of_getElem? (i := 652) (by decide +kernel)) (by decide +kernel)
theorem ml_3_106 : Cond.methodLink (nm_R 3) 106 ym_148 ∈ im_g := im_gm (List.mem_of_getElem? (i := 656) (by decide +kernel)) (by decide +kernel)
theorem ml_3_110 : Cond.methodLink (nm_R 3) 110 ym_27 ∈ im_g := im_gm (List.mem_of_getElem? (i := 646) (by decide +kernel)) (by decide +kernel)
theorem ml_3_113 : Cond.methodLink (nm_R 3) 113 ym_14 ∈ im_g := im_gm (List.mem_of_getElem? (i := 645) (by decide +kernel)) (by decide +kernel)
theorem ml_3_117 : Cond.methodLink (nm_R 3) 117 ym_16 ∈ im_g := im_gm (List.mem_of_getElem? (i := 650) (by decide +kernel)) (by decide +kernel)
theorem ml_3_121 : Cond.methodLink (nm_R 3) 121 ym_15 ∈ im_g := im_gm (List.mem_of_getElem? (i := 651) (by decide +kernel)) (by decide +kernel)
theorem ml_4_1 : Cond.methodLink (nm_R 4) 1 objectInit ∈ im_g := im_gm (List.mem_of_getElem? (i := 107) (by decide +kernel)) (by decide +kernel)
theorem ml_4_19 : Cond.methodLink (nm_R 4) 19 ym_44 ∈ im_g ∨ ∃ host, (nm_R 4, 19, ym_44, host) ∈ im_nest := Or.inl (im_gm (List.mem_of_getElem? (i := 111) (by decide +kernel)) (by decide +kernel))
theorem ml_4_22 : Cond.methodLink (nm_R 4) 22 ym_45 ∈ im_g := im_gm (List.mem_of_getElem? (i := 436) (by decide +kernel)) (by decide +kernel)
theorem ml_4_26 : Cond.methodLink (nm_R 4) 26 ym_31 ∈ im_g := im_gm (List.mem_of_getElem? (i := 432) (by decide +kernel)) (by decide +kernel)
theorem ml_4_30 : Cond.methodLink (nm_R 4) 30 ym_47 ∈ im_g := im_gm (List.mem_of_getElem? (i := 437) (by decide +kernel)) (by decide +kernel)
theorem ml_4_34 : Cond.methodLink (nm_R 4) 34 ym_8 ∈ im_g := im_gm (List.mem_of_getElem? (i := 438) (by decide +kernel)) (by decide +kernel)
theorem ml_4_39 : Cond.methodLink (nm_R 4) 39 ym_33 ∈ im_g := im_gm (List.mem_of_getElem? (i := 439) (by decide +kernel)) (by decide +kernel)
theorem ml_4_43 : Cond.methodLink (nm_R 4) 43 ym_46 ∈ im_g := im_gm (List.mem_of_getElem? (i := 443) (by decide +kernel)) (by decide +kernel)
theorem ml_4_46 : Cond.methodLink (nm_R 4) 46 ym_48 ∈ im_g := im_gm (List.mem_of_getElem? (i := 444) (by decide +kernel)) (by decide +kernel)
theorem ml_4_56 : Cond.methodLink (nm_R 4) 56 ym_36 ∈ im_g := im_gm (List.mem_of_getElem? (i := 476) (by decide +kernel)) (by decide +kernel)
theorem ml_4_60 : Cond.methodLink (nm_R 4) 60 ym_40 ∈ im_g := im_gm (List.mem_of_getElem? (i := 487) (by decide +kernel)) (by decide +kernel)
theorem ml_4_64 : Cond.methodLink (nm_R 4) 64 ym_37 ∈ im_g := im_gm (List.mem_of_getElem? (i := 555) (by decide +kernel)) (by decide +kernel)
theorem ml_4_70 : Cond.methodLink (nm_R 4) 70 ym_38 ∈ im_g := im_gm (List.mem_of_getElem? (i := 480) (by decide +kernel)) (by decide +kernel)
theorem ml_4_73 : Cond.methodLink (nm_R 4) 73 ym_39 ∈ im_g := im_gm (List.mem_of_getElem? (i := 484) (by decide +kernel)) (by decide +kernel)
theorem ml_4_79 : Cond.methodLink (nm_R 4) 79 ym_32 ∈ im_g := im_gm (List.mem_of_getElem? (i := 491) (by decide +kernel)) (by decide +kernel)
theorem ml_4_82 : Cond.methodLink (nm_R 4) 82 ym_143 ∈ im_g := im_gm (List.mem_of_getElem? (i := 495) (by decide +kernel)) (by decide +kernel)
theorem ml_4_87 : Cond.methodLink (nm_R 4) 87 ym_144 ∈ im_g := im_gm (List.mem_of_getElem? (i := 496) (by decide +kernel)) (by decide +kernel)
theorem ml_4_90 : Cond.methodLink (nm_R 4) 90 ym_145 ∈ im_g := im_gm (List.mem_of_getElem? (i := 497) (by decide +kernel)) (by decide +kernel)
theorem ml_4_93 : Cond.methodLink (nm_R 4) 93 ym_146 ∈ im_g := im_gm (List.mem_of_getElem? (i := 498) (by decide +kernel)) (by decide +kernel)
theorem ml_4_99 : Cond.methodLink (nm_R 4) 99 ym_149 ∈ im_g := im_gm (List.mem_of_getElem? (i := 499) (by decide +kernel)) (by decide +kernel)
theorem ml_4_103 : Cond.methodLink (nm_R 4) 103 ym_41 ∈ im_g := im_gm (List.mem_of_getElem? (i := 502) (by decide +kernel)) (by decide +kernel)
theorem ml_4_107 : Cond.methodLink (nm_R 4) 107 ym_49 ∈ im_g := im_gm (List.mem_of_getElem? (i := 517) (by decide +kernel)) (by decide +kernel)
theorem ml_4_110 : Cond.methodLink (nm_R 4) 110 ym_148 ∈ im_g := im_gm (List.mem_of_getElem? (i := 552) (by decide +kernel)) (by decide +kernel)
theorem ml_4_118 : Cond.methodLink (nm_R 4) 118 ym_14 ∈ im_g := im_gm (List.mem_of_getElem? (i := 506) (by decide +kernel)) (by decide +kernel)
theorem ml_4_124 : Cond.methodLink (nm_R 4) 124 ym_53 ∈ im_g := im_gm (List.mem_of_getElem? (i := 521) (by decide +kernel)) (by decide +kernel)
theorem ml_4_127 : Cond.methodLink (nm_R 4) 127 ym_16 ∈ im_g := im_gm (List.mem_of_getElem? (i := 525) (by decide +kernel)) (by decide +kernel)
theorem ml_4_131 : Cond.methodLink (nm_R 4) 131 ym_15 ∈ im_g := im_gm (List.mem_of_getElem? (i := 529) (by decide +kernel)) (by decide +kernel)
theorem ml_4_134 : Cond.methodLink (nm_R 4) 134 ym_42 ∈ im_g := im_gm (List.mem_of_getElem? (i := 533) (by decide +kernel)) (by decide +kernel)
theorem ml_4_138 : Cond.methodLink (nm_R 4) 138 ym_43 ∈ im_g := im_gm (List.mem_of_getElem? (i := 540) (by decide +kernel)) (by decide +kernel)
theorem ml_4_142 : Cond.methodLink (nm_R 4) 142 ym_52 ∈ im_g := im_gm (List.mem_of_getElem? (i := 548) (by decide +kernel)) (by decide +kernel)
theorem ml_4_146 : Cond.methodLink (nm_R 4) 146 ym_12 ∈ im_g := im_gm (List.mem_of_getElem? (i := 537) (by decide +kernel)) (by decide +kernel)
theorem ml_4_153 : Cond.methodLink (nm_R 4) 153 ym_51 ∈ im_g := im_gm (List.mem_of_getElem? (i := 544) (by decide +kernel)) (by decide +kernel)
theorem ml_5_1 : Cond.methodLink (nm_R 5) 1 objectInit ∈ im_g := im_gm (List.mem_of_getElem? (i := 114) (by decide +kernel)) (by decide +kernel)
theorem ml_5_18 : Cond.methodLink (nm_R 5) 18 ym_9 ∈ im_g ∨ ∃ host, (nm_R 5, 18, ym_9, host) ∈ im_nest := Or.inr ⟨"FencedModules", by decide +kernel⟩
theorem ml_5_33 : Cond.methodLink (nm_R 5) 33 ym_150 ∈ im_g := im_gm (List.mem_of_getElem? (i := 448) (by decide +kernel)) (by decide +kernel)
theorem ml_5_39 : Cond.methodLink (nm_R 5) 39 ym_46 ∈ im_g := im_gm (List.mem_of_getElem? (i := 449) (by decide +kernel)) (by decide +kernel)
theorem ml_5_43 : Cond.methodLink (nm_R 5) 43 ym_47 ∈ im_g := im_gm (List.mem_of_getElem? (i := 450) (by decide +kernel)) (by decide +kernel)
theorem ml_5_61 : Cond.methodLink (nm_R 5) 61 ym_13 ∈ im_g := im_gm (List.mem_of_getElem? (i := 451) (by decide +kernel)) (by decide +kernel)
theorem ml_6_1 : Cond.methodLink (nm_R 6) 1 objectInit ∈ im_g := im_gm (List.mem_of_getElem? (i := 65) (by decide +kernel)) (by decide +kernel)
theorem ml_6_25 : Cond.methodLink (nm_R 6) 25 ym_150 ∈ im_g := im_gm (List.mem_of_getElem? (i := 66) (by decide +kernel)) (by decide +kernel)
theorem ml_6_39 : Cond.methodLink (nm_R 6) 39 ym_60 ∈ im_g := im_gm (List.mem_of_getElem? (i := 293) (by decide +kernel)) (by decide +kernel)
theorem ml_6_43 : Cond.methodLink (nm_R 6) 43 ym_65 ∈ im_g := im_gm (List.mem_of_getElem? (i := 313) (by decide +kernel)) (by decide +kernel)
theorem ml_6_46 : Cond.methodLink (nm_R 6) 46 ym_70 ∈ im_g := im_gm (List.mem_of_getElem? (i := 285) (by decide +kernel)) (by decide +kernel)
theorem ml_6_49 : Cond.methodLink (nm_R 6) 49 ym_71 ∈ im_g := im_gm (List.mem_of_getElem? (i := 305) (by decide +kernel)) (by decide +kernel)
theorem ml_6_52 : Cond.methodLink (nm_R 6) 52 ym_68 ∈ im_g := im_gm (List.mem_of_getElem? (i := 320) (by decide +kernel)) (by decide +kernel)
theorem ml_6_58 : Cond.methodLink (nm_R 6) 58 ym_69 ∈ im_g := im_gm (List.mem_of_getElem? (i := 324) (by decide +kernel)) (by decide +kernel)
theorem ml_6_61 : Cond.methodLink (nm_R 6) 61 ym_61 ∈ im_g := im_gm (List.mem_of_getElem? (i := 289) (by decide +kernel)) (by decide +kernel)
theorem ml_6_64 : Cond.methodLink (nm_R 6) 64 ym_62 ∈ im_g := im_gm (List.mem_of_getElem? (i := 297) (by decide +kernel)) (by decide +kernel)
theorem ml_6_67 : Cond.methodLink (nm_R 6) 67 ym_63 ∈ im_g := im_gm (List.mem_of_getElem? (i := 301) (by decide +kernel)) (by decide +kernel)
theorem ml_6_70 : Cond.methodLink (nm_R 6) 70 ym_64 ∈ im_g := im_gm (List.mem_of_getElem? (i := 309) (by decide +kernel)) (by decide +kernel)
theorem ml_6_73 : Cond.methodLink (nm_R 6) 73 ym_10 ∈ im_g := im_gm (List.mem_of_getElem? (i := 317) (by decide +kernel)) (by decide +kernel)
theorem ml_7_1 : Cond.methodLink (nm_R 7) 1 objectInit ∈ im_g := im_gm (List.mem_of_getElem? (i := 57) (by decide +kernel)) (by decide +kernel)
theorem ml_7_9 : Cond.methodLink (nm_R 7) 9 ym_55 ∈ im_g ∨ ∃ host, (nm_R 7, 9, ym_55, host) ∈ im_nest := Or.inl (im_gm (List.mem_of_getElem? (i := 62) (by decide +kernel)) (by decide +kernel))
theorem ml_7_18 : Cond.methodLink (nm_R 7) 18 ym_4 ∈ im_g ∨ ∃ host, (nm_R 7, 18, ym_4, host) ∈ im_nest := Or.inr ⟨"FencedModules", by decide +kernel⟩
theorem ml_7_25 : Cond.methodLink (nm_R 7) 25 ym_30 ∈ im_g ∨ ∃ host, (nm_R 7, 25, ym_30, host) ∈ im_nest := Or.inl (im_gm (List.mem_of_getElem? (i := 104) (by decide +kernel)) (by decide +kernel))
theorem ml_7_32 : Cond.methodLink (nm_R 7) 32 ym_17 ∈ im_g ∨ ∃ host, (nm_R 7, 32, ym_17, host) ∈ im_nest := Or.inr ⟨"FencedModules", by decide +kernel⟩
theorem ml_7_37 : Cond.methodLink (nm_R 7) 37 ym_57 ∈ im_g := im_gm (List.mem_of_getElem? (i := 248) (by decide +kernel)) (by decide +kernel)
theorem ml_7_41 : Cond.methodLink (nm_R 7) 41 ym_58 ∈ im_g := im_gm (List.mem_of_getElem? (i := 258) (by decide +kernel)) (by decide +kernel)
theorem ml_7_45 : Cond.methodLink (nm_R 7) 45 ym_56 ∈ im_g := im_gm (List.mem_of_getElem? (i := 266) (by decide +kernel)) (by decide +kernel)
theorem ml_7_48 : Cond.methodLink (nm_R 7) 48 ym_5 ∈ im_g := im_gm (List.mem_of_getElem? (i := 270) (by decide +kernel)) (by decide +kernel)
theorem ml_7_49 : Cond.methodLink (nm_R 7) 49 ym_45 ∈ im_g := im_gm (List.mem_of_getElem? (i := 278) (by decide +kernel)) (by decide +kernel)
theorem ml_7_54 : Cond.methodLink (nm_R 7) 54 ym_67 ∈ im_g := im_gm (List.mem_of_getElem? (i := 281) (by decide +kernel)) (by decide +kernel)
theorem ml_7_58 : Cond.methodLink (nm_R 7) 58 ym_133 ∈ im_g := im_gm (List.mem_of_getElem? (i := 327) (by decide +kernel)) (by decide +kernel)
theorem ml_7_64 : Cond.methodLink (nm_R 7) 64 ym_7 ∈ im_g := im_gm (List.mem_of_getElem? (i := 376) (by decide +kernel)) (by decide +kernel)
theorem ml_7_68 : Cond.methodLink (nm_R 7) 68 ym_6 ∈ im_g := im_gm (List.mem_of_getElem? (i := 381) (by decide +kernel)) (by decide +kernel)
theorem ml_7_71 : Cond.methodLink (nm_R 7) 71 ym_8 ∈ im_g := im_gm (List.mem_of_getElem? (i := 386) (by decide +kernel)) (by decide +kernel)
theorem ml_7_75 : Cond.methodLink (nm_R 7) 75 ym_139 ∈ im_g := im_gm (List.mem_of_getElem? (i := 394) (by decide +kernel)) (by decide +kernel)
theorem ml_7_81 : Cond.methodLink (nm_R 7) 81 ym_34 ∈ im_g := im_gm (List.mem_of_getElem? (i := 428) (by decide +kernel)) (by decide +kernel)
theorem ml_7_85 : Cond.methodLink (nm_R 7) 85 ym_31 ∈ im_g := im_gm (List.mem_of_getElem? (i := 463) (by decide +kernel)) (by decide +kernel)
theorem ml_7_93 : Cond.methodLink (nm_R 7) 93 ym_50 ∈ im_g := im_gm (List.mem_of_getElem? (i := 464) (by decide +kernel)) (by decide +kernel)
theorem ml_7_96 : Cond.methodLink (nm_R 7) 96 ym_35 ∈ im_g := im_gm (List.mem_of_getElem? (i := 472) (by decide +kernel)) (by decide +kernel)
theorem ml_7_106 : Cond.methodLink (nm_R 7) 106 ym_32 ∈ im_g := im_gm (List.mem_of_getElem? (i := 575) (by decide +kernel)) (by decide +kernel)
theorem ml_7_109 : Cond.methodLink (nm_R 7) 109 ym_54 ∈ im_g := im_gm (List.mem_of_getElem? (i := 580) (by decide +kernel)) (by decide +kernel)
theorem ml_7_122 : Cond.methodLink (nm_R 7) 122 ym_3 ∈ im_g := im_gm (List.mem_of_getElem? (i := 588) (by decide +kernel)) (by decide +kernel)
theorem ml_7_128 : Cond.methodLink (nm_R 7) 128 ym_18 ∈ im_g := im_gm (List.mem_of_getElem? (i := 596) (by decide +kernel)) (by decide +kernel)
theorem ml_8_1 : Cond.methodLink (nm_R 8) 1 objectInit ∈ im_g := im_gm (List.mem_of_getElem? (i := 666) (by decide +kernel)) (by decide +kernel)
theorem ml_8_83 : Cond.methodLink (nm_R 8) 83 ym_92 ∈ im_g := im_gm (List.mem_of_getElem? (i := 769) (by decide +kernel)) (by decide +kernel)
theorem ml_8_96 : Cond.methodLink (nm_R 8) 96 ym_97 ∈ im_g := im_gm (List.mem_of_getElem? (i := 790) (by decide +kernel)) (by decide +kernel)
theorem ml_8_100 : Cond.methodLink (nm_R 8) 100 ym_96 ∈ im_g := im_gm (List.mem_of_getElem? (i := 794) (by decide +kernel)) (by decide +kernel)
theorem ml_8_104 : Cond.methodLink (nm_R 8) 104 ym_98 ∈ im_g := im_gm (List.mem_of_getElem? (i := 786) (by decide +kernel)) (by decide +kernel)
theorem ml_8_108 : Cond.methodLink (nm_R 8) 108 ym_103 ∈ im_g := im_gm (List.mem_of_getElem? (i := 798) (by decide +kernel)) (by decide +kernel)
theorem ml_8_112 : Cond.methodLink (nm_R 8) 112 ym_100 ∈ im_g := im_gm (List.mem_of_getElem? (i := 805) (by decide +kernel)) (by decide +kernel)
theorem ml_8_116 : Cond.methodLink (nm_R 8) 116 ym_99 ∈ im_g := im_gm (List.mem_of_getElem? (i := 802) (by decide +kernel)) (by decide +kernel)
theorem ml_8_120 : Cond.methodLink (nm_R 8) 120 ym_101 ∈ im_g := im_gm (List.mem_of_getElem? (i := 809) (by decide +kernel)) (by decide +kernel)
theorem ml_8_123 : Cond.methodLink (nm_R 8) 123 ym_106 ∈ im_g := im_gm (List.mem_of_getElem? (i := 833) (by decide +kernel)) (by decide +kernel)
theorem ml_8_127 : Cond.methodLink (nm_R 8) 127 ym_107 ∈ im_g := im_gm (List.mem_of_getElem? (i := 829) (by decide +kernel)) (by decide +kernel)
theorem ml_8_131 : Cond.methodLink (nm_R 8) 131 ym_108 ∈ im_g := im_gm (List.mem_of_getElem? (i := 825) (by decide +kernel)) (by decide +kernel)
theorem ml_8_135 : Cond.methodLink (nm_R 8) 135 ym_109 ∈ im_g := im_gm (List.mem_of_getElem? (i := 841) (by decide +kernel)) (by decide +kernel)
theorem ml_8_144 : Cond.methodLink (nm_R 8) 144 ym_113 ∈ im_g := im_gm (List.mem_of_getElem? (i := 858) (by decide +kernel)) (by decide +kernel)
theorem ml_8_148 : Cond.methodLink (nm_R 8) 148 ym_112 ∈ im_g := im_gm (List.mem_of_getElem? (i := 866) (by decide +kernel)) (by decide +kernel)
theorem ml_8_151 : Cond.methodLink (nm_R 8) 151 ym_115 ∈ im_g := im_gm (List.mem_of_getElem? (i := 870) (by decide +kernel)) (by decide +kernel)
theorem ml_8_154 : Cond.methodLink (nm_R 8) 154 ym_114 ∈ im_g := im_gm (List.mem_of_getElem? (i := 862) (by decide +kernel)) (by decide +kernel)
theorem ml_8_157 : Cond.methodLink (nm_R 8) 157 ym_117 ∈ im_g := im_gm (List.mem_of_getElem? (i := 873) (by decide +kernel)) (by decide +kernel)
theorem ml_8_160 : Cond.methodLink (nm_R 8) 160 ym_118 ∈ im_g := im_gm (List.mem_of_getElem? (i := 876) (by decide +kernel)) (by decide +kernel)
theorem ml_8_163 : Cond.methodLink (nm_R 8) 163 ym_119 ∈ im_g := im_gm (List.mem_of_getElem? (i := 850) (by decide +kernel)) (by decide +kernel)
theorem ml_8_166 : Cond.methodLink (nm_R 8) 166 ym_116 ∈ im_g := im_gm (List.mem_of_getElem? (i := 854) (by decide +kernel)) (by decide +kernel)
theorem ml_8_169 : Cond.methodLink (nm_R 8) 169 ym_122 ∈ im_g := im_gm (List.mem_of_getElem? (i := 883) (by decide +kernel)) (by decide +kernel)
theorem ml_8_185 : Cond.methodLink (nm_R 8) 185 ym_124 ∈ im_g := im_gm (List.mem_of_getElem? (i := 887) (by decide +kernel)) (by decide +kernel)
theorem ml_8_188 : Cond.methodLink (nm_R 8) 188 ym_125 ∈ im_g := im_gm (List.mem_of_getElem? (i := 891) (by decide +kernel)) (by decide +kernel)
theorem ml_8_192 : Cond.methodLink (nm_R 8) 192 ym_121 ∈ im_g := im_gm (List.mem_of_getElem? (i := 895) (by decide +kernel)) (by decide +kernel)
theorem ml_9_7 : Cond.methodLink (nm_R 9) 7 ym_5 ∈ im_g := im_gm (List.mem_of_getElem? (i := 330) (by decide +kernel)) (by decide +kernel)
theorem ml_9_12 : Cond.methodLink (nm_R 9) 12 ym_59 ∈ im_g := im_gm (List.mem_of_getElem? (i := 331) (by decide +kernel)) (by decide +kernel)
theorem ml_9_18 : Cond.methodLink (nm_R 9) 18 ym_134 ∈ im_g := im_gm (List.mem_of_getElem? (i := 335) (by decide +kernel)) (by decide +kernel)
theorem ml_9_26 : Cond.methodLink (nm_R 9) 26 ym_147 ∈ im_g := im_gm (List.mem_of_getElem? (i := 342) (by decide +kernel)) (by decide +kernel)
theorem ml_9_30 : Cond.methodLink (nm_R 9) 30 ym_6 ∈ im_g := im_gm (List.mem_of_getElem? (i := 345) (by decide +kernel)) (by decide +kernel)
theorem ml_9_34 : Cond.methodLink (nm_R 9) 34 ym_61 ∈ im_g := im_gm (List.mem_of_getElem? (i := 338) (by decide +kernel)) (by decide +kernel)
theorem ml_9_38 : Cond.methodLink (nm_R 9) 38 ym_62 ∈ im_g := im_gm (List.mem_of_getElem? (i := 339) (by decide +kernel)) (by decide +kernel)
theorem ml_9_41 : Cond.methodLink (nm_R 9) 41 ym_63 ∈ im_g := im_gm (List.mem_of_getElem? (i := 340) (by decide +kernel)) (by decide +kernel)
theorem ml_9_44 : Cond.methodLink (nm_R 9) 44 ym_64 ∈ im_g := im_gm (List.mem_of_getElem? (i := 341) (by decide +kernel)) (by decide +kernel)
theorem ml_9_49 : Cond.methodLink (nm_R 9) 49 ym_46 ∈ im_g := im_gm (List.mem_of_getElem? (i := 349) (by decide +kernel)) (by decide +kernel)
theorem ml_9_52 : Cond.methodLink (nm_R 9) 52 ym_135 ∈ im_g := im_gm (List.mem_of_getElem? (i := 352) (by decide +kernel)) (by decide +kernel)
theorem ml_9_56 : Cond.methodLink (nm_R 9) 56 ym_47 ∈ im_g := im_gm (List.mem_of_getElem? (i := 355) (by decide +kernel)) (by decide +kernel)
theorem ml_9_59 : Cond.methodLink (nm_R 9) 59 ym_136 ∈ im_g := im_gm (List.mem_of_getElem? (i := 358) (by decide +kernel)) (by decide +kernel)
theorem ml_9_63 : Cond.methodLink (nm_R 9) 63 ym_137 ∈ im_g := im_gm (List.mem_of_getElem? (i := 366) (by decide +kernel)) (by decide +kernel)
theorem ml_9_67 : Cond.methodLink (nm_R 9) 67 ym_138 ∈ im_g := im_gm (List.mem_of_getElem? (i := 373) (by decide +kernel)) (by decide +kernel)
theorem ml_9_70 : Cond.methodLink (nm_R 9) 70 ym_66 ∈ im_g := im_gm (List.mem_of_getElem? (i := 361) (by decide +kernel)) (by decide +kernel)
theorem ml_9_73 : Cond.methodLink (nm_R 9) 73 ym_68 ∈ im_g := im_gm (List.mem_of_getElem? (i := 365) (by decide +kernel)) (by decide +kernel)
theorem ml_9_76 : Cond.methodLink (nm_R 9) 76 ym_7 ∈ im_g := im_gm (List.mem_of_getElem? (i := 369) (by decide +kernel)) (by decide +kernel)
theorem ml_10_7 : Cond.methodLink (nm_R 10) 7 ym_7 ∈ im_g := im_gm (List.mem_of_getElem? (i := 397) (by decide +kernel)) (by decide +kernel)
theorem ml_10_13 : Cond.methodLink (nm_R 10) 13 ym_140 ∈ im_g := im_gm (List.mem_of_getElem? (i := 398) (by decide +kernel)) (by decide +kernel)
theorem ml_10_19 : Cond.methodLink (nm_R 10) 19 ym_141 ∈ im_g := im_gm (List.mem_of_getElem? (i := 415) (by decide +kernel)) (by decide +kernel)
theorem ml_10_23 : Cond.methodLink (nm_R 10) 23 ym_8 ∈ im_g := im_gm (List.mem_of_getElem? (i := 401) (by decide +kernel)) (by decide +kernel)
theorem ml_10_27 : Cond.methodLink (nm_R 10) 27 ym_146 ∈ im_g := im_gm (List.mem_of_getElem? (i := 402) (by decide +kernel)) (by decide +kernel)
theorem ml_10_32 : Cond.methodLink (nm_R 10) 32 ym_143 ∈ im_g := im_gm (List.mem_of_getElem? (i := 405) (by decide +kernel)) (by decide +kernel)
theorem ml_10_35 : Cond.methodLink (nm_R 10) 35 ym_145 ∈ im_g := im_gm (List.mem_of_getElem? (i := 408) (by decide +kernel)) (by decide +kernel)
theorem ml_10_40 : Cond.methodLink (nm_R 10) 40 ym_144 ∈ im_g := im_gm (List.mem_of_getElem? (i := 411) (by decide +kernel)) (by decide +kernel)
theorem ml_10_43 : Cond.methodLink (nm_R 10) 43 ym_10 ∈ im_g := im_gm (List.mem_of_getElem? (i := 414) (by decide +kernel)) (by decide +kernel)
theorem ml_10_49 : Cond.methodLink (nm_R 10) 49 ym_46 ∈ im_g := im_gm (List.mem_of_getElem? (i := 418) (by decide +kernel)) (by decide +kernel)
theorem ml_10_52 : Cond.methodLink (nm_R 10) 52 ym_142 ∈ im_g := im_gm (List.mem_of_getElem? (i := 419) (by decide +kernel)) (by decide +kernel)
theorem ml_10_56 : Cond.methodLink (nm_R 10) 56 ym_47 ∈ im_g := im_gm (List.mem_of_getElem? (i := 423) (by decide +kernel)) (by decide +kernel)
theorem ml_10_59 : Cond.methodLink (nm_R 10) 59 ym_147 ∈ im_g := im_gm (List.mem_of_getElem? (i := 422) (by decide +kernel)) (by decide +kernel)
theorem cl_2_7 : Cond.classLink (nm_R 2) 7 (nm_R 0) ∈ im_g := im_gm (List.mem_of_getElem? (i := 121) (by decide +kernel)) (by decide +kernel)
theorem cl_3_13 : Cond.classLink (nm_R 3) 13 (nm_R 2) ∈ im_g := im_gm (List.mem_of_getElem? (i := 215) (by decide +kernel)) (by decide +kernel)
theorem cl_4_13 : Cond.classLink (nm_R 4) 13 (nm_R 5) ∈ im_g := im_gm (List.mem_of_getElem? (i := 108) (by decide +kernel)) (by decide +kernel)
theorem cl_5_16 : Cond.classLink (nm_R 5) 16 (nm_R 2) ∈ im_g := im_gm (List.mem_of_getElem? (i := 115) (by decide +kernel)) (by decide +kernel)
theorem cl_7_7 : Cond.classLink (nm_R 7) 7 (nm_R 6) ∈ im_g := im_gm (List.mem_of_getElem? (i := 60) (by decide +kernel)) (by decide +kernel)
theorem cl_7_16 : Cond.classLink (nm_R 7) 16 (nm_R 1) ∈ im_g := im_gm (List.mem_of_getElem? (i := 89) (by decide +kernel)) (by decide +kernel)
theorem cl_7_23 : Cond.classLink (nm_R 7) 23 (nm_R 4) ∈ im_g := im_gm (List.mem_of_getElem? (i := 102) (by decide +kernel)) (by decide +kernel)
theorem cl_7_30 : Cond.classLink (nm_R 7) 30 (nm_R 3) ∈ im_g := im_gm (List.mem_of_getElem? (i := 209) (by decide +kernel)) (by decide +kernel)
theorem cn_0 : Cond.instantiable (nm_R 0) 4 ∈ im_g := im_gm (List.mem_of_getElem? (i := 122) (by decide +kernel)) (by decide +kernel)
theorem ci_0 : Cond.initialized (nm_R 0) ∈ im_g := im_gm (List.mem_of_getElem? (i := 46) (by decide +kernel)) (by decide +kernel)
theorem ct_0 : ∀ j, j < 4 → im_i 0 j = true ∨ im_r 0 j = true := by decide +kernel
theorem cn_1 : Cond.instantiable (nm_R 1) 2 ∈ im_g := im_gm (List.mem_of_getElem? (i := 90) (by decide +kernel)) (by decide +kernel)
theorem ci_1 : Cond.initialized (nm_R 1) ∈ im_g := im_gm (List.mem_of_getElem? (i := 42) (by decide +kernel)) (by decide +kernel)
theorem ct_1 : ∀ j, j < 2 → im_i 1 j = true ∨ im_r 1 j = true := by decide +kernel
theorem cn_2 : Cond.instantiable (nm_R 2) 3 ∈ im_g := im_gm (List.mem_of_getElem? (i := 116) (by decide +kernel)) (by decide +kernel)
theorem ci_2 : Cond.initialized (nm_R 2) ∈ im_g := im_gm (List.mem_of_getElem? (i := 45) (by decide +kernel)) (by decide +kernel)
theorem ct_2 : ∀ j, j < 3 → im_i 2 j = true ∨ im_r 2 j = true := by decide +kernel
theorem cn_3 : Cond.instantiable (nm_R 3) 4 ∈ im_g := im_gm (List.mem_of_getElem? (i := 210) (by decide +kernel)) (by decide +kernel)
theorem ci_3 : Cond.initialized (nm_R 3) ∈ im_g := im_gm (List.mem_of_getElem? (i := 47) (by decide +kernel)) (by decide +kernel)
theorem ct_3 : ∀ j, j < 4 → im_i 3 j = true ∨ im_r 3 j = true := by decide +kernel
theorem cn_4 : Cond.instantiable (nm_R 4) 4 ∈ im_g := im_gm (List.mem_of_getElem? (i := 103) (by decide +kernel)) (by decide +kernel)
theorem ci_4 : Cond.initialized (nm_R 4) ∈ im_g := im_gm (List.mem_of_getElem? (i := 43) (by decide +kernel)) (by decide +kernel)
theorem ct_4 : ∀ j, j < 4 → im_i 4 j = true ∨ im_r 4 j = true := by decide +kernel
theorem cn_5 : Cond.instantiable (nm_R 5) 11 ∈ im_g := im_gm (List.mem_of_getElem? (i := 110) (by decide +kernel)) (by decide +kernel)
theorem ci_5 : Cond.initialized (nm_R 5) ∈ im_g := im_gm (List.mem_of_getElem? (i := 44) (by decide +kernel)) (by decide +kernel)
theorem ct_5 : ∀ j, j < 11 → im_i 5 j = true ∨ im_r 5 j = true := by decide +kernel
theorem cn_6 : Cond.instantiable (nm_R 6) 6 ∈ im_g := im_gm (List.mem_of_getElem? (i := 61) (by decide +kernel)) (by decide +kernel)
theorem ci_6 : Cond.initialized (nm_R 6) ∈ im_g := im_gm (List.mem_of_getElem? (i := 40) (by decide +kernel)) (by decide +kernel)
theorem ct_6 : ∀ j, j < 6 → im_i 6 j = true ∨ im_r 6 j = true := by decide +kernel
theorem cn_7 : Cond.instantiable (nm_R 7) 4 ∈ im_g := im_gm (List.mem_of_getElem? (i := 53) (by decide +kernel)) (by decide +kernel)
theorem ci_7 : Cond.initialized (nm_R 7) ∈ im_g := im_gm (List.mem_of_getElem? (i := 39) (by decide +kernel)) (by decide +kernel)
theorem ct_7 : ∀ j, j < 4 → im_i 7 j = true ∨ im_r 7 j = true := by decide +kernel
theorem cn_8 : Cond.instantiable (nm_R 8) 32 ∈ im_g := im_gm (List.mem_of_getElem? (i := 662) (by decide +kernel)) (by decide +kernel)
theorem ci_8 : Cond.initialized (nm_R 8) ∈ im_g := im_gm (List.mem_of_getElem? (i := 48) (by decide +kernel)) (by decide +kernel)
theorem ct_8 : ∀ j, j < 32 → im_i 8 j = true ∨ im_r 8 j = true := by decide +kernel
theorem kc_6_37 : Cond.constant (nm_R 6) 37 (-2097152) ∈ im_g := im_gm (List.mem_of_getElem? (i := 252) (by decide +kernel)) (by decide +kernel)
theorem kc_6_38 : Cond.constant (nm_R 6) 38 (2097151) ∈ im_g := im_gm (List.mem_of_getElem? (i := 253) (by decide +kernel)) (by decide +kernel)
theorem kc_8_87 : Cond.constant (nm_R 8) 87 (-2097152) ∈ im_g := im_gm (List.mem_of_getElem? (i := 772) (by decide +kernel)) (by decide +kernel)
theorem kc_8_88 : Cond.constant (nm_R 8) 88 (2097151) ∈ im_g := im_gm (List.mem_of_getElem? (i := 773) (by decide +kernel)) (by decide +kernel)
