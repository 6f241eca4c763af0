/-! the law's loop, and its start *given* the pairs of functions -/
section LX
variable {p : Program} {l : Launch} {e : Env} {s : State} {m : MethodId} {below : List Frame} {meth : Method} {c : Code} {b L : Nat} {xs : Nat → Int32} {D : va_G} {cs : ClassId × ClassId × ClassId} {A : Nat → Prop} {ad ar : Nat → Nat} {cells slots : Nat} {Rl : Nat → (Nat → Nat → Int32) → (Nat → Nat → Int32) → Prop}
theorem lx_31 (x : Int32) (h : (x &&& 31).toInt < 0 ∨ 0 + (18 : Int) - 1 < (x &&& 31).toInt) : (x &&& 31).toInt < 0 ∨ 17 < (x &&& 31).toInt := by omega
set_option maxRecDepth 100000 in
set_option maxHeartbeats 4000000 in
theorem lx_loop (hp : lw_Pure Rl) (hC : lw_C9 p s m c b L xs D cs A cells slots) (hret : meth.sig.returnType = ret) (hlocks : meth.locks = false) (hA2 : ∀ q, A q → s.heap.size ≤ q) : ∀ (n t : Nat) (M N : Nat → Nat → Int32), L < 5 * t + 5 * n → 5 * t ≤ L → Rl t M N → lw_Lp p l e s m below meth c b D cs A ad ar cells slots t M N
  | 0, t, M, N, hn, ht, _ => absurd hn (by omega)
  | n + 1, t, M, N, hn, ht, hR => by
    intro H locs ls hP hD hS hl
    have hx := hC.1.1
    have hb := hC.1.2.1
    obtain ⟨hC1, hX, hbl, hbA, hL, hc1, hc2⟩ := hC
    have hC := (⟨hC1, hX, hbl, hbA, hL, hc1, hc2⟩ : lw_C9 p s m c b L xs D cs A cells slots)
    refine lv_iload_n hx hb dl_18 rfl (lv_at hl 3 rfl) ?_
    refine lv_aload_n hx hb dl_19 rfl (lv_at hl 0 rfl) ?_
    refine va_slen hx hb hX hbl hbA hS dl_20 ?_
    refine lv_iconst (v := nI 5) hx hb dl_21 rfl ?_
    refine lv_isub hx hb dl_22 ?_
    have hsub : (Int32.ofNat L - nI 5).toInt = (L : Int) - 5 := pk_sub_toInt (a := L) (b := 5) (by omega) (by decide)
    have hti : (nI (5 * t)).toInt = ((5 * t : Nat) : Int) := nI_toInt (by omega)
    refine lv_icmp_gt (tgt := 628) hx hb dl_23 rfl (fun _ => ?_) (fun h9 => ?_)
    · refine lv_iconst (v := 1) hx hb dl_628 rfl ?_
      refine va_forget (fun q hq => hA2 _ (hS.2.2 q hq)) ?_
      refine W.widen (k := 600000) (n := 7302250) hc1 hc2 ?_
      exact lw_ret hx hb hret hlocks dl_629
    · have hge : 5 * t + 5 ≤ L := by
        rw [Int32.lt_iff_toInt_lt, hsub, hti] at h9
        omega
      have kk : ∀ M' N', Rl (t + 1) M' N' → lw_Lp p l e s m below meth c b D cs A ad ar cells slots (t + 1) M' N' := fun M' N' hR' => lx_loop hp hC hret hlocks hA2 n (t + 1) M' N' (by omega) (by omega) hR'
      have hq := hp t M N (by omega) hR
      refine lv_aload_n hx hb dl_26 rfl (lv_at hl 0 rfl) ?_
      refine lv_iload_n hx hb dl_27 rfl (lv_at hl 3 rfl) ?_
      refine va_sld hx hb hX hbl hbA hS (vp_in_nI (by omega) (by omega)) dl_28 ?_
      refine lv_bipush (v := 31) hx hb dl_29 (by decide) ?_
      refine lv_iand hx hb dl_31 ?_
      generalize xs (nI (5 * t)).toNatClampNeg &&& 31 = x
      have hqa := hq (xs (nI (5 * t) + nI 1).toNatClampNeg) (xs (nI (5 * t) + nI 2).toNatClampNeg) (xs (nI (5 * t) + nI 3).toNatClampNeg) (xs (nI (5 * t) + nI 4).toNatClampNeg)
      clear hq
      obtain ⟨g0, g1, g2, g3, g4, g5, g6, g7, g8, g9, g10, g11, g12, g13, g14, g15, g16, g17, g99⟩ := hqa
      by_cases c0 : x = 0
      · subst c0
        refine lv_tableIn (tgt := 120) hx hb dl_32 (by decide) (by decide) rfl rfl ?_
        exact lw_c0 hC hge g0 kk hP hD hS hl
      by_cases c1 : x = 1
      · subst c1
        refine lv_tableIn (tgt := 173) hx hb dl_32 (by decide) (by decide) rfl rfl ?_
        exact lw_c1 hC hge g1 kk hP hD hS hl
      by_cases c2 : x = 2
      · subst c2
        refine lv_tableIn (tgt := 196) hx hb dl_32 (by decide) (by decide) rfl rfl ?_
        exact lw_c2 hC hge g2 kk hP hD hS hl
      by_cases c3 : x = 3
      · subst c3
        refine lv_tableIn (tgt := 207) hx hb dl_32 (by decide) (by decide) rfl rfl ?_
        exact lw_c3 hC hge g3 kk hP hD hS hl
      by_cases c4 : x = 4
      · subst c4
        refine lv_tableIn (tgt := 230) hx hb dl_32 (by decide) (by decide) rfl rfl ?_
        exact lw_c4 hC hge g4 kk hP hD hS hl
      by_cases c5 : x = 5
      · subst c5
        refine lv_tableIn (tgt := 253) hx hb dl_32 (by decide) (by decide) rfl rfl ?_
        exact lw_c5 hC hge g5 kk hP hD hS hl
      by_cases c6 : x = 6
      · subst c6
        refine lv_tableIn (tgt := 276) hx hb dl_32 (by decide) (by decide) rfl rfl ?_
        exact lw_c6 hC hge g6 kk hP hD hS hl
      by_cases c7 : x = 7
      · subst c7
        refine lv_tableIn (tgt := 299) hx hb dl_32 (by decide) (by decide) rfl rfl ?_
        exact lw_c7 hC hge g7 kk hP hD hS hl
      by_cases c8 : x = 8
      · subst c8
        refine lv_tableIn (tgt := 322) hx hb dl_32 (by decide) (by decide) rfl rfl ?_
        exact lw_c8 hC hge g8 kk hP hD hS hl
      by_cases c9 : x = 9
      · subst c9
        refine lv_tableIn (tgt := 355) hx hb dl_32 (by decide) (by decide) rfl rfl ?_
        exact lw_c9 hC hge g9 kk hP hD hS hl
      by_cases c10 : x = 10
      · subst c10
        refine lv_tableIn (tgt := 378) hx hb dl_32 (by decide) (by decide) rfl rfl ?_
        exact lw_c10 hC hge g10 kk hP hD hS hl
      by_cases c11 : x = 11
      · subst c11
        refine lv_tableIn (tgt := 401) hx hb dl_32 (by decide) (by decide) rfl rfl ?_
        exact lw_c11 hC hge g11 kk hP hD hS hl
      by_cases c12 : x = 12
      · subst c12
        refine lv_tableIn (tgt := 424) hx hb dl_32 (by decide) (by decide) rfl rfl ?_
        exact lw_c12 hC hge g12 kk hP hD hS hl
      by_cases c13 : x = 13
      · subst c13
        refine lv_tableIn (tgt := 457) hx hb dl_32 (by decide) (by decide) rfl rfl ?_
        exact lw_c13 hC hge g13 kk hP hD hS hl
      by_cases c14 : x = 14
      · subst c14
        refine lv_tableIn (tgt := 480) hx hb dl_32 (by decide) (by decide) rfl rfl ?_
        exact lw_c14 hC hge g14 kk hP hD hS hl
      by_cases c15 : x = 15
      · subst c15
        refine lv_tableIn (tgt := 513) hx hb dl_32 (by decide) (by decide) rfl rfl ?_
        exact lw_c15 hC hge g15 kk hP hD hS hl
      by_cases c16 : x = 16
      · subst c16
        refine lv_tableIn (tgt := 556) hx hb dl_32 (by decide) (by decide) rfl rfl ?_
        exact lw_c16 hC hge g16 kk hP hD hS hl
      by_cases c17 : x = 17
      · subst c17
        refine lv_tableIn (tgt := 589) hx hb dl_32 (by decide) (by decide) rfl rfl ?_
        exact lw_c17 hC hge g17 kk hP hD hS hl
      have hout : x.toInt < 0 ∨ 17 < x.toInt := by
        have := im_swout (x := x) 0 18 (by decide) (by decide) (fun i hi => match i, hi with | 0, _ => c0 | 1, _ => c1 | 2, _ => c2 | 3, _ => c3 | 4, _ => c4 | 5, _ => c5 | 6, _ => c6 | 7, _ => c7 | 8, _ => c8 | 9, _ => c9 | 10, _ => c10 | 11, _ => c11 | 12, _ => c12 | 13, _ => c13 | 14, _ => c14 | 15, _ => c15 | 16, _ => c16 | 17, _ => c17 | i + 18, hi => absurd hi (by omega))
        omega
      refine lv_tableOut (tgt := 622) hx hb dl_32 hout rfl ?_
      exact lw_next hC (kk M N g99) hP hD hS hl
/-- the start: two objects are made, then the loop -/
theorem lx_known (hts : ∀ w ∈ lw_tbl, w.before #[Value.ref b] s = true) : ∃ (D : va_G) (cs : ClassId × ClassId × ClassId), va_K D nm_cl (im_tys cs) s ∧ im_Nx s := by
  have hk : ∀ ci : Nat, ∃ q : ClassId × (Nat → Nat), ∀ r, nm_cl[ci]? = some r → u_Kn s r.1 r.2.1 r.2.2 q.1 q.2 := by
    intro ci
    by_cases h : ci < 9
    · have hc : ∃ T N, im_cf ci T N ∧ ∃ n, Cond.instantiable (nm_R ci) n ∈ im_g := by
        match ci, h with
        | 0, _ => exact ⟨_, _, fc_0, _, cn_0⟩
        | 1, _ => exact ⟨_, _, fc_1, _, cn_1⟩
        | 2, _ => exact ⟨_, _, fc_2, _, cn_2⟩
        | 3, _ => exact ⟨_, _, fc_3, _, cn_3⟩
        | 4, _ => exact ⟨_, _, fc_4, _, cn_4⟩
        | 5, _ => exact ⟨_, _, fc_5, _, cn_5⟩
        | 6, _ => exact ⟨_, _, fc_6, _, cn_6⟩
        | 7, _ => exact ⟨_, _, fc_7, _, cn_7⟩
        | 8, _ => exact ⟨_, _, fc_8, _, cn_8⟩
        | i + 9, h => exact absurd h (by omega)
      obtain ⟨T, N, hcf, n, hin⟩ := hc
      have hg : ∀ w ∈ im_g, w.before #[Value.ref b] s = true := fun w hw => hts w (List.mem_filter.mp hw).1
      obtain ⟨cC, iS, hkn⟩ := u_known (T := T) (N := N) hg hcf.2.1 (hg _ hin)
      refine ⟨(cC, iS), fun r hr => ?_⟩
      rw [hcf.1] at hr
      cases hr
      exact hkn
    · exact ⟨(0, fun _ => 0), fun r hr => by rw [List.getElem?_eq_none (by simp; omega)] at hr; cases hr⟩
  have hI : ∀ ty : FieldType, ty = .int ∨ ty = .boolean → Cond.arrayClass ty ∈ lw_tbl → ∃ cA, ArrOfT s cA ty ∧ va_RA s cA ty := by
    intro ty ht hm
    obtain ⟨c', k, comp, h1, h2, h3⟩ := Cond.arrayClass_spec (hts _ hm)
    refine ⟨c', fun n z => ⟨fun k h => (by cases h), k, h2, comp, h3⟩, ?_⟩
    rcases ht with rfl | rfl <;> exact h1
  obtain ⟨cI, i1, i2⟩ := hI .int (Or.inl rfl) (List.mem_filter.mp ma_I).1
  obtain ⟨cZ, z1, z2⟩ := hI .boolean (Or.inr rfl) (List.mem_filter.mp ma_Z).1
  have hao : va_AO (nm_R 5) s := va_AO.of (hts (Cond.arrayOver (.object (nm_R 5))) (by decide +kernel))
  obtain ⟨comp, cS, k, f1, f2, f3, f4, f5⟩ := Cond.arrayOver_spec hao
  refine ⟨(fun ci => (Classical.choose (hk ci)).1, fun ci => (Classical.choose (hk ci)).2), (cI, cZ, cS), ⟨fun ci r hr => Classical.choose_spec (hk ci) r hr, fun k2 q hq => ?_⟩, hao, fun q hq => ?_⟩
  · match k2, hq with
    | 0, hq => cases hq; exact ⟨i1, i2⟩
    | 1, hq => cases hq; exact ⟨z1, z2⟩
    | 2, hq => cases hq; exact ⟨fun n z => ⟨fun k h => (by cases h), k, f3, comp, f4⟩, k, comp, f3, f4, f1, f5⟩
    | k2 + 3, hq => cases hq
  · have hm : Cond.methodLinkNest q.1 q.2.1 q.2.2.1 q.2.2.2 ∈ lw_tbl := by
      have h9 : ∀ q ∈ im_nest, Cond.methodLinkNest q.1 q.2.1 q.2.2.1 q.2.2.2 ∈ lw_tbl := by decide +kernel
      exact h9 q hq
    exact va_Nw.of rfl (hts _ hm)
set_option maxRecDepth 100000 in
set_option maxHeartbeats 4000000 in
theorem lx_start (hp : lw_Pure Rl) (h0 : Rl 0 st_c1.2.2.2 st_r1.2.2.2) (l : Launch) (hL : L ≤ 2560) (C0 : lw_At p s m meth c b L xs) : W p l e room_1 s m #[Value.ref b] below meth c s.heap [] 0 0 (lw_Z below #[Value.ref b] s) (entryFrame m ([Value.ref b] : List Value).toArray 4) := by
  obtain ⟨hx, hb, hr, hml, hown, hts, hX, hbl, hlocks, -⟩ := C0
  obtain ⟨D, cs, hK, hnx⟩ := lx_known hts
  have hg : ∀ w ∈ im_g, w.before #[Value.ref b] s = true := fun w hw => hts w (List.mem_filter.mp hw).1
  have hA : ∀ q : Nat, s.heap.size ≤ q → (fun q => s.heap.size ≤ q) q := fun q h => h
  generalize hAe : (fun q => s.heap.size ≤ q) = A at hA
  have hA2 : ∀ q, A q → s.heap.size ≤ q := fun q h => by rw [← hAe] at h; exact h
  have hbA : ¬ A b := fun h => absurd (hA2 b h) (by omega)
  have hC1 : lc_Cx p s m #[Value.ref b] c D cs A := ⟨hx, hb, hml, hown, hg, hnx, hK, hA⟩
  have hS : va_S A s.heap s.heap [] := va_S.rf
  have hP : va_P D nm_cl [] s.heap := fun k q hq => by cases hq
  have hD : va_D A [] := ⟨fun i j p q hi => (by cases hi), fun k q hq => (by cases hq)⟩
  have hl := lv_entry ([.ref b]) (n := 4) (Nat.le_of_ble_eq_true rfl)
  rw [lg_entry_eq]
  generalize (lg_sl ([.ref b]) ++ List.replicate (4 - (lg_sl ([.ref b])).length) Slot.unset).toArray = ls at hl ⊢
  have hl : lv_has ls 4 [(0, .ref b)] := hl
  refine va_new (c0 := c) (fs := [.null, .null, .null, .null]) hx hb hg fc_7.2.1 (nm_ty 7) fc_7.2.2.1 hown (hg _ cl_13_7) (hg _ cn_7) (hg _ ci_7) hK hP hD hS hA fc_7.1 (by decide) (by decide) (by decide) dl_0 (fun q1 H1 hP hD hS => ?_)
  refine lv_dup hx hb dl_3 rfl ?_
  have w1 : ([] ++ [(q1, .inr (7, [.null, .null, .null, .null]))] : va_W) = im_W cs (fun _ => q1) st_c0 ++ [] := rfl
  rw [w1] at hP hD
  refine lc_ctor (r := (none, st_c1)) hC1 hP hD hS (fun j hj => ?_) hl.1 mf_72 (tn_72 0 st_c0 st_c1 st_cf) (by decide) rfl ⟨?_, ?_⟩ ml_13_9 mi_72 rfl mp_72 (by simp [Value.category]) dl_4 (fun ad H2 locs2 had hP hD hS => ?_)
  · have hj : 1 ≤ j := hj
    show ((if j = 0 then ((0, 7) : Nat × Nat) else (9, 0))).1 = 9
    rw [if_neg (by omega)]
  · show 0 + 1 + (st_c1.1.1 - 1) ≤ 600000
    rw [st_ck.2.1]
    decide
  · show 0 + 4 + (st_c1.1.2 - 4) ≤ 7302250
    have := st_ck.2.2.1
    omega
  have e0 : ad 0 = q1 := had 0 (Or.inl (by decide))
  rw [← e0]
  refine lv_astore_n hx hb dl_7 rfl hl (by decide) rfl (fun ls hl => ?_)
  rw [List.append_nil] at hP hD
  refine va_new (c0 := c) (fs := List.replicate 14 .null ++ [.int 0, .int 0, .int 0] ++ List.replicate 6 .null ++ [.int 0] ++ List.replicate 3 .null ++ List.replicate 4 (.int 0) ++ [.null]) hx hb hg fc_8.2.1 (nm_ty 8) fc_8.2.2.1 hown (hg _ cl_13_10) (hg _ cn_8) (hg _ ci_8) hK hP hD hS hA fc_8.1 (by decide) ?_ ?_ dl_8 (fun q2 H3 hP hD hS => ?_)
  · show 0 + 1 + (st_c1.1.1 - 1) + 1 ≤ 600000
    rw [st_ck.2.1]
    decide
  · show 0 + 4 + (st_c1.1.2 - 4) + 32 ≤ 7302250
    have := st_ck.2.2.1
    omega
  refine lv_dup hx hb dl_11 rfl ?_
  have w2 : ([(q2, .inr (8, List.replicate 14 .null ++ [.int 0, .int 0, .int 0] ++ List.replicate 6 .null ++ [.int 0] ++ List.replicate 3 .null ++ List.replicate 4 (.int 0) ++ [.null]))] : va_W) = im_W cs (fun _ => q2) st_r0 := rfl
  rw [w2] at hP hD
  have hP := lc_swapP hP
  have hD := lc_swapD hD
  refine lc_ctor (r := (none, st_r1)) hC1 hP hD hS (fun j hj => ?_) hl.1 mf_91 (tn_91 0 st_r0 st_r1 st_rf) (by decide) rfl ⟨?_, ?_⟩ ml_13_12 mi_91 rfl mp_91 (by simp [Value.category]) dl_12 (fun ar H4 locs4 har hP hD hS => ?_)
  · have hj : 1 ≤ j := hj
    show ((if j = 0 then ((0, 8) : Nat × Nat) else (9, 0))).1 = 9
    rw [if_neg (by omega)]
  · show 0 + 1 + (st_c1.1.1 - 1) + 1 + (st_r1.1.1 - 1) ≤ 600000
    rw [st_ck.2.1, st_rk.2.1]
    decide
  · show 0 + 4 + (st_c1.1.2 - 4) + 32 + (st_r1.1.2 - 32) ≤ 7302250
    have := st_ck.2.2.1
    have := st_rk.2.2.1
    omega
  have e2 : ar 0 = q2 := har 0 (Or.inl (by decide))
  rw [← e2]
  have hP := lc_swapP hP
  have hD := lc_swapD hD
  rw [st_cW, st_rW] at hP hD
  refine lv_astore_n hx hb dl_15 rfl hl (by decide) rfl (fun ls hl => ?_)
  refine lv_iconst (v := nI (5 * 0)) hx hb dl_16 rfl ?_
  refine lv_istore_n hx hb dl_17 rfl hl (by decide) rfl (fun ls hl => ?_)
  have hC9 : lw_C9 p s m c b L xs D cs A (0 + 1 + (st_c1.1.1 - 1) + 1 + (st_r1.1.1 - 1)) (0 + 4 + (st_c1.1.2 - 4) + 32 + (st_r1.1.2 - 32)) := ⟨hC1, hX, hbl, hbA, hL, by rw [st_ck.2.1, st_rk.2.1]; decide, by have := st_ck.2.2.1; have := st_rk.2.2.1; omega⟩
  exact lx_loop hp hC9 hr hlocks hA2 (L + 1) 0 _ _ (by omega) (by omega) h0 H4 locs4 ls hP hD hS (lv_sub hl [3, 2, 1, 0] rfl)
end LX
