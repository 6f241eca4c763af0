/-! follow: host calls, all of them -/
section AL
variable {M0 N0 M N : im_M} {ln j k p B : Nat}
/-- callTakesLabel, and ask up to its note -/
theorem la_ (hi : FI N0 ln M N) {v : Nat} (hv : v < 7) : ∃ t y7 : Int32, gn_21 (nI v) M = some (t, M) ∧ (t = 1 ∧ gn_125 (nI k) (nI v) N = some (3, N) ∨ t = 0 ∧ gn_125 (nI k) (nI v) N = gn_125_139 (nI k) (nI v) (hx_ v (N 22 1)) (hy_ v (N 22 2)) y7 N ∧ hx_ v (M 48 1) = hx_ v (N 22 1) ∧ hy_ v (M 48 2) = hy_ v (N 22 2) ∧ (v ≠ 4 → y7 = 0) ∧ (v = 4 → ∀ X, gn_12 (M 48 1) (M 48 2) X = some (y7, X))) := by
  have k1 := hi.2.2.2 1 (by decide)
  have k2 := hi.2.2.2 2 (by decide)
  rw [show cq_ 1 = 1 from rfl] at k1
  rw [show cq_ 2 = 2 from rfl] at k2
  have h1 : gn_23 (1 : Int32) M = some (N 23 1, M) := g23 hi (q := 1) (by decide)
  have h2 : gn_23 (2 : Int32) M = some (N 23 2, M) := g23 hi (q := 2) (by decide)
  by_cases e1 : N 23 1 = 0
  · have v1 := ce_v k1 e1
    by_cases e2 : N 23 2 = 0
    · have v2 := ce_v k2 e2
      rcases c7_ hv with rfl | rfl | rfl | rfl | rfl | rfl | rfl
      · refine ⟨0, 0, ?_, Or.inr ⟨rfl, ?_, by rw [v1], by rw [v2], fun _ => rfl, fun z => absurd z (by decide)⟩⟩ <;> simp (decide := true) only [gn_21, gn_11, gn_21_18, gn_21_33, Option.bind_some, if_true, if_false, h1, h2, e1, e2, gn_125, gn_92, gn_125_14, gn_125_19, gn_125_41, gn_125_57, gn_125_71, gn_125_88, gn_125_109, gn_125_110, hx_, hy_]
      · refine ⟨0, 0, ?_, Or.inr ⟨rfl, ?_, by rw [v1], by rw [v2], fun _ => rfl, fun z => absurd z (by decide)⟩⟩ <;> simp (decide := true) only [gn_21, gn_11, gn_21_18, gn_21_33, Option.bind_some, if_true, if_false, h1, h2, e1, e2, gn_125, gn_92, gn_125_14, gn_125_19, gn_125_41, gn_125_57, gn_125_71, gn_125_88, gn_125_109, gn_125_110, hx_, hy_]
      · refine ⟨0, 0, ?_, Or.inr ⟨rfl, ?_, by rw [v1], by rw [v2], fun _ => rfl, fun z => absurd z (by decide)⟩⟩ <;> simp (decide := true) only [gn_21, gn_11, gn_21_18, gn_21_33, Option.bind_some, if_true, if_false, h1, h2, e1, e2, gn_125, gn_92, gn_125_14, gn_125_19, gn_125_41, gn_125_57, gn_125_71, gn_125_88, gn_125_109, gn_125_110, hx_, hy_]
      · refine ⟨0, 0, ?_, Or.inr ⟨rfl, ?_, by rw [v1], by rw [v2], fun _ => rfl, fun z => absurd z (by decide)⟩⟩ <;> simp (decide := true) only [gn_21, gn_11, gn_21_18, gn_21_33, Option.bind_some, if_true, if_false, h1, h2, e1, e2, gn_125, gn_92, gn_125_14, gn_125_19, gn_125_41, gn_125_57, gn_125_71, gn_125_88, gn_125_109, gn_125_110, hx_, hy_]
      · -- PRINT
        obtain ⟨t, p1, p2, p3⟩ := pr12 (N 22 1) (N 22 2)
        rcases p3 with rfl | ⟨rfl, x, y, hxy, ex, ey⟩
        · refine ⟨0, 0, ?_, Or.inr ⟨rfl, ?_, by rw [v1], by rw [v2], fun _ => rfl, fun _ X => by rw [v1, v2]; exact p1 X⟩⟩
          · simp (decide := true) only [gn_21, gn_11, gn_21_18, gn_21_33, Option.bind_some, if_true, if_false, h1, h2, e1, e2, gn_22, v1, v2, p1]
          · simp (decide := true) only [Option.bind_some, if_true, if_false, e1, e2, gn_125, gn_92, gn_125_14, gn_125_19, gn_125_41, gn_125_57, gn_125_71, gn_125_88, gn_125_109, gn_125_110, hx_, hy_, p2]
        · obtain ⟨t, ht, a1, b1⟩ := an_ hi hxy 1000 0 (Nat.zero_le _) (by omega)
          have eM : gn_21 (nI 4) M = some (t, M) := by
            simp (decide := true) only [gn_21, gn_11, gn_21_18, gn_21_33, Option.bind_some, if_true, if_false, h1, h2, e1, e2, gn_22, v1, v2, p1]
            rw [ex, ey, show gn_22_12 1000 (nI x) (nI y) 0 M = _ from a1]
            simp only [Option.bind_some]
            rcases ht with rfl | rfl
            · rw [if_pos rfl]
            · rw [if_neg (by decide)]
          have eN : gn_125 (nI k) (nI 4) N = if t = 0 then gn_125_139 (nI k) (nI 4) (N 22 1) (N 22 2) 1 N else some (3, N) := by
            simp (decide := true) only [Option.bind_some, if_true, if_false, e1, e2, gn_125, gn_92, gn_125_14, gn_125_19, gn_125_41, gn_125_57, gn_125_71, gn_125_88, gn_125_109, gn_125_110, hx_, hy_, p2]
            rw [ex, ey, gn_121, show (8 : Int32) + nI x = nI (8 + x) from nI_add 8 x, nI_add, show gn_121_5 1000 (nI (8 + x + y)) 0 (nI (8 + x)) N = _ from b1]
            rfl
          rcases ht with rfl | rfl
          · refine ⟨0, 1, eM, Or.inr ⟨rfl, by rw [eN, if_pos rfl]; rfl, by rw [v1], by rw [v2], fun z => absurd rfl z, fun _ X => by rw [v1, v2]; exact p1 X⟩⟩
          · exact ⟨1, 1, eM, Or.inl ⟨rfl, by rw [eN, if_neg (by decide)]⟩⟩
      · refine ⟨0, 0, ?_, Or.inr ⟨rfl, ?_, by rw [v1], by rw [v2], fun _ => rfl, fun z => absurd z (by decide)⟩⟩ <;> simp (decide := true) only [gn_21, gn_11, gn_21_18, gn_21_33, Option.bind_some, if_true, if_false, h1, h2, e1, e2, gn_125, gn_92, gn_125_14, gn_125_19, gn_125_41, gn_125_57, gn_125_71, gn_125_88, gn_125_109, gn_125_110, hx_, hy_]
      · refine ⟨0, 0, ?_, Or.inr ⟨rfl, ?_, by rw [v1], by rw [v2], fun _ => rfl, fun z => absurd z (by decide)⟩⟩ <;> simp (decide := true) only [gn_21, gn_11, gn_21_18, gn_21_33, Option.bind_some, if_true, if_false, h1, h2, e1, e2, gn_125, gn_92, gn_125_14, gn_125_19, gn_125_41, gn_125_57, gn_125_71, gn_125_88, gn_125_109, gn_125_110, hx_, hy_]
    · have e2' := (ce_l k2 e2).1
      by_cases hv2 : v = 4 ∨ v = 5
      · refine ⟨1, 0, ?_, Or.inl ⟨rfl, ?_⟩⟩ <;> rcases hv2 with rfl | rfl <;> simp (decide := true) only [gn_21, gn_11, gn_21_18, gn_21_33, Option.bind_some, if_true, if_false, h1, h2, e1, e2', gn_125, gn_92, gn_125_14, gn_125_19, gn_125_41]
      · have v2 : hy_ v (M 48 2) = hy_ v (N 22 2) := by unfold hy_; rw [if_neg hv2, if_neg hv2]
        refine ⟨0, 0, ?_, Or.inr ⟨rfl, ?_, by rw [v1], v2, fun _ => rfl, fun z => absurd (Or.inl z) hv2⟩⟩ <;> rcases c7_ hv with rfl | rfl | rfl | rfl | rfl | rfl | rfl <;> first | exact absurd (Or.inl rfl) hv2 | exact absurd (Or.inr rfl) hv2 | (simp (decide := true) only [gn_21, gn_11, gn_21_18, gn_21_33, Option.bind_some, if_true, if_false, h1, h2, e1, gn_125, gn_92, gn_125_14, gn_125_19, gn_125_41, gn_125_57, gn_125_71, gn_125_88, gn_125_109, gn_125_110, hx_, hy_])
  · have e1' := (ce_l k1 e1).1
    by_cases hv1 : v = 1 ∨ v = 3 ∨ v = 4 ∨ v = 5
    · refine ⟨1, 0, ?_, Or.inl ⟨rfl, ?_⟩⟩ <;> rcases hv1 with rfl | rfl | rfl | rfl <;> simp (decide := true) only [gn_21, gn_11, gn_21_18, gn_21_33, Option.bind_some, if_true, if_false, h1, h2, e1', gn_125, gn_92, gn_125_14, gn_125_19, gn_125_41]
    · have v1 : hx_ v (M 48 1) = hx_ v (N 22 1) := by unfold hx_; rw [if_neg hv1, if_neg hv1]
      have v2 : hy_ v (M 48 2) = hy_ v (N 22 2) := by unfold hy_; rw [if_neg (by omega), if_neg (by omega)]
      refine ⟨0, 0, ?_, Or.inr ⟨rfl, ?_, v1, v2, fun _ => rfl, fun z => by omega⟩⟩ <;> rcases c7_ hv with rfl | rfl | rfl | rfl | rfl | rfl | rfl <;> first | (exfalso; omega) | (simp (decide := true) only [gn_21, gn_11, gn_21_18, gn_21_33, Option.bind_some, if_true, if_false, h1, h2, gn_125, gn_92, gn_125_14, gn_125_19, gn_125_41, gn_125_57, gn_125_71, gn_125_88, gn_125_109, gn_125_110, hx_, hy_])
theorem ask_ (hk : k < 3) (hK : rl_K M0 N0 k) (hI : ri_K B N0 k) (hT : TR M0 N0 j M N) (hi : FI N0 ln M N) (hj : j < 300) (en : N 0 27 = nI p) (hp : p + 1 ≤ ln) {v : Nat} (hv : v < 7) : ∃ t : Int32, gn_21 (nI v) M = some (t, M) ∧ (t = 1 ∧ gn_125 (nI k) (nI v) N = some (3, N) ∨ t = 0 ∧ ∃ r M1 N1, gn_29 k (nI v) M = some (r, M1) ∧ gn_125 (nI k) (nI v) N = some (r, N1) ∧ TR M0 N0 (j + 1) (im_u M1 42 3 (nI (p + 1))) N1 ∧ (r = 0 → FI N0 ln (im_u M1 42 3 (nI (p + 1))) N1)) := by
  obtain ⟨t, y7, l1, l2⟩ := la_ (k := k) hi hv
  refine ⟨t, l1, ?_⟩
  rcases l2 with ⟨e, l2⟩ | ⟨e, l2, l3, l4, l5, l6⟩
  · exact Or.inl ⟨e, l2⟩
  refine Or.inr ⟨e, ?_⟩
  obtain ⟨M1, N1, a1, b1, hT1, hi1, p1, s48⟩ := nfo_ hT hi hj (nI v) (hx_ v (N 22 1)) (hy_ v (N 22 2))
  have en1 : N1 0 27 = nI p := p1.trans en
  have i3 := ib_n (n := 3) hk (by decide)
  rw [l2, b1, gn_29, g14f hv, l3, l4, a1]
  simp only [Option.bind_some]
  have fin : ∀ (Ma Na : im_M) (z : Int32), TR M0 N0 (j + 1) Ma Na → FI N0 ln Ma Na → Na 0 27 = nI p → ∃ r M2 N2, ((gn_27 1 z Ma).bind fun b => some ((0 : Int32), b)) = some (r, M2) ∧ gn_125_326 z Na = some (r, N2) ∧ TR M0 N0 (j + 1) (im_u M2 42 3 (nI (p + 1))) N2 ∧ (r = 0 → FI N0 ln (im_u M2 42 3 (nI (p + 1))) N2) := fun Ma Na z g1 g2 g3 => by
    obtain ⟨N2, q1, q2, q3⟩ := f326 g1 g2 g3 hp z
    exact ⟨0, _, N2, by rw [show gn_27 1 z Ma = _ from g27 (q := 1) (by decide) z Ma]; rfl, q1, q2, fun _ => q3⟩
  have s1 : M1 48 1 = M 48 1 := by rw [s48]
  have s2 : M1 48 2 = M 48 2 := by rw [s48]
  rcases c7_ hv with rfl | rfl | rfl | rfl | rfl | rfl | rfl
  · -- EXIT
    refine ⟨1, M1, N1, by rw [if_pos (show nI 0 = 0 from rfl)], by rw [ak_, if_pos (show nI 0 = 0 from rfl)], ?_, fun z => absurd z (by decide)⟩
    have := TR.slot hT1 (c := 42) (i := 3) (r := 27) (Or.inl rfl) (Or.inl rfl) (nI (p + 1)) (N1 0 27)
    rw [u_id] at this
    exact this
  · -- OUT
    simp (decide := true) only [if_true, if_false, ak_]
    exact fin M1 N1 0 hT1 hi1 en1
  · -- IN
    have y0 := l5 (by decide)
    subst y0
    obtain ⟨tk, htk, et, et'⟩ := hi1.2.1
    obtain ⟨fd, hfd, ef⟩ := hI.2.2.1
    have eN9 : N1 9 k = nI fd := by rw [hT1.2.1 9 (by decide) (by decide)]; exact ef
    have eN2 : N1 2 k = N0 2 k := by rw [hT1.2.1 2 (by decide) (by decide)]
    have eM4 : M1 (12 + 10 * k) 4 = nI fd := by rw [hT1.1 (12 + 10 * k) (by omega)]; exact hK.2.1.trans ef
    simp (decide := true) only [if_true, if_false, ak_, if_pos i3, cl_n (show k < 2 ^ 31 by omega), eN9, et', eN2, gn_125_276, gn_125_317]
    by_cases hlt : tk < fd
    · have h0 : ¬ N0 2 k = 0 := fun z => by
        have := hI.1.2 z
        rw [ef] at this
        have := (nI_eq (a := fd) (b := 0) (by omega) (by decide)).mp this
        omega
      have e16 : gn_16 43 k M1 = some (N0 8 (12 * k + tk), im_u M1 43 2 (nI (tk + 1))) := by
        rw [gn_16, et, eM4, if_neg (nI_pos (by omega)), if_pos (nI_lt hlt (by omega)), if_pos (ib_n (n := 12) (show tk < 12 by omega) (by decide)), cl_n (by omega), hT1.1 (14 + 10 * k) (by omega), hK.2.2.2.2.2.2.2.2.2.2.1 tk (by omega), nI_1]
      rw [e16, if_neg h0, if_neg (nI_ge hlt (by omega)), show (12 : Int32) * nI k = nI (12 * k) from pk_mul 12 k, nI_add, if_pos (ib_n (n := 36) (show 12 * k + tk < 36 by omega) (by decide)), cl_n (show 12 * k + tk < 2 ^ 31 by omega), nI_1, hT1.2.1 8 (by decide) (by decide)]
      simp only [Option.bind_some]
      exact fin _ _ _ (TR.slot hT1 (Or.inr rfl) (Or.inr (Or.inr rfl)) _ _) (FI.taken hi1 (by omega)) (by rw [u_k _ _ _ _ (by decide)]; exact en1)
    · have e16 : gn_16 43 k M1 = some (-1, M1) := by
        rw [gn_16, et, eM4, if_neg (nI_pos (by omega)), if_neg (nI_nlt (by omega) (by omega))]
      rw [e16, if_pos (show nI fd ≤ nI tk from nI_le (by omega) (by omega))]
      simp only [Option.bind_some, ite_self]
      exact fin M1 N1 _ hT1 hi1 en1
  · -- ALLOC
    have y0 := l5 (by decide)
    subst y0
    obtain ⟨gr, hgr, eg, eg'⟩ := hi1.1
    have hx3 : ∀ z, hx_ 3 z = z := fun z => by simp [hx_]
    rw [hx3, hx3] at l3
    rw [s1, l3, hx3]
    have e16 : (16 : Int32) - nI gr = nI (16 - gr) := pk_sub (a := 16) (b := gr) hgr
    simp (decide := true) only [if_true, if_false, ak_, gn_125_276, gn_125_317, eg', e16]
    generalize N 22 1 = x
    by_cases hin : ∃ s, 1 ≤ s ∧ s ≤ 16 - gr ∧ x = nI s
    · obtain ⟨s, hs1, hs2, es⟩ := hin
      have e15 : gn_15 43 x M1 = some (nI gr, im_u M1 43 1 (nI (gr + s))) := by
        rw [gn_15, eg, es, e16, if_neg (show ¬ nI s < (1 : Int32) from nI_nlt (a := s) (b := 1) hs1 (by omega)), if_pos (nI_le hs2 (by omega)), nI_add]
      have h92 : gn_92 x 1 (nI (16 - gr)) N1 = some (1, N1) := by
        rw [es]
        exact in_t (show ¬ nI s < (1 : Int32) from nI_nlt (a := s) (b := 1) hs1 (by omega)) (nI_nlt hs2 (by omega))
      rw [e15, h92]
      simp (decide := true) only [Option.bind_some, if_false]
      rw [eg', es, nI_add]
      exact fin _ _ _ (TR.slot hT1 (Or.inr rfl) (Or.inr (Or.inl rfl)) _ _) (FI.grown hi1 (show gr + s ≤ 16 by omega)) (by rw [u_k _ _ _ _ (by decide)]; exact en1)
    · have hno : x < 1 ∨ nI (16 - gr) < x := by
        by_cases c1 : x < 1
        · exact Or.inl c1
        · refine Or.inr ?_
          rcases cx_ x (16 - gr + 1) (nI (16 - gr + 1)) rfl (by omega) with ho | ⟨s, hs, es⟩
          · rcases ho with ho | ho
            · exfalso
              rw [i_lt] at ho c1
              have z0 : (0 : Int32).toInt = 0 := rfl
              have z1 : (1 : Int32).toInt = 1 := rfl
              omega
            · rw [i_le, nI_toInt (by omega)] at ho
              rw [i_lt, nI_toInt (by omega)]
              omega
          · exfalso
            refine hin ⟨s, ?_, by omega, es⟩
            rw [es, i_lt, nI_toInt (by omega)] at c1
            have z1 : (1 : Int32).toInt = 1 := rfl
            omega
      have e15 : gn_15 43 x M1 = some (-1, M1) := by
        rw [gn_15, eg, e16]
        by_cases c1 : x < 1
        · rw [if_pos c1]
        · rw [if_neg c1, if_neg (fun z => by have := hno.resolve_left c1; rw [i_lt] at this; rw [i_le] at z; omega)]
      rw [e15, in_f hno]
      simp (decide := true) only [Option.bind_some, if_true]
      exact fin M1 N1 _ hT1 hi1 en1
  · -- PRINT
    have h12 := l6 rfl M1
    have hy4 : ∀ z, hy_ 4 z = z := fun z => by simp [hy_]
    rw [hy4, hy4] at l4
    rw [s1, s2, h12]
    simp (decide := true) only [if_true, if_false, ak_, gn_125_276, gn_125_317, Option.bind_some, gn_29_134, s2, l4, hy4]
    by_cases c0 : y7 = 0
    · rw [if_pos c0, if_pos c0]
      exact fin M1 N1 _ hT1 hi1 en1
    · rw [if_neg c0, if_neg c0]
      exact fin M1 N1 _ hT1 hi1 en1
  · -- SEND
    have y0 := l5 (by decide)
    subst y0
    simp (decide := true) only [if_true, if_false, ak_, gn_125_276, gn_125_317]
    exact fin M1 N1 _ hT1 hi1 en1
  · -- RECEIVE
    have y0 := l5 (by decide)
    subst y0
    simp (decide := true) only [if_true, if_false, ak_, gn_125_276, gn_125_317]
    exact fin M1 N1 _ hT1 hi1 en1
end AL
