/-! follow: host calls, all of them -/
section AL
variable {M0 N0 M N : im_M} {ln j k p B : Nat}
/-- callTakesLabel, and ask up to its note -/
theorem la_ (hi : FI N0 ln M N) {v : Nat} (hv : v < 7) : ∃ t y7 : Int32, gn_21 (nI v) M = some (t, M) ∧ (t = 1 ∧ gn_125 (nI k) (nI v) N = some (3, N) ∨ t = 0 ∧ gn_125 (nI k) (nI v) N = gn_125_139 (nI k) (nI v) (hx_ v (N 22 1)) (hy_ v (N 22 2)) y7 N ∧ hx_ v (M 48 1) = hx_ v (N 22 1) ∧ hy_ v (M 48 2) = hy_ v (N 22 2) ∧ (v ≠ 4 → y7 = 0) ∧ (v = 4 → ∀ X, gn_12 (M 48 1) (M 48 2) X = some (y7, X))) := by
  have k1 := hi.2.2.2 1 (by decide)
  have k2 := hi.2.2.2 2 (by decide)
  rw [show cq_ 1 = 1 from rfl] at k1
  rw [show cq_ 2 = 2 from rfl] at k2
  have h1 : gn_23 (1 : Int32) M = some (N 23 1, M) := g23 hi (q := 1) (by decide)
  have h2 : gn_23 (2 : Int32) M = some (N 23 2, M) := g23 hi (q := 2) (by decide)
  by_cases e1 : N 23 1 = 0
  · have v1 := ce_v k1 e1
    by_cases e2 : N 23 2 = 0
    · have v2 := ce_v k2 e2
      rcases c7_ hv with rfl | rfl | rfl | rfl | rfl | rfl | rfl
      · refine ⟨0, 0, ?_, Or.inr ⟨rfl, ?_, by rw [v1], by rw [v2], fun _ => rfl, fun z => absurd z (by decide)⟩⟩ <;> simp (decide := true) only [gn_21, gn_11, gn_21_18, gn_21_33, Option.bind_some, if_true, if_false, h1, h2, e1, e2, gn_125, gn_92, gn_125_14, gn_125_19, gn_125_41, gn_125_57, gn_125_71, gn_125_88, gn_125_109, gn_125_110, hx_, hy_]
      · refine ⟨0, 0, ?_, Or.inr ⟨rfl, ?_, by rw [v1], by rw [v2], fun _ => rfl, fun z => absurd z (by decide)⟩⟩ <;> simp (decide := true) only [gn_21, gn_11, gn_21_18, gn_21_33, Option.bind_some, if_true, if_false, h1, h2, e1, e2, gn_125, gn_92, gn_125_14, gn_125_19, gn_125_41, gn_125_57, gn_125_71, gn_125_88, gn_125_109, gn_125_110, hx_, hy_]
      · refine ⟨0, 0, ?_, Or.inr ⟨rfl, ?_, by rw [v1], by rw [v2], fun _ => rfl, fun z => absurd z (by decide)⟩⟩ <;> simp (decide := true) only [gn_21, gn_11, gn_21_18, gn_21_33, Option.bind_some, if_true, if_false, h1, h2, e1, e2, gn_125, gn_92, gn_125_14, gn_125_19, gn_125_41, gn_125_57, gn_125_71, gn_125_88, gn_125_109, gn_125_110, hx_, hy_]
      · refine ⟨0, 0, ?_, Or.inr ⟨rfl, ?_, by rw [v1], by rw [v2], fun _ => rfl, fun z => absurd z (by decide)⟩⟩ <;> simp (decide := true) only [gn_21, gn_11, gn_21_18, gn_21_33, Option.bind_some, if_true, if_false, h1, h2, e1, e2, gn_125, gn_92, gn_125_14, gn_125_19, gn_125_41, gn_125_57, gn_125_71, gn_125_88, gn_125_109, gn_125_110, hx_, hy_]
      · -- PRINT
        obtain ⟨t, p1, p2, p3⟩ := pr12 (N 22 1) (N 22 2)
        rcases p3 with rfl | ⟨rfl, x, y, hxy, ex, ey⟩
        · refine ⟨0, 0, ?_, Or.inr ⟨rfl, ?_, by rw [v1], by rw [v2], fun _ => rfl, fun _ X => by rw [v1, v2]; exact p1 X⟩⟩
          · simp (decide := true) only [gn_21, gn_11, gn_21_18, gn_21_33, Option.bind_some, if_true, if_false, h1, h2, e1, e2, gn_22, v1, v2, p1]
          · simp (decide := true) only [Option.bind_some, if_true, if_false, e1, e2, gn_125, gn_92, gn_125_14, gn_125_19, gn_125_41, gn_125_57, gn_125_71, gn_125_88, gn_125_109, gn_125_110, hx_, hy_, p2]
        · obtain ⟨t, ht, a1, b1⟩ := an_ hi hxy 1000 0 (Nat.zero_le _) (by omega)
          have eM : gn_21 (nI 4) M = some (t, M) := by
            simp (decide := true) only [gn_21, gn_11, gn_21_18, gn_21_33, Option.bind_some, if_true, if_false, h1, h2, e1, e2, gn_22, v1, v2, p1]
            rw [ex, ey, show gn_22_12 1000 (nI x) (nI y) 0 M = _ from a1]
            simp only [Option.bind_some]
            rcases ht with rfl | rfl
            · rw [if_pos rfl]
            · rw [if_neg (by decide)]
          have eN : gn_125 (nI k) (nI 4) N = if t = 0 then gn_125_139 (nI k) (nI 4) (N 22 1) (N 22 2) 1 N else some (3, N) := by
            simp (decide := true) only [Option.bind_some, if_true, if_false, e1, e2, gn_125, gn_92, gn_125_14, gn_125_19, gn_125_41, gn_125_57, gn_125_71, gn_125_88, gn_125_109, gn_125_110, hx_, hy_, p2]
            rw [ex, ey, gn_121, show (8 : Int32) + nI x = nI (8 + x) from nI_add 8 x, nI_add, show gn_121_5 1000 (nI (8 + x + y)) 0 (nI (8 + x)) N = _ from b1]
            rfl
          rcases ht with rfl | rfl
          · refine ⟨0, 1, eM, Or.inr ⟨rfl, by rw [eN, if_pos rfl]; rfl, by rw [v1], by rw [v2], fun z => absurd rfl z, fun _ X => by rw [v1, v2]; exact p1 X⟩⟩
          · exact ⟨1, 1, eM, Or.inl ⟨rfl, by rw [eN, if_neg (by decide)]⟩⟩
      · refine ⟨0, 0, ?_, Or.inr ⟨rfl, ?_, by rw [v1], by rw [v2], fun _ => rfl, fun z => absurd z (by decide)⟩⟩ <;> simp (decide := true) only [gn_21, gn_11, gn_21_18, gn_21_33, Option.bind_some, if_true, if_false, h1, h2, e1, e2, gn_125, gn_92, gn_125_14, gn_125_19, gn_125_41, gn_125_57, gn_125_71, gn_125_88, gn_125_109, gn_125_110, hx_, hy_]
      · refine ⟨0, 0, ?_, Or.inr ⟨rfl, ?_, by rw [v1], by rw [v2], fun _ => rfl, fun z => absurd z (by decide)⟩⟩ <;> simp (decide := true) only [gn_21, gn_11, gn_21_18, gn_21_33, Option.bind_some, if_true, if_false, h1, h2, e1, e2, gn_125, gn_92, gn_125_14, gn_125_19, gn_125_41, gn_125_57, gn_125_71, gn_125_88, gn_125_109, gn_125_110, hx_, hy_]
    · have e2' := (ce_l k2 e2).1
      by_cases hv2 : v = 4 ∨ v = 5
      · refine ⟨1, 0, ?_, Or.inl ⟨rfl, ?_⟩⟩ <;> rcases hv2 with rfl | rfl <;> simp (decide := true) only [gn_21, gn_11, gn_21_18, gn_21_33, Option.bind_some, if_true, if_false, h1, h2, e1, e2', gn_125, gn_92, gn_125_14, gn_125_19, gn_125_41]
      · have v2 : hy_ v (M 48 2) = hy_ v (N 22 2) := by unfold hy_; rw [if_neg hv2, if_neg hv2]
        refine ⟨0, 0, ?_, Or.inr ⟨rfl, ?_, by rw [v1], v2, fun _ => rfl, fun z => absurd (Or.inl z) hv2⟩⟩ <;> rcases c7_ hv with rfl | rfl | rfl | rfl | rfl | rfl | rfl <;> first | exact absurd (Or.inl rfl) hv2 | exact absurd (Or.inr rfl) hv2 | (simp (decide := true) only [gn_21, gn_11, gn_21_18, gn_21_33, Option.bind_some, if_true, if_false, h1, h2, e1, gn_125, gn_92, gn_125_14, gn_125_19, gn_125_41, gn_125_57, gn_125_71, gn_125_88, gn_125_109, gn_125_110, hx_, hy_])
  · have e1' := (ce_l k1 e1).1
    by_cases hv1 : v = 1 ∨ v = 3 ∨ v = 4 ∨ v = 5
    · refine ⟨1, 0, ?_, Or.inl ⟨rfl, ?_⟩⟩ <;> rcases hv1 with rfl | rfl | rfl | rfl <;> simp (decide := true) only [gn_21, gn_11, gn_21_18, gn_21_33, Option.bind_some, if_true, if_false, h1, h2, e1', gn_125, gn_92, gn_125_14, gn_125_19, gn_125_41]
    · have v1 : hx_ v (M 48 1) = hx_ v (N 22 1) := by unfold hx_; rw [if_neg hv1, if_neg hv1]
      have v2 : hy_ v (M 48 2) = hy_ v (N 22 2) := by unfold hy_; rw [if_neg (by omega), if_neg (by omega)]
      refine ⟨0, 0, ?_, Or.inr ⟨rfl, ?_, v1, v2, fun _ => rfl, fun z => by omega⟩⟩ <;> rcases c7_ hv with rfl | rfl | rfl | rfl | rfl | rfl | rfl <;> first | (exfalso; omega) | (simp (decide := true) only [gn_21, gn_11, gn_21_18, gn_21_33, Option.bind_some, if_true, if_false, h1, h2, gn_125, gn_92, gn_125_14, gn_125_19, gn_125_41, gn_125_57, gn_125_71, gn_125_88, gn_125_109, gn_125_110, hx_, hy_])
end AL
