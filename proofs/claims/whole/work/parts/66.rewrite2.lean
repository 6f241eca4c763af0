/-! rewrite: the loop, and the call -/
theorem tr_ {M0 N0 : im_M} {ln k : Nat} (hS : rl_S M0 N0) (hln : ln ≤ 24) (el : N0 0 16 = nI ln) (hft : ∀ p, p < ln → ft_ N0 ln p) (hlab : ∀ n, n < 8 → N0 19 n = 0 ∨ N0 19 n = 1 ∧ ∃ q, q ≤ ln ∧ N0 20 n = nI q) (hw : wb_ N0 ln + 1 ≤ 31) :
    ∀ (n p : Nat) (M N : im_M), p ≤ ln → ln < p + n → iv_ M0 N0 (wb_ N0 p) M N → ∃ M1 N1, gn_133_6 n (nI k) (nI p) M = some M1 ∧ gn_102_25 n (nI k) (nI p) N = some (nI (wb_ N0 ln + 1), N1) ∧ iv_ M0 N0 (wb_ N0 ln + 1) M1 N1
  | 0, p, M, N, h1, h2, _ => absurd h2 (by omega)
  | n + 1, p, M, N, h1, h2, h => by
    have e5 : M 1 5 = nI ln := by rw [h.1 1 (by decide) (by decide)]; exact hS.1.trans el
    have e0 : N 0 16 = nI ln := by rw [h.2.2.1 16 (by decide)]; exact el
    rw [gn_133_6, gn_102_25, gn_59, e5, e0]
    simp only [Option.bind_some]
    by_cases hpl : p = ln
    · subst hpl
      have hle : nI p ≤ nI p := nI_le (Nat.le_refl _) (by omega)
      obtain ⟨M1, N1, a1, b1, i1⟩ := ad_ h (by omega) 0
      refine ⟨M1, N1, ?_, ?_, i1⟩
      · rw [if_pos hle, g147, show wd_j 0 0 0 0 = 0 from rfl]
        simp only [Option.bind_some, a1]
      · rw [if_pos hle, b1]
        simp only [Option.bind_some, i1.2.2.2.2.1]
    · have hlt : p < ln := by omega
      have hm := wb_mono N0 (show p + 1 ≤ ln by omega)
      have ew : wb_ N0 (p + 1) = wb_ N0 p + sz_ (N0 15 p) := rfl
      obtain ⟨M1, N1, a1, b1, i1⟩ := ln_ (k := k) hS hln el hlt (hft p hlt) hlab h (by omega)
      rw [if_neg (nI_ge hlt (by omega)), if_neg (nI_ge hlt (by omega)), a1, b1]
      simp only [Option.bind_some, nI_1]
      exact tr_ hS hln el hft hlab hw n (p + 1) M1 N1 (by omega) (by omega) i1
theorem iv_Rl {t : Nat} {M N M1 N1 : im_M} {w : Nat} (h : Rl t M N) (hw : w ≤ 31) (hv : iv_ M N w M1 N1) : Rl (t + 1) M1 N1 := by
  obtain ⟨h1, h2, h3, ec, ew, h6⟩ := hv
  exact ⟨cg_S h.1 (fun j a b => h1 j (by omega) (by omega)) (h3 16 (by decide)) (fun j a b => h2 j (by omega) (by omega)), ⟨⟨ec.trans ew.symm, h6⟩, w, hw, ew⟩, cg_M h.2.2.1 (h1 9 (by decide) (by decide)) (h1 10 (by decide) (by decide)) (h3 14 (by decide)) (h3 15 (by decide)) (h2 1 (by decide) (by decide)), cg_T h.2.2.2.1 (fun j a b => h1 j (by omega) (by omega)) (h3 30 (by decide)) (h2 24 (by decide) (by decide)), fun k hk => cg_K hk ((rl_up h).2.2.2.2 k hk) (fun j a b => h1 j (by omega) (by omega)) (fun j a b => h2 j (by omega) (by omega))⟩
theorem g45o {a : Int32} {M : im_M} (ha : a < 0 ∨ 3 ≤ a) : gn_45 a M = some (0, M) := by rw [gn_45, if_o ha]
theorem g45n {k : Nat} {M : im_M} (hk : k < 3) : gn_45 (nI k) M = some (1, M) := by rw [gn_45, if_n 3 hk (by decide) rfl]
theorem pu_rewrite {t : Nat} {M N : im_M} (h : Rl t M N) (a : Int32) : lw_P1 Rl t M N (gn_76 a) (gn_102 a) := by
  rcases cx_ a 3 3 rfl (by decide) with ha | ⟨k, hk, rfl⟩
  · exact rd_ h (-1) (by rw [gn_76, g45o ha]; rfl) (by rw [gn_102, in_o 2 2 3 rfl rfl (by decide) ha]; rfl)
  obtain ⟨ln, hln, el, hpp, hlab⟩ := h.1.2
  obtain ⟨r, hr, f1, f2, f3⟩ := gcan h.1.1 hln el hpp hlab 1000 0 (Nat.zero_le _) (by omega) (fun q hq => absurd hq (Nat.not_lt_zero _))
  have eM : gn_76 (nI k) M = if r = 0 then some (-1, M) else ((gn_133 (nI k) M).bind fun b5 => (gn_7 b5).bind fun b6 => some (b6.1, b6.2)) := by
    rw [gn_76, g45n hk]
    simp only [Option.bind_some]
    rw [if_neg (by decide), gn_67, show (0 : Int32) = nI 0 from rfl, f1]
    simp only [Option.bind_some]
  have eN : gn_102 (nI k) N = if r = 0 then some (-1, N) else gn_102_25 1000 (nI k) (nI 0) (im_u N 0 23 0) := by
    rw [gn_102, in_n 2 2 rfl (by decide) (by omega)]
    simp only [Option.bind_some]
    rw [if_neg (by decide), gn_98, show (0 : Int32) = nI 0 from rfl, f2]
    simp only [Option.bind_some]
  rcases hr with rfl | rfl
  · exact rd_ h (-1) (by rw [eM, if_pos rfl]) (by rw [eN, if_pos rfl])
  · obtain ⟨hft, hw⟩ := f3 rfl
    have hv : iv_ M N (wb_ N 0) (im_u M 7 1 0) (im_u N 0 23 0) := ⟨fun j a b => u_j _ _ _ _ a, fun j a b => u_j _ _ _ _ a, fun i a => u_k _ _ _ _ a, u_s _ _ _ _, u_s _ _ _ _, fun p hp => by rw [u_j _ _ _ _ (by decide), u_j _ _ _ _ (by decide)]; exact h.2.1.1.2 p hp⟩
    obtain ⟨M1, N1, a1, b1, i1⟩ := tr_ (k := k) h.1.1 hln el hft hlab hw 1000 0 _ _ (Nat.zero_le _) (by omega) hv
    refine ⟨nI (wb_ N ln + 1), M1, N1, ?_, ?_, iv_Rl h hw i1⟩
    · rw [eM, if_neg (by decide), gn_133, gn_5]
      simp only [Option.bind_some]
      rw [show gn_133_6 1000 (nI k) 0 (im_u M 7 1 0) = some M1 from a1]
      simp only [Option.bind_some, gn_7, i1.2.2.2.1]
    · rw [eN, if_neg (by decide)]
      exact b1
