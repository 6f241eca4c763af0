/-! follow: from the first line to the end -/
section TH
variable {M0 N0 : im_M} {ln k B w : Nat}
theorem g18s (n : Nat) (w s : Int32) (M : im_M) : ((gn_19 M).bind fun b3 => if b3.1 = 0 then ((gn_25 k b3.2).bind fun b5 => gn_18_65 (gn_18_34 k n) k w b5.1 s b5.2) else (gn_18_65 (gn_18_34 k n) k w b3.1 s b3.2)) = (cs_ k M).bind fun b => gn_18_34 k n w b.1 (s + 1) b.2 := by
  unfold cs_
  cases gn_19 M with
  | none => rfl
  | some b3 =>
    simp only [Option.bind_some]
    by_cases c : b3.1 = 0
    · rw [if_pos c, if_pos c]
      rfl
    · rw [if_neg c, if_neg c]
      rfl
theorem th_ (hF : FE ln M0 N0) (hk : k < 3) (hK : rl_K M0 N0 k) (hI : ri_K B N0 k) (hw : w ≤ 300) : ∀ (n s : Nat) (r0 : Int32) (M N : im_M), TR M0 N0 s M N → (r0 = 0 → FI N0 ln M N) → s ≤ w → w < s + n → ∃ r M1 N1, gn_18_34 k n (nI w) r0 (nI s) M = some (r, M1) ∧ gn_123_75 n (nI k) (nI w) r0 (nI s) N = some (r, N1) ∧ TR M0 N0 300 M1 N1
  | 0, s, r0, M, N, _, _, h1, h2 => absurd h2 (by omega)
  | n + 1, s, r0, M, N, hT, hi, h1, h2 => by
    rw [gn_18_34, gn_123_75]
    by_cases e : s = w
    · subst e
      rw [if_pos (nI_le (Nat.le_refl _) (by omega)), if_pos (nI_le (Nat.le_refl _) (by omega))]
      exact ⟨r0, M, N, rfl, rfl, hT.le (by omega)⟩
    rw [if_neg (nI_ge (show s < w by omega) (by omega)), if_neg (nI_ge (show s < w by omega) (by omega))]
    by_cases e0 : r0 = 0
    · obtain ⟨r, M1, N1, a1, b1, hT1, hi1⟩ := al_ hF hk hK hI hT (hi e0) (by omega)
      obtain ⟨r', M2, N2, a2, b2, hT2⟩ := th_ hF hk hK hI hw n (s + 1) r M1 N1 hT1 hi1 (by omega) (by omega)
      refine ⟨r', M2, N2, ?_, ?_, hT2⟩
      · rw [if_pos e0, g18s, a1]
        simp only [Option.bind_some, nI_1]
        exact a2
      · rw [if_pos e0, b1]
        simp only [Option.bind_some, nI_1]
        exact b2
    · rw [if_neg e0, if_neg e0]
      exact ⟨r0, M, N, rfl, rfl, hT.le (by omega)⟩
/-- the reference's places are cleared -/
theorem c24 (y1 y2 : Int32) : ∀ (n s : Nat) (X : im_M), s ≤ 24 → 24 < s + n → ∃ Y : im_M, gn_123_31 n y1 y2 (nI s) X = gn_123_75 1000 y1 y2 0 0 (im_u (im_u (im_u (im_u Y 0 27 0) 0 28 0) 0 29 0) 0 30 0) ∧ (∀ a, a ≠ 22 → a ≠ 23 → Y a = X a) ∧ (∀ b, s ≤ b → b < 24 → Y 22 b = 0 ∧ Y 23 b = 0) ∧ ∀ b, b < s → Y 22 b = X 22 b ∧ Y 23 b = X 23 b
  | 0, s, X, h1, h2 => absurd h2 (by omega)
  | n + 1, s, X, h1, h2 => by
    rw [gn_123_31]
    by_cases e : s = 24
    · subst e
      rw [if_pos (by decide)]
      exact ⟨X, rfl, fun _ _ _ => rfl, fun b h1 h2 => absurd h2 (by omega), fun _ _ => ⟨rfl, rfl⟩⟩
    · rw [if_neg (n_ge (c := 24) (show s < 24 by omega) (by decide) rfl), g122 (show s < 24 by omega)]
      simp only [Option.bind_some, nI_1]
      obtain ⟨Y, q1, q2, q3, q4⟩ := c24 y1 y2 n (s + 1) (im_u (im_u X 22 s 0) 23 s (0 &&& 1)) (by omega) (by omega)
      refine ⟨Y, q1, fun a h1 h2 => ?_, fun b h1 h2 => ?_, fun b hb => ?_⟩
      · rw [q2 a h1 h2, u_j _ _ _ _ h2, u_j _ _ _ _ h1]
      · by_cases hb : b = s
        · subst hb
          obtain ⟨g1, g2⟩ := q4 b (by omega)
          rw [g1, g2, u_j _ 23 _ _ (by decide), u_s, u_s]
          exact ⟨rfl, rfl⟩
        · exact q3 b (by omega) h2
      · obtain ⟨g1, g2⟩ := q4 b (by omega)
        rw [g1, g2, u_j _ 23 _ _ (by decide), u_k _ _ _ _ (by omega), u_k _ _ _ _ (by omega), u_j _ 22 _ _ (by decide)]
        exact ⟨rfl, rfl⟩
theorem nz0 : (0 : Int32) = nI 0 := rfl
theorem c24z (y1 y2 : Int32) (X : im_M) : ∃ Y : im_M, gn_123_31 1000 y1 y2 0 X = gn_123_75 1000 y1 y2 0 0 (im_u (im_u (im_u (im_u Y 0 27 0) 0 28 0) 0 29 0) 0 30 0) ∧ (∀ a, a ≠ 22 → a ≠ 23 → Y a = X a) ∧ (∀ b, b < 24 → Y 22 b = 0 ∧ Y 23 b = 0) := by
  have h : ∀ n, 24 < 0 + n → ∀ z : Int32, z = nI 0 → ∃ Y : im_M, gn_123_31 n y1 y2 z X = gn_123_75 1000 y1 y2 0 0 (im_u (im_u (im_u (im_u Y 0 27 0) 0 28 0) 0 29 0) 0 30 0) ∧ (∀ a, a ≠ 22 → a ≠ 23 → Y a = X a) ∧ (∀ b, b < 24 → Y 22 b = 0 ∧ Y 23 b = 0) := fun n hn z hz => by
    rw [hz]
    obtain ⟨Y, q1, q2, q3, -⟩ := c24 y1 y2 n 0 X (Nat.zero_le _) hn
    exact ⟨Y, q1, q2, fun b hb => q3 b (Nat.zero_le _) hb⟩
  exact h 1000 (by decide) 0 nz0
theorem gs_ (x : Int32) (M : im_M) : ∃ X : im_M, gn_18 k x M = gn_18_34 k 1000 x 0 0 X ∧ (∀ c, c ≠ 42 → c ≠ 43 → c ≠ 44 → c ≠ 48 → c ≠ 49 → X c = M c) ∧ X 42 3 = 0 ∧ X 43 1 = 0 ∧ X 43 2 = 0 ∧ X 44 3 = 0 ∧ (∀ b, b < 21 → X 48 b = 0) ∧ (∀ b, b < 21 → X 49 b = -1) := by
  have e : gn_18 k x M = gn_18_34 k 1000 x 0 0 (im_u (fun a b => if a = 49 ∧ b < 21 then -1 else (if a = 48 ∧ b < 21 then 0 else im_u (im_u (im_u M 44 3 0) 43 1 0) 43 2 0 a b)) 42 3 0) := by
    rw [gn_18, gn_13, gn_1]
    simp only [Option.bind_some, fl_fill 48 21 0 (by decide), fl_fill 49 21 (-1) (by decide)]
  have v : ∀ c b, c ≠ 42 → c ≠ 48 → c ≠ 49 → im_u (fun a b => if a = 49 ∧ b < 21 then (-1 : Int32) else (if a = 48 ∧ b < 21 then (0 : Int32) else im_u (im_u (im_u M 44 3 0) 43 1 0) 43 2 0 a b)) 42 3 0 c b = im_u (im_u (im_u M 44 3 0) 43 1 0) 43 2 0 c b := fun c b h1 h4 h5 => by
    rw [u_j _ _ _ _ h1]
    simp only [h4, h5, false_and, if_false]
  refine ⟨_, e, fun c h1 h2 h3 h4 h5 => ?_, u_s _ _ _ _, ?_, ?_, ?_, fun b hb => ?_, fun b hb => ?_⟩
  · funext b
    rw [v c b h1 h4 h5, u_j _ _ _ _ h2, u_j _ _ _ _ h2, u_j _ _ _ _ h3]
  · rw [v 43 1 (by decide) (by decide) (by decide), u_k _ _ _ _ (by decide), u_s]
  · rw [v 43 2 (by decide) (by decide) (by decide), u_s]
  · rw [v 44 3 (by decide) (by decide) (by decide), u_j _ _ _ _ (by decide), u_j _ _ _ _ (by decide), u_s]
  · rw [u_j _ _ _ _ (by decide)]
    simp (decide := true) only [hb, if_true, if_false, true_and, false_and]
  · rw [u_j _ _ _ _ (by decide)]
    simp (decide := true) only [hb, if_true, true_and]
theorem th0 (hF : FE ln M0 N0) (hk : k < 3) (hK : rl_K M0 N0 k) (hI : ri_K B N0 k) (hw : w ≤ 300) {M N : im_M} (hT : TR M0 N0 0 M N) (hi : FI N0 ln M N) : ∃ r M1 N1, gn_18_34 k 1000 (nI w) 0 0 M = some (r, M1) ∧ gn_123_75 1000 (nI k) (nI w) 0 0 N = some (r, N1) ∧ TR M0 N0 300 M1 N1 := by
  have h : ∀ n, w < 0 + n → ∀ z : Int32, z = nI 0 → ∃ r M1 N1, gn_18_34 k n (nI w) 0 z M = some (r, M1) ∧ gn_123_75 n (nI k) (nI w) 0 z N = some (r, N1) ∧ TR M0 N0 300 M1 N1 := fun n hn z hz => by
    rw [hz]
    exact th_ hF hk hK hI hw n 0 0 M N hT (fun _ => hi) (Nat.zero_le _) hn
  exact h 1000 (by omega) 0 nz0
theorem gt_ {t : Nat} {M N X Y : im_M} (h : Rl t M N) (o : ∀ c, c ≠ 42 → c ≠ 43 → c ≠ 44 → c ≠ 48 → c ≠ 49 → X c = M c) (x44 : X 44 3 = 0) (q2 : ∀ a, a ≠ 22 → a ≠ 23 → Y a = N a) : TR M N 0 X (im_u (im_u (im_u (im_u Y 0 27 0) 0 28 0) 0 29 0) 0 30 0) := by
  have hN5 : ∀ a, a ≠ 0 → im_u (im_u (im_u (im_u Y 0 27 0) 0 28 0) 0 29 0) 0 30 0 a = Y a := fun a ha => by rw [u_j _ _ _ _ ha, u_j _ _ _ _ ha, u_j _ _ _ _ ha, u_j _ _ _ _ ha]
  refine ⟨fun c hc => o c (by omega) (by omega) (by omega) (by omega) (by omega), fun a h1 h2 => by rw [hN5 a (by omega)]; exact q2 a (by omega) (by omega), fun i hi => ?_, ⟨?_, fun i hi => ?_⟩, 0, Nat.le_refl _, (u_s _ _ _ _).trans nz0⟩
  · rw [u_k _ _ _ _ (by omega), u_k _ _ _ _ (by omega), u_k _ _ _ _ (by omega), u_k _ _ _ _ (by omega), q2 0 (by decide) (by decide)]
  · rw [u_s, x44]
  · rw [o 45 (by decide) (by decide) (by decide) (by decide) (by decide), o 46 (by decide) (by decide) (by decide) (by decide) (by decide), o 47 (by decide) (by decide) (by decide) (by decide) (by decide), hN5 24 (by decide), q2 24 (by decide) (by decide)]
    exact h.2.2.2.1.1.2 i hi
theorem gi_ {N X Y : im_M} (x43 : X 43 1 = 0) (x43' : X 43 2 = 0) (x42 : X 42 3 = 0) (v48 : ∀ b, b < 21 → X 48 b = 0) (v49 : ∀ b, b < 21 → X 49 b = -1) (q3 : ∀ b, b < 24 → Y 22 b = 0 ∧ Y 23 b = 0) : FI N ln X (im_u (im_u (im_u (im_u Y 0 27 0) 0 28 0) 0 29 0) 0 30 0) := by
  have hN5 : ∀ a, a ≠ 0 → im_u (im_u (im_u (im_u Y 0 27 0) 0 28 0) 0 29 0) 0 30 0 a = Y a := fun a ha => by rw [u_j _ _ _ _ ha, u_j _ _ _ _ ha, u_j _ _ _ _ ha, u_j _ _ _ _ ha]
  refine ⟨⟨0, by decide, ?_, ?_⟩, ⟨0, by decide, ?_, ?_⟩, ⟨0, Nat.zero_le _, x42.trans nz0, ?_⟩, fun q hq => ?_⟩
  · exact x43.trans nz0
  · rw [u_k _ _ _ _ (by decide), u_k _ _ _ _ (by decide), u_s]; rfl
  · exact x43'.trans nz0
  · rw [u_k _ _ _ _ (by decide), u_s]; rfl
  · rw [u_k _ _ _ _ (by decide), u_k _ _ _ _ (by decide), u_k _ _ _ _ (by decide), u_s]; rfl
  · obtain ⟨g1, g2⟩ := q3 (cq_ q) (cq_lt hq)
    rw [v48 q hq, v49 q hq, hN5 22 (by decide), hN5 23 (by decide), g1, g2]
    exact Or.inl ⟨rfl, rfl, rfl⟩
theorem ge_ {t : Nat} {M N M1 N1 : im_M} (h : Rl t M N) (hT1 : TR M N 300 M1 N1) : Rl (t + 1) M1 N1 := by
  obtain ⟨f1, f2, f3, f4, f5⟩ := hT1
  have h' := rl_up h
  exact ⟨cg_S h'.1 (fun j _ _ => f1 j (by omega)) (f3 16 (by decide)) (fun j _ _ => f2 j (by omega) (by omega)), cg_C h'.2.1 (by rw [f1 7 (by decide)]) (f1 8 (by decide)) (f3 23 (by decide)) (f2 21 (by decide) (by decide)), cg_M h'.2.2.1 (f1 9 (by decide)) (f1 10 (by decide)) (f3 14 (by decide)) (f3 15 (by decide)) (f2 1 (by decide) (by decide)), ⟨f4, f5⟩, fun k' hk' => cg_K hk' (h'.2.2.2.2 k' hk') (fun j _ _ => f1 j (by omega)) (fun j _ _ => f2 j (by omega) (by omega))⟩
/-- goThrough from its start -/
theorem go_ {t : Nat} {M N : im_M} (h : Rl t M N) (hF : FE ln M N) (hk : k < 3) (hw : w ≤ 300) : ∃ r M1 N1, gn_18 k (nI w) M = some (r, M1) ∧ gn_123_31 1000 (nI k) (nI w) 0 N = some (r, N1) ∧ Rl (t + 1) M1 N1 := by
  obtain ⟨hK, hI, -⟩ := h.2.2.2.2 k hk
  obtain ⟨Y, q1, q2, q3⟩ := c24z (nI k) (nI w) N
  obtain ⟨X, p1, o, x42, x43, x43', x44, v48, v49⟩ := gs_ (k := k) (nI w) M
  obtain ⟨r, M1, N1, a1, b1, hT1⟩ := th0 hF hk hK hI hw (gt_ h o x44 q2) (gi_ x43 x43' x42 v48 v49 q3)
  exact ⟨r, M1, N1, p1.trans a1, q1.trans b1, ge_ h hT1⟩
theorem pu_follow {t : Nat} {M N : im_M} (h : Rl t M N) (a b : Int32) : lw_P1 Rl t M N (gn_89 a b) (gn_123 a b) := by
  rcases cx_ b 301 301 rfl (by decide) with hb | ⟨w, hw, rfl⟩
  · refine rd_ h (-1) ?_ ?_
    · have e : gn_89 a b M = some (-1, M) := by
        rw [gn_89]
        by_cases c1 : a < 0
        · rw [if_pos c1]
        rw [if_neg c1]
        by_cases c2 : 3 ≤ a
        · rw [if_pos c2]
        rw [if_neg c2]
        by_cases c3 : b < 0
        · rw [if_pos c3]
        rw [if_neg c3, if_pos]
        have := hb.resolve_left c3
        rw [i_le] at this
        rw [i_lt]
        have e1 : (301 : Int32).toInt = 301 := rfl
        have e2 : (300 : Int32).toInt = 300 := rfl
        omega
      exact e
    · rw [gn_123, in_o 300 300 301 rfl rfl (by decide) hb]
      rfl
  rcases cx_ a 3 3 rfl (by decide) with ha | ⟨k, hk, rfl⟩
  · exact rd_ h (-1) (by rw [gn_89, if_o ha]) (by rw [gn_123, in_n 300 300 rfl (by decide) (by omega)]; simp (decide := true) only [Option.bind_some, if_false]; rw [in_o 2 2 3 rfl rfl (by decide) ha]; rfl)
  obtain ⟨ln, hln, el, hpp, hlab⟩ := h.1.2
  obtain ⟨r, hr, c1, c2, c3⟩ := gcan h.1.1 hln el hpp hlab 1000 0 (Nat.zero_le _) (by omega) (fun q hq => absurd hq (Nat.not_lt_zero _))
  have eM : gn_89 (nI k) (nI w) M = if r = 0 then some (-1, M) else ((gn_18 k (nI w) M).bind fun b7 => some (b7.1, b7.2)) := by
    rw [gn_89, if_n 3 hk (by decide) rfl, if_neg (nI_pos (by omega)), if_neg (show ¬ (300 : Int32) < nI w from nI_nlt (a := 300) (b := w) (by omega) (by decide)), gn_67, show gn_67_2 1000 0 M = _ from c1, cl_n (by omega)]
    rfl
  have eN : gn_123 (nI k) (nI w) N = if r = 0 then some (-1, N) else gn_123_31 1000 (nI k) (nI w) 0 N := by
    rw [gn_123, in_n 300 300 rfl (by decide) (by omega)]
    simp (decide := true) only [Option.bind_some, if_false]
    rw [in_n 2 2 rfl (by decide) (by omega)]
    simp (decide := true) only [Option.bind_some, if_false]
    rw [gn_98, show gn_98_2 1000 0 N = _ from c2]
    rfl
  rcases hr with rfl | rfl
  · exact rd_ h (-1) (by rw [eM, if_pos rfl]) (by rw [eN, if_pos rfl])
  · obtain ⟨r, M1, N1, a1, b1, h1⟩ := go_ h ⟨hln, el, h.1.1, (c3 rfl).1, hlab⟩ hk (show w ≤ 300 by omega)
    refine ⟨r, M1, N1, ?_, ?_, h1⟩
    · rw [eM, if_neg (by decide), a1]
      rfl
    · rw [eN, if_neg (by decide)]
      exact b1
end TH
