/-! verify -/
/-- the word behind place p, 0 if there is none -/
def nx_w (N : im_M) (w p : Nat) : Int32 := if p + 1 < w then N 21 (p + 1) else 0
/-- what the verifier asks of the word u at place p of w -/
def sf_ (w p : Nat) (u : Int32) : Prop := ¬ wd_o u = 15 ∧ (wd_o u = 10 ∨ wd_o u = 11 ∨ wd_o u = 12 → ∃ x, x < w ∧ nI p + 1 + wd_i u = nI x) ∧ (wd_o u = 13 → wd_a u = 7) ∧ (wd_o u = 14 → ∃ x, x < 7 ∧ wd_i u = nI x) ∧ (wd_o u = 8 ∨ wd_o u = 9 → wd_b u = 6 ∧ wd_i u = 0)
def sv_ (k w p : Nat) (N : im_M) : Prop := sf_ w p (N 21 p) ∧ rs_f (N 21 p) (nx_w N w p) 6 (nI (16 * k)) 15 ∧ rs_f (N 21 p) (nx_w N w p) 7 (nI (64 + 32 * k)) 31
theorem J_6 : ∀ k, k < 3 → wd_j 7 6 6 (nI (16 * k)) ≠ 0 := by decide +kernel
theorem J_7 : ∀ k, k < 3 → wd_j 7 7 7 (nI (64 + 32 * k)) ≠ 0 := by decide +kernel
section VF
variable {M N : im_M} {w p k : Nat}
theorem g8 (ec : M 7 1 = nI w) (hw : w ≤ 31) (hp : p < w) : gn_8 (nI p) M = some (M 8 p, M) := by
  rw [gn_8, ec, if_n (nI w) hp (by omega) rfl, if_pos (ib_n (show p < 31 by omega) (by decide)), cl_n (by omega)]
theorem g8n (ec : M 7 1 = nI w) (hw : w ≤ 31) (hp : p < w) (h8 : ∀ p, p < 31 → M 8 p = N 21 p) : gn_8 (nI p + 1) M = some (nx_w N w p, M) := by
  rw [nI_1, nx_w]
  by_cases h : p + 1 < w
  · rw [g8 ec hw h, if_pos h, h8 (p + 1) (by omega)]
  · rw [if_neg h, gn_8, ec, if_neg (nI_pos (by omega)), if_pos (nI_le (by omega) (by omega))]
/-- the first half of the test, alike on both sides -/
theorem g140 (ec : M 7 1 = nI w) (ew : N 0 23 = nI w) (hw : w ≤ 31) (hp : p < w) (h8 : ∀ p, p < 31 → M 8 p = N 21 p) : ∃ g : Int32, (g = 0 ∨ g = 1) ∧ gn_140 (nI p) M = some (g, M) ∧ gn_108 (nI p) (nI k) N = gn_108_143 (nI p) (nI k) g N ∧ (g = 1 ↔ sf_ w p (N 21 p)) := by
  have h31 := ib_n (n := 31) (show p < 31 by omega) (by decide)
  have e8 := g8 ec hw hp
  rw [h8 p (by omega)] at e8
  have eN : gn_108 (nI p) (nI k) N = (if (N 21 p &&& (15 : Int32)) = (15 : Int32) then (gn_108_31 (nI p) (nI k) (N 21 p) (N 21 p &&& (15 : Int32)) (N 21 p >>> ((10 : Int32) &&& 31)) (0 : Int32) N) else (gn_108_31 (nI p) (nI k) (N 21 p) (N 21 p &&& (15 : Int32)) (N 21 p >>> ((10 : Int32) &&& 31)) (1 : Int32) N)) := by
    rw [gn_108, if_pos h31, cl_n (by omega)]
  rw [eN, gn_140, e8]
  simp only [Option.bind_some, gn_146, gn_143, sf_, wd_o, wd_a, wd_b, wd_i]
  generalize N 21 p = u
  obtain ⟨x, hx, eo⟩ := pk_andE u (m := 15) 4 rfl
  generalize hi : u >>> ((10 : Int32) &&& 31) = i
  rw [eo]
  have hx16 : x < 16 := hx
  by_cases h89 : x = 8 ∨ x = 9
  · by_cases hb : (u >>> ((7 : Int32) &&& 31)) &&& (7 : Int32) = 6
    · by_cases h0 : i = 0
      · refine ⟨1, Or.inr rfl, ?_, ?_, ⟨fun _ => ⟨?_, ?_, ?_, ?_, fun _ => ⟨hb, h0⟩⟩, fun _ => rfl⟩⟩
        · rcases h89 with rfl | rfl <;> simp (decide := true) only [if_true, if_false, gn_140_60, gn_145, Option.bind_some, hb, h0]
        · rcases h89 with rfl | rfl <;> simp (decide := true) only [if_true, if_false, gn_108_31, gn_92, gn_108_63, gn_108_88, gn_108_105, gn_108_119, gn_108_141, gn_108_140, Option.bind_some, hb, h0]
        all_goals (rcases h89 with rfl | rfl <;> intro h <;> exfalso <;> revert h <;> decide)
      · refine ⟨0, Or.inl rfl, ?_, ?_, ⟨fun h => absurd h (by decide), fun h => absurd (h.2.2.2.2 (by rcases h89 with rfl | rfl <;> decide)).2 h0⟩⟩
        · rcases h89 with rfl | rfl <;> simp (decide := true) only [if_true, if_false, gn_140_60, gn_145, Option.bind_some, hb, h0]
        · rcases h89 with rfl | rfl <;> simp (decide := true) only [if_true, if_false, gn_108_31, gn_92, gn_108_63, gn_108_88, gn_108_105, gn_108_119, gn_108_141, gn_108_140, Option.bind_some, hb, h0]
    · refine ⟨0, Or.inl rfl, ?_, ?_, ⟨fun h => absurd h (by decide), fun h => absurd (h.2.2.2.2 (by rcases h89 with rfl | rfl <;> decide)).1 hb⟩⟩
      · rcases h89 with rfl | rfl <;> simp (decide := true) only [if_true, if_false, gn_140_60, gn_145, Option.bind_some, hb]
      · rcases h89 with rfl | rfl <;> simp (decide := true) only [if_true, if_false, gn_108_31, gn_92, gn_108_63, gn_108_88, gn_108_105, gn_108_119, gn_108_141, gn_108_140, Option.bind_some, hb]
  by_cases h101112 : x = 10 ∨ x = 11 ∨ x = 12
  · have hg : ∃ g : Int32, (g = 0 ∨ g = 1) ∧ gn_140_79 (nI p) i M = some (g, M) ∧ gn_92 (nI p + 1 + i) 0 (nI w - 1) N = some (g, N) ∧ (g = 1 ↔ ∃ x, x < w ∧ nI p + 1 + i = nI x) := by
      rcases cx_ (nI p + 1 + i) w (nI w) rfl (by omega) with ho | ⟨y, hy, ey⟩
      · refine ⟨0, Or.inl rfl, ?_, ?_, ⟨fun h => absurd h (by decide), ?_⟩⟩
        · rw [gn_140_79, gn_7, ec]
          by_cases h0 : nI p + 1 + i < 0
          · rw [if_pos h0]
          · rw [if_neg h0]
            simp only [Option.bind_some]
            rw [if_pos (ho.resolve_left h0)]
        · refine in_f ?_
          rcases ho with ho | ho
          · exact Or.inl ho
          · refine Or.inr ?_
            rw [i_le, nI_toInt (by omega)] at ho
            rw [i_lt, show (1 : Int32) = nI 1 from rfl, pk_sub_toInt (by omega) (by decide)]
            rw [show (1 : Int32) = nI 1 from rfl] at ho
            omega
        · intro ⟨y, hy, ey⟩
          rw [ey] at ho
          rcases ho with ho | ho
          · exact absurd ho (nI_pos (by omega))
          · exact absurd ho (nI_ge hy (by omega))
      · refine ⟨1, Or.inr rfl, ?_, ?_, ⟨fun _ => ⟨y, hy, ey⟩, fun _ => rfl⟩⟩
        · rw [gn_140_79, gn_7, ec, ey, if_neg (nI_pos (by omega))]
          simp only [Option.bind_some]
          rw [if_neg (nI_ge hy (by omega))]
        · rw [ey]
          refine in_t (nI_pos (by omega)) ?_
          rw [i_lt, show (1 : Int32) = nI 1 from rfl, pk_sub_toInt (by omega) (by decide), nI_toInt (by omega)]
          omega
    obtain ⟨g, hg, g1, g2, g3⟩ := hg
    refine ⟨g, hg, ?_, ?_, ⟨fun h => ⟨?_, fun _ => g3.mp h, ?_, ?_, ?_⟩, fun h => g3.mpr (h.2.1 (by rcases h101112 with rfl | rfl | rfl <;> decide))⟩⟩
    · rcases h101112 with rfl | rfl | rfl <;> simp (decide := true) only [if_true, if_false, g1]
    · rcases h101112 with rfl | rfl | rfl <;> simp (decide := true) only [if_true, if_false, gn_108_31, show gn_92 (nI 10) 10 12 N = some (1, N) from rfl, show gn_92 (nI 11) 10 12 N = some (1, N) from rfl, show gn_92 (nI 12) 10 12 N = some (1, N) from rfl, ew, g2, gn_108_63, gn_108_88, gn_108_105, Option.bind_some]
    all_goals (rcases h101112 with rfl | rfl | rfl <;> first | decide | (intro h; exfalso; revert h; decide))
  by_cases h13 : x = 13
  · subst h13
    by_cases ha : (u >>> ((4 : Int32) &&& 31)) &&& (7 : Int32) = 7
    · refine ⟨1, Or.inr rfl, ?_, ?_, ⟨fun _ => ⟨by decide, fun h => absurd h (by decide), fun _ => ha, fun h => absurd h (by decide), fun h => absurd h (by decide)⟩, fun _ => rfl⟩⟩
      · simp (decide := true) only [if_true, if_false, gn_144, Option.bind_some, ha]
      · simp (decide := true) only [if_true, if_false, gn_108_31, gn_92, gn_108_63, gn_108_86, gn_108_88, gn_108_105, Option.bind_some, ha]
    · refine ⟨0, Or.inl rfl, ?_, ?_, ⟨fun h => absurd h (by decide), fun h => absurd (h.2.2.1 (by decide)) ha⟩⟩
      · simp (decide := true) only [if_true, if_false, gn_144, Option.bind_some, ha]
      · simp (decide := true) only [if_true, if_false, gn_108_31, gn_92, gn_108_63, gn_108_86, gn_108_88, gn_108_105, Option.bind_some, ha]
  by_cases h14 : x = 14
  · subst h14
    obtain ⟨g, hg, g1, g2, g3⟩ := g10 i M N
    refine ⟨g, hg, ?_, ?_, ⟨fun h => ⟨by decide, fun h => absurd h (by decide), fun h => absurd h (by decide), fun _ => g3 h, fun h => absurd h (by decide)⟩, fun h => ?_⟩⟩
    · simp (decide := true) only [if_true, if_false, g1, Option.bind_some, z1 g hg]
    · simp (decide := true) only [if_true, if_false, gn_108_31, show gn_92 (nI 14) 10 12 N = some (0, N) from rfl, gn_108_63, gn_108_88, g2, gn_108_105, Option.bind_some]
    · obtain ⟨y, hy, ey⟩ := h.2.2.2.1 (by decide)
      rw [ey, in_n 6 6 rfl (by decide) (by omega)] at g2
      exact (Prod.mk.inj (Option.some.inj g2)).1.symm
  by_cases h15 : x = 15
  · subst h15
    refine ⟨0, Or.inl rfl, ?_, ?_, ⟨fun h => absurd h (by decide), fun h => absurd (show nI 15 = 15 by decide) h.1⟩⟩
    · simp (decide := true) only [if_true, if_false]
    · simp (decide := true) only [if_true, if_false, gn_108_31, gn_92, gn_108_63, gn_108_88, gn_108_105, Option.bind_some]
  have hrest : x = 0 ∨ x = 1 ∨ x = 2 ∨ x = 3 ∨ x = 4 ∨ x = 5 ∨ x = 6 ∨ x = 7 := by omega
  refine ⟨1, Or.inr rfl, ?_, ?_, ⟨fun _ => ⟨?_, ?_, ?_, ?_, ?_⟩, fun _ => rfl⟩⟩
  · rcases hrest with rfl | rfl | rfl | rfl | rfl | rfl | rfl | rfl <;> simp (decide := true) only [if_true, if_false]
  · rcases hrest with rfl | rfl | rfl | rfl | rfl | rfl | rfl | rfl <;> simp (decide := true) only [if_true, if_false, gn_108_31, gn_92, gn_108_63, gn_108_88, gn_108_105, Option.bind_some]
  all_goals (rcases hrest with rfl | rfl | rfl | rfl | rfl | rfl | rfl | rfl <;> first | decide | (intro h; exfalso; revert h; decide))
/-- the fence of one register, by the reference -/
theorem g106 (ew : N 0 23 = nI w) (hw : w ≤ 31) (q : Nat) (hq : q < 2 ^ 31) (r base : Int32) : ∃ g : Int32, (g = 0 ∨ g = 1) ∧ gn_106 (nI q) 7 r r base N = some (g, N) ∧ (g = 1 ↔ q < w ∧ N 21 q = wd_j 7 r r base) := by
  rw [gn_106, ew]
  by_cases h : q < w
  · rw [if_neg (nI_ge h (by omega)), if_pos (ib_n (show q < 31 by omega) (by decide)), g99, cl_n (by omega)]
    simp only [Option.bind_some]
    by_cases e : N 21 q = wd_j 7 r r base
    · rw [if_pos e]
      exact ⟨1, Or.inr rfl, rfl, ⟨fun _ => ⟨h, e⟩, fun _ => rfl⟩⟩
    · rw [if_neg e]
      exact ⟨0, Or.inl rfl, rfl, ⟨fun h => absurd h (by decide), fun h => absurd h.2 e⟩⟩
  · rw [if_pos (nI_le (by omega) hq)]
    exact ⟨0, Or.inl rfl, rfl, ⟨fun h => absurd h (by decide), fun z => absurd z.1 h⟩⟩
theorem g107 (ew : N 0 23 = nI w) (hw : w ≤ 31) (hp : p < w) (r base mask : Int32) (hJ : wd_j 7 r r base ≠ 0) : ∃ g : Int32, (g = 0 ∨ g = 1) ∧ gn_107 (nI p) r base mask N = some (g, N) ∧ (g = 1 ↔ rs_f (N 21 p) (nx_w N w p) r base mask) := by
  have h31 := ib_n (n := 31) (show p < 31 by omega) (by decide)
  obtain ⟨g1, hg1, f1, f2⟩ := g106 ew hw p (by omega) r base
  obtain ⟨g2, hg2, f3, f4⟩ := g106 ew hw (p + 1) (by omega) r base
  have hnx : (p + 1 < w ∧ N 21 (p + 1) = wd_j 7 r r base) ↔ nx_w N w p = wd_j 7 r r base := by
    unfold nx_w
    by_cases h : p + 1 < w
    · rw [if_pos h]
      exact ⟨fun z => z.2, fun z => ⟨h, z⟩⟩
    · rw [if_neg h]
      exact ⟨fun z => absurd z.1 h, fun z => absurd z.symm hJ⟩
  rw [gn_107, if_pos h31, cl_n (by omega)]
  simp only [rs_f, wd_o, wd_a, wd_i]
  have f2' : g1 = 1 ↔ N 21 p = wd_j 7 r r base := ⟨fun h => (f2.mp h).2, fun h => f2.mpr ⟨hp, h⟩⟩
  have f4' : g2 = 1 ↔ nx_w N w p = wd_j 7 r r base := f4.trans hnx
  generalize N 21 p = u at *
  generalize nx_w N w p = v at *
  by_cases c1 : (u &&& (15 : Int32)) < 1
  · rw [in_f (Or.inl c1)]
    exact ⟨1, Or.inr rfl, rfl, ⟨fun _ h => absurd c1 h, fun _ => rfl⟩⟩
  by_cases c2 : (8 : Int32) < (u &&& (15 : Int32))
  · rw [in_f (Or.inr c2)]
    exact ⟨1, Or.inr rfl, rfl, ⟨fun _ _ h => absurd c2 h, fun _ => rfl⟩⟩
  rw [in_t c1 c2]
  simp only [Option.bind_some]
  rw [if_neg (by decide)]
  by_cases c3 : ((u >>> ((4 : Int32) &&& 31)) &&& (7 : Int32)) = r
  · rw [if_pos c3]
    have h60 : ∀ s : Int32, gn_107_60 (nI p) r base s N = if g1 = 0 then (if s = 0 then some (0, N) else (if g2 = 0 then some (0, N) else some (1, N))) else some (1, N) := fun s => by
      simp only [gn_107_60, f1, Option.bind_some, nI_1, f3, gn_107_95]
    have key : ∀ s : Int32, (s = 0 ∨ s = 1) → (s = 1 ↔ (u &&& (15 : Int32)) = 6 ∧ (u >>> ((10 : Int32) &&& 31)) = mask) → ∃ g : Int32, (g = 0 ∨ g = 1) ∧ gn_107_60 (nI p) r base s N = some (g, N) ∧ (g = 1 ↔ (¬ (u &&& (15 : Int32)) < 1 → ¬ 8 < (u &&& (15 : Int32)) → (u >>> ((4 : Int32) &&& 31)) &&& (7 : Int32) = r → u = wd_j 7 r r base ∨ ((u &&& (15 : Int32)) = 6 ∧ (u >>> ((10 : Int32) &&& 31)) = mask ∧ v = wd_j 7 r r base))) := by
      intro s hs hsm
      rw [h60]
      by_cases k1 : u = wd_j 7 r r base
      · rw [if_neg (by rw [f2'.mpr k1]; decide)]
        exact ⟨1, Or.inr rfl, rfl, ⟨fun _ _ _ _ => Or.inl k1, fun _ => rfl⟩⟩
      · have : g1 = 0 := hg1.resolve_right (fun h => k1 (f2'.mp h))
        rw [if_pos this]
        rcases hs with rfl | rfl
        · rw [if_pos rfl]
          refine ⟨0, Or.inl rfl, rfl, ⟨fun h => absurd h (by decide), fun h => ?_⟩⟩
          rcases h c1 c2 c3 with h | ⟨h1, h2, h3⟩
          · exact absurd h k1
          · exact absurd (hsm.mpr ⟨h1, h2⟩) (by decide)
        · rw [if_neg (by decide)]
          obtain ⟨m1, m2⟩ := hsm.mp rfl
          by_cases k2 : v = wd_j 7 r r base
          · rw [if_neg (by rw [f4'.mpr k2]; decide)]
            exact ⟨1, Or.inr rfl, rfl, ⟨fun _ _ _ _ => Or.inr ⟨m1, m2, k2⟩, fun _ => rfl⟩⟩
          · have : g2 = 0 := hg2.resolve_right (fun h => k2 (f4'.mp h))
            rw [if_pos this]
            refine ⟨0, Or.inl rfl, rfl, ⟨fun h => absurd h (by decide), fun h => ?_⟩⟩
            rcases h c1 c2 c3 with h | ⟨h1, h2, h3⟩
            · exact absurd h k1
            · exact absurd h3 k2
    by_cases d1 : (u &&& (15 : Int32)) = 6
    · rw [if_pos d1]
      by_cases d2 : (u >>> ((10 : Int32) &&& 31)) = mask
      · rw [if_pos d2]
        exact key 1 (Or.inr rfl) ⟨fun _ => ⟨d1, d2⟩, fun _ => rfl⟩
      · rw [if_neg d2, gn_107_59]
        exact key 0 (Or.inl rfl) ⟨fun h => absurd h (by decide), fun h => absurd h.2 d2⟩
    · rw [if_neg d1, gn_107_59]
      exact key 0 (Or.inl rfl) ⟨fun h => absurd h (by decide), fun h => absurd h.1 d1⟩
  · rw [if_neg c3]
    exact ⟨1, Or.inr rfl, rfl, ⟨fun _ _ _ h => absurd h c3, fun _ => rfl⟩⟩
/-- the fences, by the class -/
theorem g142 (ec : M 7 1 = nI w) (hw : w ≤ 31) (hp : p < w) (h8 : ∀ p, p < 31 → M 8 p = N 21 p) (mask base r : Int32) (hr : ((N 21 p >>> ((4 : Int32) &&& 31)) &&& (7 : Int32)) = r) : ∃ g : Int32, (g = 0 ∨ g = 1) ∧ gn_142 (nI p) mask base M = some (g, M) ∧ (g = 1 ↔ (N 21 p = wd_j 7 r r base ∨ (wd_o (N 21 p) = 6 ∧ wd_i (N 21 p) = mask ∧ nx_w N w p = wd_j 7 r r base))) := by
  have e8 := g8 ec hw hp
  rw [h8 p (by omega)] at e8
  have e8n := g8n ec hw hp h8
  rw [gn_142, e8]
  simp only [Option.bind_some, gn_144, g147, gn_143, gn_146, e8n, wd_o, wd_i]
  rw [hr]
  generalize N 21 p = u at *
  generalize nx_w N w p = v at *
  by_cases k1 : u = wd_j 7 r r base
  · rw [if_pos k1]
    exact ⟨1, Or.inr rfl, rfl, ⟨fun _ => Or.inl k1, fun _ => rfl⟩⟩
  · rw [if_neg k1]
    by_cases k2 : (u &&& (15 : Int32)) = 6
    · rw [if_pos k2]
      by_cases k3 : (u >>> ((10 : Int32) &&& 31)) = mask
      · rw [if_pos k3]
        by_cases k4 : v = wd_j 7 r r base
        · rw [if_pos k4]
          exact ⟨1, Or.inr rfl, rfl, ⟨fun _ => Or.inr ⟨k2, k3, k4⟩, fun _ => rfl⟩⟩
        · rw [if_neg k4]
          exact ⟨0, Or.inl rfl, rfl, ⟨fun h => absurd h (by decide), fun h => h.elim (fun z => absurd z k1) (fun z => absurd z.2.2 k4)⟩⟩
      · rw [if_neg k3]
        exact ⟨0, Or.inl rfl, rfl, ⟨fun h => absurd h (by decide), fun h => h.elim (fun z => absurd z k1) (fun z => absurd z.2.1 k3)⟩⟩
    · rw [if_neg k2]
      exact ⟨0, Or.inl rfl, rfl, ⟨fun h => absurd h (by decide), fun h => h.elim (fun z => absurd z k1) (fun z => absurd z.1 k2)⟩⟩
theorem g141 (ec : M 7 1 = nI w) (hw : w ≤ 31) (hp : p < w) (h8 : ∀ p, p < 31 → M 8 p = N 21 p) : ∃ g : Int32, (g = 0 ∨ g = 1) ∧ gn_141 (nI p) (nI k) M = some (g, M) ∧ (g = 1 ↔ rs_f (N 21 p) (nx_w N w p) 6 (nI (16 * k)) 15 ∧ rs_f (N 21 p) (nx_w N w p) 7 (nI (64 + 32 * k)) 31) := by
  have e8 := g8 ec hw hp
  rw [h8 p (by omega)] at e8
  have a6 : (16 : Int32) * nI k = nI (16 * k) := pk_mul 16 k
  have a7 : (64 : Int32) + (32 : Int32) * nI k = nI (64 + 32 * k) := by
    rw [show (32 : Int32) * nI k = nI (32 * k) from pk_mul 32 k, show (64 : Int32) = nI 64 from rfl, nI_add]
  rw [gn_141, e8]
  simp only [Option.bind_some, gn_143, e8, gn_144, gn_46, gn_47, a6, a7]
  by_cases c1 : (N 21 p &&& (15 : Int32)) < 1
  · rw [if_pos c1]
    exact ⟨1, Or.inr rfl, rfl, ⟨fun _ => ⟨fun h => absurd c1 h, fun h => absurd c1 h⟩, fun _ => rfl⟩⟩
  rw [if_neg c1]
  by_cases c2 : (8 : Int32) < (N 21 p &&& (15 : Int32))
  · rw [if_neg (by rw [i_lt] at c2; rw [i_le]; omega)]
    exact ⟨1, Or.inr rfl, rfl, ⟨fun _ => ⟨fun _ h => absurd c2 h, fun _ h => absurd c2 h⟩, fun _ => rfl⟩⟩
  rw [if_pos (n_le.mp c2)]
  by_cases c6 : ((N 21 p >>> ((4 : Int32) &&& 31)) &&& (7 : Int32)) = 6
  · rw [if_pos c6]
    obtain ⟨g, hg, f1, f2⟩ := g142 ec hw hp h8 15 (nI (16 * k)) 6 c6
    refine ⟨g, hg, by simp only [f1, Option.bind_some, z1 g hg, if_true], ⟨fun h => ⟨fun _ _ _ => f2.mp h, fun _ _ h7 => ?_⟩, fun h => f2.mpr (h.1 c1 c2 c6)⟩⟩
    exact absurd (c6.symm.trans h7) (by decide)
  rw [if_neg c6]
  by_cases c7 : ((N 21 p >>> ((4 : Int32) &&& 31)) &&& (7 : Int32)) = 7
  · rw [if_pos c7]
    obtain ⟨g, hg, f1, f2⟩ := g142 ec hw hp h8 31 (nI (64 + 32 * k)) 7 c7
    refine ⟨g, hg, by simp only [f1, Option.bind_some, z1 g hg, if_true], ⟨fun h => ⟨fun _ _ h6 => ?_, fun _ _ _ => f2.mp h⟩, fun h => f2.mpr (h.2 c1 c2 c7)⟩⟩
    exact absurd h6 c6
  · rw [if_neg c7]
    exact ⟨1, Or.inr rfl, rfl, ⟨fun _ => ⟨fun _ _ h => absurd h c6, fun _ _ h => absurd h c7⟩, fun _ => rfl⟩⟩
/-- firstUnsafe and verify's loop -/
theorem gver (ec : M 7 1 = nI w) (ew : N 0 23 = nI w) (hw : w ≤ 31) (hk : k < 3) (h8 : ∀ p, p < 31 → M 8 p = N 21 p) : ∀ (n p : Nat), p ≤ w → w < p + n → (∀ q, q < p → sv_ k w q N) → ∃ r : Int32, gn_139_2 n (nI k) (nI p) M = some (r, M) ∧ gn_109_14 n (nI k) (nI p) N = some (r, N) ∧ (r = -1 → ∀ q, q < w → sv_ k w q N)
  | 0, p, h1, h2, _ => absurd h2 (by omega)
  | n + 1, p, h1, h2, hs => by
    rw [gn_139_2, gn_109_14, gn_7, ec, ew]
    simp only [Option.bind_some]
    by_cases hpw : p = w
    · subst hpw
      have hle : nI p ≤ nI p := nI_le (Nat.le_refl _) (by omega)
      rw [if_pos hle, if_pos hle]
      exact ⟨-1, rfl, rfl, fun _ => hs⟩
    have hlt : p < w := by omega
    rw [if_neg (nI_ge hlt (by omega)), if_neg (nI_ge hlt (by omega))]
    obtain ⟨g, hg, a1, a2, a3⟩ := g140 (k := k) ec ew hw hlt h8
    obtain ⟨f, hf, b1, b2⟩ := g141 (k := k) (N := N) ec hw hlt h8
    have a6 : (16 : Int32) * nI k = nI (16 * k) := pk_mul 16 k
    have a7 : (64 : Int32) + (32 : Int32) * nI k = nI (64 + 32 * k) := by
      rw [show (32 : Int32) * nI k = nI (32 * k) from pk_mul 32 k, show (64 : Int32) = nI 64 from rfl, nI_add]
    obtain ⟨c6, hc6, d1, d2⟩ := g107 ew hw hlt 6 (nI (16 * k)) 15 (J_6 k hk)
    obtain ⟨c7, hc7, d3, d4⟩ := g107 ew hw hlt 7 (nI (64 + 32 * k)) 31 (J_7 k hk)
    rw [a1, a2, gn_108_143, a6, a7]
    simp only [Option.bind_some, d1, d3]
    have stop : ¬ nI p = -1 := n_m1 (by omega)
    rcases hg with rfl | rfl
    · simp (decide := true) only [if_true, Option.bind_some]
      exact ⟨nI p, rfl, rfl, fun h => absurd h stop⟩
    simp (decide := true) only [if_false, b1, Option.bind_some]
    rcases hc6 with rfl | rfl
    · have : f = 0 := hf.resolve_right (fun h => absurd (d2.mpr (b2.mp h).1) (by decide))
      subst this
      simp (decide := true) only [if_true, Option.bind_some]
      exact ⟨nI p, rfl, rfl, fun h => absurd h stop⟩
    rcases hc7 with rfl | rfl
    · have : f = 0 := hf.resolve_right (fun h => absurd (d4.mpr (b2.mp h).2) (by decide))
      subst this
      simp (decide := true) only [if_true, if_false, Option.bind_some]
      exact ⟨nI p, rfl, rfl, fun h => absurd h stop⟩
    have : f = 1 := b2.mpr ⟨d2.mp rfl, d4.mp rfl⟩
    subst this
    simp (decide := true) only [if_false, Option.bind_some, nI_1]
    exact gver ec ew hw hk h8 n (p + 1) (by omega) (by omega) (fun q hq => by
      by_cases e : q = p
      · subst e; exact ⟨a3.mp rfl, d2.mp rfl, d4.mp rfl⟩
      · exact hs q (by omega))
end VF
theorem ver_ {t : Nat} {M N : im_M} (h : Rl t M N) {k : Nat} (hk : k < 3) : ∃ (w : Nat) (r : Int32), w ≤ 31 ∧ N 0 23 = nI w ∧ M 7 1 = nI w ∧ gn_139 (nI k) M = some (r, M) ∧ gn_109 (nI k) N = some (r, N) ∧ (r = -1 → ∀ q, q < w → sv_ k w q N) := by
  obtain ⟨w, hw, ew⟩ := h.2.1.2
  have ec : M 7 1 = nI w := h.2.1.1.1.trans ew
  obtain ⟨r, f1, f2, f3⟩ := gver ec ew hw hk h.2.1.1.2 1000 0 (Nat.zero_le _) (by omega) (fun q hq => absurd hq (Nat.not_lt_zero _))
  refine ⟨w, r, hw, ew, ec, f1, ?_, f3⟩
  rw [gn_109, in_n 2 2 rfl (by decide) (by omega)]
  simp only [Option.bind_some]
  rw [if_neg (by decide)]
  exact f2
theorem pu_verify {t : Nat} {M N : im_M} (h : Rl t M N) (a : Int32) : lw_P1 Rl t M N (gn_79 a) (gn_109 a) := by
  rcases cx_ a 3 3 rfl (by decide) with ha | ⟨k, hk, rfl⟩
  · exact rd_ h (-2) (by rw [gn_79, g45o ha]; rfl) (by rw [gn_109, in_o 2 2 3 rfl rfl (by decide) ha]; rfl)
  obtain ⟨w, r, hw, ew, ec, f1, f2, f3⟩ := ver_ h hk
  refine rd_ h r ?_ f2
  rw [gn_79, g45n hk]
  simp only [Option.bind_some]
  rw [if_neg (by decide), f1]
  rfl
