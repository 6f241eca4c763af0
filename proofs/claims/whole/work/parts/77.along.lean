/-! follow: one line -/
def cs_ (k : Nat) (M : im_M) : Option (Int32 × im_M) := (gn_19 M).bind fun b3 => if b3.1 = 0 then gn_25 k b3.2 else some b3
def FE (ln : Nat) (M0 N0 : im_M) : Prop := ln ≤ 24 ∧ N0 0 16 = nI ln ∧ rl_S M0 N0 ∧ (∀ p, p < ln → ft_ N0 ln p) ∧ ∀ n, n < 8 → N0 19 n = 0 ∨ N0 19 n = 1 ∧ ∃ q, q ≤ ln ∧ N0 20 n = nI q
theorem z00 : (0 : Int32) &&& 1 = 0 := rfl
theorem z11 : (1 : Int32) &&& 1 = 1 := rfl
section AG
variable {M0 N0 M N : im_M} {ln j k B : Nat}
/-- placeOf -/
theorem g66 (hF : FE ln M0 N0) (h1 : M 1 = M0 1) (h6 : M 6 = M0 6) {n : Nat} (hn : n < 8) (e19 : N0 19 n = 1) : ∃ q, q ≤ ln ∧ N0 20 n = nI q ∧ gn_66 (nI n) M = some (nI q, M) := by
  obtain ⟨hln, el, hS, -, hlab⟩ := hF
  rcases hlab n hn with e | ⟨-, q, hq, eq⟩
  · exact absurd (e19.symm.trans e) (by decide)
  · have e6 : M 6 n = nI q := by rw [h6, hS.2.2 n hn, if_neg (by rw [e19]; decide), eq]
    have i8 := ib_n (n := 8) hn (by decide)
    refine ⟨q, hq, eq, ?_⟩
    rw [gn_66, gn_65, if_n 8 hn (by decide) rfl, if_pos i8, cl_n (by omega), e6, if_neg (n_m1 (by omega))]
    simp only [Option.bind_some]
    rw [if_neg (by decide), if_pos i8, e6]
/-- a jump: the place is q -/
theorem flp (hT : TR M0 N0 j M N) (hi : FI N0 ln M N) {q : Nat} (hq : q ≤ ln) : ∃ r M1 N1, gn_25_221 k (nI q) 0 M = some (r, M1) ∧ gn_124_452 (nI q) N = some (r, N1) ∧ TR M0 N0 (j + 1) M1 N1 ∧ (r = 0 → FI N0 ln M1 N1) := ⟨0, _, _, rfl, rfl, (TR.slot hT (Or.inl rfl) (Or.inl rfl) _ _).le (Nat.le_succ _), fun _ => FI.place hi hq⟩
/-- a place is set, and on to the next line -/
theorem flc (hT : TR M0 N0 j M N) (hi : FI N0 ln M N) {p : Nat} (en : N 0 27 = nI p) (hp : p + 1 ≤ ln) {q r0 : Nat} (hq : q < 21) (er : cq_ q = r0) {v l c n : Int32} (hc : ce_ N0 v l c n) : ∃ r M1 N1, gn_25_221 k (nI (p + 1)) 0 (im_u (im_u M 48 q v) 49 q l) = some (r, M1) ∧ gn_124_446 (im_u (im_u N 22 r0 c) 23 r0 n) = some (r, N1) ∧ TR M0 N0 (j + 1) M1 N1 ∧ (r = 0 → FI N0 ln M1 N1) := by
  subst er
  obtain ⟨r, M1, N1, a1, b1, h1, h2⟩ := flp (k := k) (TR.cell hT q (cq_ q) v l c n) (FI.cell hi hq hc) hp
  refine ⟨r, M1, N1, a1, ?_, h1, h2⟩
  rw [gn_124_446, u_j _ _ _ _ (by decide), u_j _ _ _ _ (by decide), en, nI_1]
  exact b1
set_option maxHeartbeats 4000000 in
theorem al_ (hF : FE ln M0 N0) (hk : k < 3) (hK : rl_K M0 N0 k) (hI : ri_K B N0 k) (hT : TR M0 N0 j M N) (hi : FI N0 ln M N) (hj : j < 300) : ∃ r M1 N1, cs_ k M = some (r, M1) ∧ gn_124 (nI k) N = some (r, N1) ∧ TR M0 N0 (j + 1) M1 N1 ∧ (r = 0 → FI N0 ln M1 N1) := by
  obtain ⟨p, hp, ep, en⟩ := hi.2.2.1
  obtain ⟨hln, el, hS, hft, hlab⟩ := hF
  have e16 : N 0 16 = nI ln := (hT.2.2.1 16 (by decide)).trans el
  have e5 : M 1 5 = nI ln := by rw [hT.1 1 (by decide)]; exact hS.1.trans el
  -- the ends
  have ret : ∀ r : Int32, ¬ r = 0 → ∃ r' M1 N1, some (r, M) = some (r', M1) ∧ some (r, N) = some (r', N1) ∧ TR M0 N0 (j + 1) M1 N1 ∧ (r' = 0 → FI N0 ln M1 N1) := fun r hr => ⟨r, M, N, rfl, rfl, hT.le (Nat.le_succ _), fun z => absurd z hr⟩
  by_cases hpl : p = ln
  · subst hpl
    have e60 : gn_60 (nI p) M = some (0, M) := by rw [gn_60, e5, if_neg (nI_pos (by omega)), if_pos (nI_le (Nat.le_refl _) (by omega))]
    have c : cs_ k M = some (2, M) := by
      simp (decide := true) only [cs_, gn_19, ep, gn_61, gn_62, gn_63, gn_64, e60, Option.bind_some, if_true, if_false]
    rw [c, gn_124, e16, en, if_pos (nI_le (Nat.le_refl _) (by omega))]
    exact ret 2 (by decide)
  have hlt : p < ln := by omega
  obtain ⟨x, a, b, hx, ha, hb, ex, ea, eb, hua, hub, hlb, hho⟩ := hft p hlt
  obtain ⟨s1, s2, s3, s4⟩ := hS.2.1 p (by omega)
  have e61 : gn_61 (nI p) M = some (nI x, M) := by rw [g61 e5 hln hlt, hT.1 2 (by decide), s1, ex]
  have e62 : gn_62 (nI p) M = some (nI a, M) := by rw [g62 e5 hln hlt, hT.1 3 (by decide), s2, ea]
  have e63 : gn_63 (nI p) M = some (nI b, M) := by rw [g63 e5 hln hlt, hT.1 4 (by decide), s3, eb]
  have e64 : gn_64 (nI p) M = some (N0 18 p, M) := by rw [g64 e5 hln hlt, hT.1 5 (by decide), s4]
  have f15 : N 15 p = nI x := by rw [hT.2.1 15 (by decide) (by decide)]; exact ex
  have f16 : N 16 p = nI a := by rw [hT.2.1 16 (by decide) (by decide)]; exact ea
  have f17 : N 17 p = nI b := by rw [hT.2.1 17 (by decide) (by decide)]; exact eb
  have f18 : N 18 p = N0 18 p := by rw [hT.2.1 18 (by decide) (by decide)]
  generalize N0 18 p = i at *
  have ip := ib_n (n := 24) (show p < 24 by omega) (by decide)
  have cp := cl_n (show p < 2 ^ 31 by omega)
  have ia21 := ib_n (n := 21) (show a < 21 by omega) (by decide)
  have ib21 := ib_n (n := 21) (show b < 21 by omega) (by decide)
  have ia24 := ib_n (n := 24) (show a < 24 by omega) (by decide)
  have ib24 := ib_n (n := 24) (show b < 24 by omega) (by decide)
  have ca := cl_n (show a < 2 ^ 31 by omega)
  have cb := cl_n (show b < 2 ^ 31 by omega)
  have hge : ¬ nI ln ≤ nI p := nI_ge hlt (by omega)
  have wa := fun v => g27 (show a < 21 by omega) v M
  have wr := fun v n => g122 (show a < 24 by omega) v n N
  have fla := fun (h5 : a < 5) => fun {v l c n : Int32} => flc (k := k) hT hi en (show p + 1 ≤ ln by omega) (q := a) (r0 := a) (by omega) (cq_lo h5) (v := v) (l := l) (c := c) (n := n)
  have ka := fun (h5 : a < 5) => show ce_ N0 (M 48 a) (M 49 a) (N 22 a) (N 23 a) by have := hi.2.2.2 a (by omega); rw [cq_lo h5] at this; exact this
  have kb := fun (h5 : b < 5) => show ce_ N0 (M 48 b) (M 49 b) (N 22 b) (N 23 b) by have := hi.2.2.2 b (by omega); rw [cq_lo h5] at this; exact this
  have ga := fun (h5 : a < 5) => show gn_23 (nI a) M = some (N 23 a, M) by have := g23 hi (q := a) (by omega); rw [cq_lo h5] at this; exact this
  have gb := fun (h5 : b < 5) => show gn_23 (nI b) M = some (N 23 b, M) by have := g23 hi (q := b) (by omega); rw [cq_lo h5] at this; exact this
  have nop : ∀ v : Int32, ce_ N0 v (-1) v 0 := fun v => Or.inl ⟨rfl, rfl, rfl⟩
  have eN : gn_124 (nI k) N = (if nI x = 0 then some ((2 : Int32), N) else (if nI x = (2 : Int32) then (if N 23 b = 0 then (gn_124_91 (nI k) (nI x) (nI a) (nI b) i N) else (if i = 0 then (gn_124_91 (nI k) (nI x) (nI a) (nI b) i N) else (gn_124_169 (nI k) (nI x) (nI a) (nI b) i (1 : Int32) N))) else ((gn_92 (nI x) (3 : Int32) (5 : Int32) N).bind fun b15 => if b15.1 = 0 then (if nI x = (10 : Int32) then (gn_124_116 (nI k) (nI x) (nI a) (nI b) i b15.2) else (if nI x = (11 : Int32) then (gn_124_116 (nI k) (nI x) (nI a) (nI b) i b15.2) else ((gn_92 (nI x) (6 : Int32) (9 : Int32) b15.2).bind fun b19 => if b19.1 = 0 then (gn_124_168 (nI k) (nI x) (nI a) (nI b) i b19.2) else (if st_ib (nI b) 24 then (if (b19.2 23 b) = 0 then (gn_124_168 (nI k) (nI x) (nI a) (nI b) i b19.2) else (gn_124_169 (nI k) (nI x) (nI a) (nI b) i (1 : Int32) b19.2)) else none)))) else (gn_124_116 (nI k) (nI x) (nI a) (nI b) i b15.2)))) := by
    rw [gn_124, e16, en, if_neg hge, if_pos ip, cp]
    simp only [if_pos ip, f15, f16, f17, f18, if_pos ib24, cb]
  rw [eN, cs_, gn_19, ep, e61]
  simp only [Option.bind_some, ep, e62, e63, e64]
  rcases c16 hx with rfl | rfl | rfl | rfl | rfl | rfl | rfl | rfl | rfl | rfl | rfl | rfl | rfl | rfl | rfl | rfl
  · -- TRAP
    simp (decide := true) only [if_true, if_false, Option.bind_some]
    exact ret 2 (by decide)
  · -- SET
    have a5 := hua (by decide)
    simp (decide := true) only [if_true, if_false, Option.bind_some, gn_20, gn_19_75, gn_25, ep, e61, e62, e63, e64, gn_28, gn_28_22, if_pos ia21, if_pos ib21, ca, cb, gn_148, wa, nI_1, gn_92, gn_124_168, gn_124_169, gn_124_369, if_pos ia24, if_pos ib24, gn_118, wr, gn_124_404, z00]
    exact fla a5 (nop _)
  · -- COPY
    have a5 := hua (by decide)
    have b5 := hub (by decide)
    by_cases nb : N 23 b = 0
    · have vb := ce_v (kb b5) nb
      simp (decide := true) only [if_true, if_false, Option.bind_some, gn_20, gn_20_87, gn_20_103, gn_20_109, gn_19_75, gn_25, ep, e61, e62, e63, e64, gn_28, gn_28_22, if_pos ia21, if_pos ib21, ca, cb, gn_148, wa, nI_1, gn_92, gn_124_91, gn_124_116, gn_124_135, gn_124_168, gn_124_169, gn_124_369, if_pos ia24, if_pos ib24, gn_118, wr, gn_124_404, z00, z11, gb b5, nb, vb]
      exact fla a5 (nop _)
    · obtain ⟨nb1, hm⟩ := ce_l (kb b5) nb
      by_cases i0 : i = 0
      · have kb' := kb b5
        rw [nb1] at kb'
        simp (decide := true) only [if_true, if_false, Option.bind_some, gn_20, gn_20_87, gn_20_103, gn_20_109, gn_19_75, gn_25, ep, e61, e62, e63, e64, gn_28, gn_28_22, if_pos ia21, if_pos ib21, ca, cb, gn_148, wa, nI_1, gn_92, gn_124_91, gn_124_116, gn_124_135, gn_124_168, gn_124_169, gn_124_369, if_pos ia24, if_pos ib24, gn_118, wr, gn_124_404, z00, z11, gb b5, nb1, i0, g26 (show b < 21 by omega) (show a < 21 by omega)]
        exact fla a5 kb'
      · simp (decide := true) only [if_true, if_false, Option.bind_some, gn_20, gn_20_87, gn_20_103, gn_20_109, gn_19_75, gn_25, ep, e61, e62, e63, e64, gn_28, gn_28_22, if_pos ia21, if_pos ib21, ca, cb, gn_148, wa, nI_1, gn_92, gn_124_91, gn_124_116, gn_124_135, gn_124_168, gn_124_169, gn_124_369, if_pos ia24, if_pos ib24, gn_118, wr, gn_124_404, z00, z11, gb b5, nb1, if_neg i0]
        exact ret 3 (by decide)
  · -- ADD
    have a5 := hua (by decide)
    have b5 := hub (by decide)
    by_cases na : N 23 a = 0
    · have va := ce_v (ka a5) na
      by_cases nb : N 23 b = 0
      · have vb := ce_v (kb b5) nb
        simp (decide := true) only [if_true, if_false, Option.bind_some, gn_20, gn_20_87, gn_20_103, gn_20_109, gn_19_75, gn_25, ep, e61, e62, e63, e64, gn_28, gn_28_22, if_pos ia21, if_pos ib21, ca, cb, gn_148, wa, nI_1, gn_92, gn_124_91, gn_124_116, gn_124_135, gn_124_168, gn_124_169, gn_124_369, if_pos ia24, if_pos ib24, gn_118, wr, gn_124_404, z00, z11, ga a5, gb b5, na, nb, va, vb]
        exact fla a5 (nop _)
      · have nb1 := (ce_l (kb b5) nb).1
        simp (decide := true) only [if_true, if_false, Option.bind_some, gn_20, gn_20_87, gn_20_103, gn_20_109, gn_19_75, gn_25, ep, e61, e62, e63, e64, gn_28, gn_28_22, if_pos ia21, if_pos ib21, ca, cb, gn_148, wa, nI_1, gn_92, gn_124_91, gn_124_116, gn_124_135, gn_124_168, gn_124_169, gn_124_369, if_pos ia24, if_pos ib24, gn_118, wr, gn_124_404, z00, z11, ga a5, gb b5, na, nb1]
        exact ret 3 (by decide)
    · have na1 := (ce_l (ka a5) na).1
      simp (decide := true) only [if_true, if_false, Option.bind_some, gn_20, gn_20_87, gn_20_103, gn_20_109, gn_19_75, gn_25, ep, e61, e62, e63, e64, gn_28, gn_28_22, if_pos ia21, if_pos ib21, ca, cb, gn_148, wa, nI_1, gn_92, gn_124_91, gn_124_116, gn_124_135, gn_124_168, gn_124_169, gn_124_369, if_pos ia24, if_pos ib24, gn_118, wr, gn_124_404, z00, z11, ga a5, gb b5, na1]
      exact ret 3 (by decide)
  · -- SUB
    have a5 := hua (by decide)
    have b5 := hub (by decide)
    by_cases na : N 23 a = 0
    · have va := ce_v (ka a5) na
      by_cases nb : N 23 b = 0
      · have vb := ce_v (kb b5) nb
        simp (decide := true) only [if_true, if_false, Option.bind_some, gn_20, gn_20_87, gn_20_103, gn_20_109, gn_19_75, gn_25, ep, e61, e62, e63, e64, gn_28, gn_28_22, if_pos ia21, if_pos ib21, ca, cb, gn_148, wa, nI_1, gn_92, gn_124_91, gn_124_116, gn_124_135, gn_124_168, gn_124_169, gn_124_369, if_pos ia24, if_pos ib24, gn_118, wr, gn_124_404, z00, z11, ga a5, gb b5, na, nb, va, vb]
        exact fla a5 (nop _)
      · have nb1 := (ce_l (kb b5) nb).1
        simp (decide := true) only [if_true, if_false, Option.bind_some, gn_20, gn_20_87, gn_20_103, gn_20_109, gn_19_75, gn_25, ep, e61, e62, e63, e64, gn_28, gn_28_22, if_pos ia21, if_pos ib21, ca, cb, gn_148, wa, nI_1, gn_92, gn_124_91, gn_124_116, gn_124_135, gn_124_168, gn_124_169, gn_124_369, if_pos ia24, if_pos ib24, gn_118, wr, gn_124_404, z00, z11, ga a5, gb b5, na, nb1]
        exact ret 3 (by decide)
    · have na1 := (ce_l (ka a5) na).1
      simp (decide := true) only [if_true, if_false, Option.bind_some, gn_20, gn_20_87, gn_20_103, gn_20_109, gn_19_75, gn_25, ep, e61, e62, e63, e64, gn_28, gn_28_22, if_pos ia21, if_pos ib21, ca, cb, gn_148, wa, nI_1, gn_92, gn_124_91, gn_124_116, gn_124_135, gn_124_168, gn_124_169, gn_124_369, if_pos ia24, if_pos ib24, gn_118, wr, gn_124_404, z00, z11, ga a5, gb b5, na1]
      exact ret 3 (by decide)
  · -- XOR
    have a5 := hua (by decide)
    have b5 := hub (by decide)
    by_cases na : N 23 a = 0
    · have va := ce_v (ka a5) na
      by_cases nb : N 23 b = 0
      · have vb := ce_v (kb b5) nb
        simp (decide := true) only [if_true, if_false, Option.bind_some, gn_20, gn_20_87, gn_20_103, gn_20_109, gn_19_75, gn_25, ep, e61, e62, e63, e64, gn_28, gn_28_22, if_pos ia21, if_pos ib21, ca, cb, gn_148, wa, nI_1, gn_92, gn_124_91, gn_124_116, gn_124_135, gn_124_168, gn_124_169, gn_124_369, if_pos ia24, if_pos ib24, gn_118, wr, gn_124_404, z00, z11, ga a5, gb b5, na, nb, va, vb]
        exact fla a5 (nop _)
      · have nb1 := (ce_l (kb b5) nb).1
        simp (decide := true) only [if_true, if_false, Option.bind_some, gn_20, gn_20_87, gn_20_103, gn_20_109, gn_19_75, gn_25, ep, e61, e62, e63, e64, gn_28, gn_28_22, if_pos ia21, if_pos ib21, ca, cb, gn_148, wa, nI_1, gn_92, gn_124_91, gn_124_116, gn_124_135, gn_124_168, gn_124_169, gn_124_369, if_pos ia24, if_pos ib24, gn_118, wr, gn_124_404, z00, z11, ga a5, gb b5, na, nb1]
        exact ret 3 (by decide)
    · have na1 := (ce_l (ka a5) na).1
      simp (decide := true) only [if_true, if_false, Option.bind_some, gn_20, gn_20_87, gn_20_103, gn_20_109, gn_19_75, gn_25, ep, e61, e62, e63, e64, gn_28, gn_28_22, if_pos ia21, if_pos ib21, ca, cb, gn_148, wa, nI_1, gn_92, gn_124_91, gn_124_116, gn_124_135, gn_124_168, gn_124_169, gn_124_369, if_pos ia24, if_pos ib24, gn_118, wr, gn_124_404, z00, z11, ga a5, gb b5, na1]
      exact ret 3 (by decide)
  · -- AND
    have a5 := hua (by decide)
    have b5 := hub (by decide)
    by_cases nb : N 23 b = 0
    · have vb := ce_v (kb b5) nb
      simp (decide := true) only [if_true, if_false, Option.bind_some, gn_20, gn_20_87, gn_20_103, gn_20_109, gn_19_75, gn_25, ep, e61, e62, e63, e64, gn_28, gn_28_22, if_pos ia21, if_pos ib21, ca, cb, gn_148, wa, nI_1, gn_92, gn_124_91, gn_124_116, gn_124_135, gn_124_168, gn_124_169, gn_124_369, if_pos ia24, if_pos ib24, gn_118, wr, gn_124_404, z00, z11, gb b5, nb, vb]
      exact fla a5 (nop _)
    · have nb1 := (ce_l (kb b5) nb).1
      simp (decide := true) only [if_true, if_false, Option.bind_some, gn_20, gn_20_87, gn_20_103, gn_20_109, gn_19_75, gn_25, ep, e61, e62, e63, e64, gn_28, gn_28_22, if_pos ia21, if_pos ib21, ca, cb, gn_148, wa, nI_1, gn_92, gn_124_91, gn_124_116, gn_124_135, gn_124_168, gn_124_169, gn_124_369, if_pos ia24, if_pos ib24, gn_118, wr, gn_124_404, z00, z11, gb b5, nb1]
      exact ret 3 (by decide)
  · -- OR
    have a5 := hua (by decide)
    have b5 := hub (by decide)
    by_cases nb : N 23 b = 0
    · have vb := ce_v (kb b5) nb
      simp (decide := true) only [if_true, if_false, Option.bind_some, gn_20, gn_20_87, gn_20_103, gn_20_109, gn_19_75, gn_25, ep, e61, e62, e63, e64, gn_28, gn_28_22, if_pos ia21, if_pos ib21, ca, cb, gn_148, wa, nI_1, gn_92, gn_124_91, gn_124_116, gn_124_135, gn_124_168, gn_124_169, gn_124_369, if_pos ia24, if_pos ib24, gn_118, wr, gn_124_404, z00, z11, gb b5, nb, vb]
      exact fla a5 (nop _)
    · have nb1 := (ce_l (kb b5) nb).1
      simp (decide := true) only [if_true, if_false, Option.bind_some, gn_20, gn_20_87, gn_20_103, gn_20_109, gn_19_75, gn_25, ep, e61, e62, e63, e64, gn_28, gn_28_22, if_pos ia21, if_pos ib21, ca, cb, gn_148, wa, nI_1, gn_92, gn_124_91, gn_124_116, gn_124_135, gn_124_168, gn_124_169, gn_124_369, if_pos ia24, if_pos ib24, gn_118, wr, gn_124_404, z00, z11, gb b5, nb1]
      exact ret 3 (by decide)
  · -- LOAD
    have a5 := hua (by decide)
    have b5 := hub (by decide)
    by_cases nb : N 23 b = 0
    · have vb := ce_v (kb b5) nb
      rcases cx_ (N 22 b + i) 16 16 rfl (by decide) with ho | ⟨y, hy, ey⟩
      · have e24 : gn_24 (N 22 b + i) M = some (0, M) := by rw [gn_24, if_o ho]
        have e92 : gn_92 (N 22 b + i) 0 15 N = some (0, N) := in_o 15 15 16 rfl rfl (by decide) ho
        simp (decide := true) only [if_true, if_false, Option.bind_some, gn_20, gn_20_109, gn_19_75, gn_19_87, if_pos ib21, cb, gb b5, nb, vb, z00, e24, gn_124_168, gn_124_169, gn_124_238, if_pos ib24, e92, show gn_92 (nI 8) 3 5 N = some (0, N) from rfl, show gn_92 (nI 8) 6 9 N = some (1, N) from rfl]
        exact ret 5 (by decide)
      · have hq21 : 5 + y < 21 := by omega
        have e24 : gn_24 (nI y) M = some (1, M) := by rw [gn_24, if_n 16 hy (by decide) rfl]
        have e92 : gn_92 (nI y) 0 15 N = some (1, N) := in_n 15 15 rfl (by decide) (by omega)
        have a5y : (5 : Int32) + N 22 b + i = nI (5 + y) := by rw [Int32.add_assoc, ey]; exact nI_add 5 y
        have a8y : (8 : Int32) + nI y = nI (8 + y) := nI_add 8 y
        have i8y := ib_n (n := 24) (show 8 + y < 24 by omega) (by decide)
        have ky := hi.2.2.2 (5 + y) hq21
        rw [cq_hi] at ky
        simp (decide := true) only [if_true, if_false, Option.bind_some, gn_20, gn_20_109, gn_19_75, gn_19_87, if_pos ib21, cb, gb b5, nb, vb, z00, ey, e24, gn_25, ep, e61, e62, e63, e64, nI_1, a5y, g26 hq21 (show a < 21 by omega), gn_124_168, gn_124_169, gn_124_238, if_pos ib24, if_pos ia24, ca, e92, show gn_92 (nI 8) 3 5 N = some (0, N) from rfl, show gn_92 (nI 8) 6 9 N = some (1, N) from rfl, a8y, if_pos i8y, cl_n (show 8 + y < 2 ^ 31 by omega), wr, z1 (N 23 (8 + y)) (ce_n ky), gn_124_318, gn_124_404, show ∀ X, gn_92 (nI 8) 10 12 X = some (0, X) from fun _ => rfl]
        exact fla a5 (show ce_ N0 (M 48 (5 + y)) (M 49 (5 + y)) (N 22 (8 + y)) (N 23 (8 + y)) from ky)
    · have nb1 := (ce_l (kb b5) nb).1
      simp (decide := true) only [if_true, if_false, Option.bind_some, gn_20, gn_20_87, gn_20_103, gn_20_109, gn_19_75, gn_25, ep, e61, e62, e63, e64, gn_28, gn_28_22, if_pos ia21, if_pos ib21, ca, cb, gn_148, wa, nI_1, gn_92, gn_124_91, gn_124_116, gn_124_135, gn_124_168, gn_124_169, gn_124_369, if_pos ia24, if_pos ib24, gn_118, wr, gn_124_404, z00, z11, gb b5, nb1]
      exact ret 3 (by decide)
  · -- STORE
    have a5 := hua (by decide)
    have b5 := hub (by decide)
    by_cases nb : N 23 b = 0
    · have vb := ce_v (kb b5) nb
      rcases cx_ (N 22 b + i) 16 16 rfl (by decide) with ho | ⟨y, hy, ey⟩
      · have e24 : gn_24 (N 22 b + i) M = some (0, M) := by rw [gn_24, if_o ho]
        have e92 : gn_92 (N 22 b + i) 0 15 N = some (0, N) := in_o 15 15 16 rfl rfl (by decide) ho
        simp (decide := true) only [if_true, if_false, Option.bind_some, gn_20, gn_20_109, gn_19_75, gn_19_87, if_pos ib21, cb, gb b5, nb, vb, z00, e24, gn_124_168, gn_124_169, gn_124_238, if_pos ib24, e92, show gn_92 (nI 9) 3 5 N = some (0, N) from rfl, show gn_92 (nI 9) 6 9 N = some (1, N) from rfl]
        exact ret 5 (by decide)
      · have hq21 : 5 + y < 21 := by omega
        have e24 : gn_24 (nI y) M = some (1, M) := by rw [gn_24, if_n 16 hy (by decide) rfl]
        have e92 : gn_92 (nI y) 0 15 N = some (1, N) := in_n 15 15 rfl (by decide) (by omega)
        have a5y : (5 : Int32) + N 22 b + i = nI (5 + y) := by rw [Int32.add_assoc, ey]; exact nI_add 5 y
        have a8y : (8 : Int32) + nI y = nI (8 + y) := nI_add 8 y
        have i8y := ib_n (n := 24) (show 8 + y < 24 by omega) (by decide)
        have ky := hi.2.2.2 (5 + y) hq21
        rw [cq_hi] at ky
        simp (decide := true) only [if_true, if_false, Option.bind_some, gn_20, gn_20_109, gn_19_75, gn_19_87, if_pos ib21, cb, gb b5, nb, vb, z00, ey, e24, gn_25, ep, e61, e62, e63, e64, nI_1, a5y, g26 (show a < 21 by omega) hq21, gn_124_168, gn_124_169, gn_124_238, if_pos ib24, if_pos ia24, ca, e92, show gn_92 (nI 9) 3 5 N = some (0, N) from rfl, show gn_92 (nI 9) 6 9 N = some (1, N) from rfl, a8y, if_pos i8y, cl_n (show 8 + y < 2 ^ 31 by omega), wr, z1 (N 23 a) (ce_n (ka a5)), g122 (show 8 + y < 24 by omega), gn_124_318, gn_124_404, show ∀ X, gn_92 (nI 9) 10 12 X = some (0, X) from fun _ => rfl]
        exact flc (k := k) hT hi en (show p + 1 ≤ ln by omega) hq21 (cq_hi y) (ka a5)
    · have nb1 := (ce_l (kb b5) nb).1
      simp (decide := true) only [if_true, if_false, Option.bind_some, gn_20, gn_20_87, gn_20_103, gn_20_109, gn_19_75, gn_25, ep, e61, e62, e63, e64, gn_28, gn_28_22, if_pos ia21, if_pos ib21, ca, cb, gn_148, wa, nI_1, gn_92, gn_124_91, gn_124_116, gn_124_135, gn_124_168, gn_124_169, gn_124_369, if_pos ia24, if_pos ib24, gn_118, wr, gn_124_404, z00, z11, gb b5, nb1]
      exact ret 3 (by decide)
  · -- BEQ
    have a5 := hua (by decide)
    have b5 := hub (by decide)
    by_cases na : N 23 a = 0
    · have va := ce_v (ka a5) na
      by_cases nb : N 23 b = 0
      · have vb := ce_v (kb b5) nb
        obtain ⟨n, q, hn, ei, e19, hq, e20⟩ := hlb (by decide)
        obtain ⟨q', hq', e20', e66⟩ := g66 (M := M) ⟨hln, el, hS, hft, hlab⟩ (hT.1 1 (by decide)) (hT.1 6 (by decide)) hn e19
        have f20 : N 20 n = nI q' := by rw [hT.2.1 20 (by decide) (by decide)]; exact e20'
        obtain ⟨g, g1, g2⟩ := g149 (x := 10) (by decide) (N 22 a) (N 22 b) M N
        have g1' : gn_149 (nI 10) (M 48 a) (M 48 b) M = some (g, M) := by rw [va, vb]; exact g1
        have in8 := ib_n (n := 8) hn (by decide)
        subst ei
        simp (decide := true) only [if_true, if_false, Option.bind_some, gn_20, gn_20_87, gn_20_103, gn_19_75, gn_25, ep, e61, e62, e63, e64, nI_1, gn_25_138, if_pos ia21, if_pos ib21, ca, cb, ga a5, gb b5, na, nb, g1', gn_92, gn_124_116, gn_124_135, gn_124_168, gn_124_169, gn_124_369, if_pos ia24, if_pos ib24, gn_124_404, g2]
        by_cases g0 : g = 0
        · rw [if_pos g0, if_pos g0, gn_124_446, en, nI_1]
          exact flp (k := k) hT hi (show p + 1 ≤ ln by omega)
        · rw [if_neg g0, if_neg g0, e66, if_pos in8, cl_n (show n < 2 ^ 31 by omega), f20]
          exact flp (k := k) hT hi hq'
      · have nb1 := (ce_l (kb b5) nb).1
        simp (decide := true) only [if_true, if_false, Option.bind_some, gn_20, gn_20_87, gn_20_103, gn_20_109, gn_19_75, gn_25, ep, e61, e62, e63, e64, gn_28, gn_28_22, if_pos ia21, if_pos ib21, ca, cb, gn_148, wa, nI_1, gn_92, gn_124_91, gn_124_116, gn_124_135, gn_124_168, gn_124_169, gn_124_369, if_pos ia24, if_pos ib24, gn_118, wr, gn_124_404, z00, z11, ga a5, gb b5, na, nb1]
        exact ret 3 (by decide)
    · have na1 := (ce_l (ka a5) na).1
      simp (decide := true) only [if_true, if_false, Option.bind_some, gn_20, gn_20_87, gn_20_103, gn_20_109, gn_19_75, gn_25, ep, e61, e62, e63, e64, gn_28, gn_28_22, if_pos ia21, if_pos ib21, ca, cb, gn_148, wa, nI_1, gn_92, gn_124_91, gn_124_116, gn_124_135, gn_124_168, gn_124_169, gn_124_369, if_pos ia24, if_pos ib24, gn_118, wr, gn_124_404, z00, z11, ga a5, gb b5, na1]
      exact ret 3 (by decide)
  · -- BLT
    have a5 := hua (by decide)
    have b5 := hub (by decide)
    by_cases na : N 23 a = 0
    · have va := ce_v (ka a5) na
      by_cases nb : N 23 b = 0
      · have vb := ce_v (kb b5) nb
        obtain ⟨n, q, hn, ei, e19, hq, e20⟩ := hlb (by decide)
        obtain ⟨q', hq', e20', e66⟩ := g66 (M := M) ⟨hln, el, hS, hft, hlab⟩ (hT.1 1 (by decide)) (hT.1 6 (by decide)) hn e19
        have f20 : N 20 n = nI q' := by rw [hT.2.1 20 (by decide) (by decide)]; exact e20'
        obtain ⟨g, g1, g2⟩ := g149 (x := 11) (by decide) (N 22 a) (N 22 b) M N
        have g1' : gn_149 (nI 11) (M 48 a) (M 48 b) M = some (g, M) := by rw [va, vb]; exact g1
        have in8 := ib_n (n := 8) hn (by decide)
        subst ei
        simp (decide := true) only [if_true, if_false, Option.bind_some, gn_20, gn_20_87, gn_20_103, gn_19_75, gn_25, ep, e61, e62, e63, e64, nI_1, gn_25_138, if_pos ia21, if_pos ib21, ca, cb, ga a5, gb b5, na, nb, g1', gn_92, gn_124_116, gn_124_135, gn_124_168, gn_124_169, gn_124_369, if_pos ia24, if_pos ib24, gn_124_404, g2]
        by_cases g0 : g = 0
        · rw [if_pos g0, if_pos g0, gn_124_446, en, nI_1]
          exact flp (k := k) hT hi (show p + 1 ≤ ln by omega)
        · rw [if_neg g0, if_neg g0, e66, if_pos in8, cl_n (show n < 2 ^ 31 by omega), f20]
          exact flp (k := k) hT hi hq'
      · have nb1 := (ce_l (kb b5) nb).1
        simp (decide := true) only [if_true, if_false, Option.bind_some, gn_20, gn_20_87, gn_20_103, gn_20_109, gn_19_75, gn_25, ep, e61, e62, e63, e64, gn_28, gn_28_22, if_pos ia21, if_pos ib21, ca, cb, gn_148, wa, nI_1, gn_92, gn_124_91, gn_124_116, gn_124_135, gn_124_168, gn_124_169, gn_124_369, if_pos ia24, if_pos ib24, gn_118, wr, gn_124_404, z00, z11, ga a5, gb b5, na, nb1]
        exact ret 3 (by decide)
    · have na1 := (ce_l (ka a5) na).1
      simp (decide := true) only [if_true, if_false, Option.bind_some, gn_20, gn_20_87, gn_20_103, gn_20_109, gn_19_75, gn_25, ep, e61, e62, e63, e64, gn_28, gn_28_22, if_pos ia21, if_pos ib21, ca, cb, gn_148, wa, nI_1, gn_92, gn_124_91, gn_124_116, gn_124_135, gn_124_168, gn_124_169, gn_124_369, if_pos ia24, if_pos ib24, gn_118, wr, gn_124_404, z00, z11, ga a5, gb b5, na1]
      exact ret 3 (by decide)
  · -- GO
    obtain ⟨n, q, hn, ei, e19, hq, e20⟩ := hlb (by decide)
    obtain ⟨q', hq', e20', e66⟩ := g66 (M := M) ⟨hln, el, hS, hft, hlab⟩ (hT.1 1 (by decide)) (hT.1 6 (by decide)) hn e19
    have f20 : N 20 n = nI q' := by rw [hT.2.1 20 (by decide) (by decide)]; exact e20'
    have g2 : gn_117 (nI 12) (N 22 a) (N 22 b) N = some (1, N) := rfl
    have g1' : gn_149 (nI 12) (M 48 a) (M 48 b) M = some (1, M) := rfl
    have in8 := ib_n (n := 8) hn (by decide)
    subst ei
    simp (decide := true) only [if_true, if_false, Option.bind_some, gn_20, gn_20_87, gn_20_103, gn_19_75, gn_25, ep, e61, e62, e63, e64, nI_1, gn_25_138, if_pos ia21, if_pos ib21, ca, cb, g1', gn_92, gn_124_116, gn_124_135, gn_124_168, gn_124_169, gn_124_369, if_pos ia24, if_pos ib24, gn_124_404, g2]
    rw [e66, if_pos in8, cl_n (show n < 2 ^ 31 by omega), f20]
    exact flp (k := k) hT hi hq'
  · -- JUMP
    have a5 := hua (by decide)
    by_cases na : N 23 a = 0
    · simp (decide := true) only [if_true, if_false, Option.bind_some, gn_20, gn_20_87, gn_20_103, gn_20_109, gn_19_75, gn_25, ep, e61, e62, e63, e64, gn_28, gn_28_22, if_pos ia21, if_pos ib21, ca, cb, gn_148, wa, nI_1, gn_92, gn_124_91, gn_124_116, gn_124_135, gn_124_168, gn_124_169, gn_124_369, if_pos ia24, if_pos ib24, gn_118, wr, gn_124_404, z00, z11, ga a5, na]
      exact ret 4 (by decide)
    · obtain ⟨na1, m, hm, elm, ecm, e19⟩ := ce_l (ka a5) na
      obtain ⟨q, hq, e20, e66⟩ := g66 (M := M) ⟨hln, el, hS, hft, hlab⟩ (hT.1 1 (by decide)) (hT.1 6 (by decide)) hm e19
      have f20 : N 20 m = nI q := by rw [hT.2.1 20 (by decide) (by decide)]; exact e20
      have im8 := ib_n (n := 8) hm (by decide)
      simp (decide := true) only [if_true, if_false, Option.bind_some, gn_20, gn_20_87, gn_20_103, gn_20_109, gn_19_75, gn_25, ep, e61, e62, e63, e64, gn_28, gn_28_22, if_pos ia21, if_pos ib21, ca, cb, gn_148, wa, nI_1, gn_92, gn_124_91, gn_124_116, gn_124_135, gn_124_168, gn_124_169, gn_124_369, if_pos ia24, if_pos ib24, gn_118, wr, gn_124_404, z00, z11, ga a5, na1, elm, ecm, e66, if_pos im8, cl_n (show m < 2 ^ 31 by omega), f20]
      exact flp (k := k) hT hi hq
  · -- HOST
    obtain ⟨v, hv, ev⟩ := hho (by decide)
    subst ev
    obtain ⟨t, k1, k2⟩ := ask_ hk hK hI hT hi hj en (show p + 1 ≤ ln by omega) hv
    rcases k2 with ⟨rfl, k2⟩ | ⟨rfl, r, M1, N1, k2, k3, k4, k5⟩
    · simp (decide := true) only [if_true, if_false, Option.bind_some, gn_20, gn_20_87, gn_20_103, gn_20_109, gn_19_75, gn_25, ep, e61, e62, e63, e64, gn_28, gn_28_22, if_pos ia21, if_pos ib21, ca, cb, gn_148, wa, nI_1, gn_92, gn_124_91, gn_124_116, gn_124_135, gn_124_168, gn_124_169, gn_124_369, if_pos ia24, if_pos ib24, gn_118, wr, gn_124_404, z00, z11, k1, k2]
      exact ret 3 (by decide)
    · simp (decide := true) only [if_true, if_false, Option.bind_some, gn_20, gn_20_87, gn_20_103, gn_20_109, gn_19_75, gn_25, ep, e61, e62, e63, e64, gn_28, gn_28_22, if_pos ia21, if_pos ib21, ca, cb, gn_148, wa, nI_1, gn_92, gn_124_91, gn_124_116, gn_124_135, gn_124_168, gn_124_169, gn_124_369, if_pos ia24, if_pos ib24, gn_118, wr, gn_124_404, z00, z11, k1, k2, k3]
      exact ⟨r, _, N1, rfl, rfl, k4, k5⟩
  · -- LABEL
    have a5 := hua (by decide)
    obtain ⟨n, q, hn, ei, e19, hq, e20⟩ := hlb (by decide)
    simp (decide := true) only [if_true, if_false, Option.bind_some, gn_20, gn_20_87, gn_20_103, gn_20_109, gn_19_75, gn_25, ep, e61, e62, e63, e64, gn_28, gn_28_22, if_pos ia21, if_pos ib21, ca, cb, gn_148, wa, nI_1, gn_92, gn_124_91, gn_124_116, gn_124_135, gn_124_168, gn_124_169, gn_124_369, if_pos ia24, if_pos ib24, gn_118, wr, gn_124_404, z00, z11]
    have := fla a5 (v := M 48 a) (l := i) (c := i) (n := 1) (Or.inr ⟨rfl, n, hn, ei, ei, e19⟩)
    rw [u_id] at this
    exact this
end AG
