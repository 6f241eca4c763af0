/-! rewrite -/
theorem jn_ (o a b i : Int32) : ((((i <<< ((10 : Int32) &&& 31)) ||| (b <<< ((7 : Int32) &&& 31))) ||| (a <<< ((4 : Int32) &&& 31))) ||| o) = wd_j o a b i := by
  unfold wd_j
  ac_rfl
theorem g147 (o a b i : Int32) (M : im_M) : gn_147 o a b i M = some (wd_j o a b i, M) := by
  rw [gn_147, jn_]
theorem g99 (o a b i : Int32) (N : im_M) : gn_99 o a b i N = some (wd_j o a b i, N) := rfl
theorem i_sub (a b c : Int32) : a - (b + c) = a - b - c := by
  apply Int32.toBitVec_inj.mp
  simp only [Int32.toBitVec_sub, Int32.toBitVec_add]
  bv_omega
/-- while words are added: all but the module is as it was -/
def iv_ (M0 N0 : im_M) (w : Nat) (M N : im_M) : Prop := (∀ j, j ≠ 7 → j ≠ 8 → M j = M0 j) ∧ (∀ j, j ≠ 0 → j ≠ 21 → N j = N0 j) ∧ (∀ i, i ≠ 23 → N 0 i = N0 0 i) ∧ M 7 1 = nI w ∧ N 0 23 = nI w ∧ ∀ p, p < 31 → M 8 p = N 21 p
theorem ad_ {M0 N0 M N : im_M} {w : Nat} (h : iv_ M0 N0 w M N) (hw : w < 31) (v : Int32) : ∃ M1 N1, gn_6 v M = some (1, M1) ∧ gn_100 v N = some N1 ∧ iv_ M0 N0 (w + 1) M1 N1 := by
  obtain ⟨h1, h2, h3, ec, ew, h6⟩ := h
  refine ⟨im_u (im_u M 8 w v) 7 1 (nI (w + 1)), im_u (im_u N 21 w v) 0 23 (nI (w + 1)), ?_, ?_, fun j a b => ?_, fun j a b => ?_, fun i a => ?_, u_s _ _ _ _, u_s _ _ _ _, fun p hp => ?_⟩
  · rw [gn_6, ec, if_pos (n_lt (c := 31) hw (by decide) rfl), if_pos (ib_n hw (by decide)), cl_n (by omega)]
    simp only [u_j M 8 w v (show 7 ≠ 8 by decide), ec, nI_1]
  · rw [gn_100, ew, if_pos (ib_n hw (by decide)), cl_n (by omega)]
    simp only [u_j N 21 w v (show 0 ≠ 21 by decide), ew, nI_1]
  · rw [u_j _ _ _ _ a, u_j _ _ _ _ b]; exact h1 j a b
  · rw [u_j _ _ _ _ a, u_j _ _ _ _ b]; exact h2 j a b
  · rw [u_k _ _ _ _ a, u_j _ _ _ _ (by decide)]; exact h3 i a
  · rw [u_j _ 7 _ _ (by decide), u_j _ 0 _ _ (by decide), u_i, u_i, h6 p hp]
theorem wb_cg {N N' : im_M} (h : N' 15 = N 15) (p : Nat) : wb_ N' p = wb_ N p := by
  induction p with
  | zero => rfl
  | succ p ih =>
    show wb_ N' p + sz_ (N' 15 p) = wb_ N p + sz_ (N 15 p)
    rw [ih, h]
theorem wb_mono (N : im_M) {p q : Nat} (h : p ≤ q) : wb_ N p ≤ wb_ N q := by
  induction q with
  | zero => rw [Nat.le_zero.mp h]; exact Nat.le_refl _
  | succ q ih =>
    by_cases e : p = q + 1
    · rw [e]; exact Nat.le_refl _
    · exact Nat.le_trans (ih (by omega)) (Nat.le_add_right _ _)
set_option maxHeartbeats 4000000 in
theorem ln_ {M0 N0 M N : im_M} {w ln p k : Nat} (hS : rl_S M0 N0) (hln : ln ≤ 24) (el : N0 0 16 = nI ln) (hp : p < ln) (hft : ft_ N0 ln p) (hlab : ∀ n, n < 8 → N0 19 n = 0 ∨ N0 19 n = 1 ∧ ∃ q, q ≤ ln ∧ N0 20 n = nI q) (h : iv_ M0 N0 w M N) (hw : w + sz_ (N0 15 p) ≤ 30) :
    ∃ M1 N1, gn_134 (nI p) (nI k) M = some M1 ∧ gn_103 (nI p) (nI k) N = some N1 ∧ iv_ M0 N0 (w + sz_ (N0 15 p)) M1 N1 := by
  obtain ⟨x, a, b, hx, ha, hb, ex, ea, eb, ua, ub, hl, hh⟩ := hft
  have e1 : M 1 = M0 1 := h.1 1 (by decide) (by decide)
  have e5 : M 1 5 = nI ln := by rw [e1]; exact hS.1.trans el
  have o2 : ∀ q, q < 24 → M 2 q = N 15 q := fun q hq => by rw [h.1 2 (by decide) (by decide), h.2.1 15 (by decide) (by decide)]; exact (hS.2.1 q hq).1
  obtain ⟨s1, s2, s3, s4⟩ := hS.2.1 p (by omega)
  have h61 : gn_61 (nI p) M = some (nI x, M) := by rw [g61 e5 hln hp, h.1 2 (by decide) (by decide), s1, ex]
  have h62 : gn_62 (nI p) M = some (nI a, M) := by rw [g62 e5 hln hp, h.1 3 (by decide) (by decide), s2, ea]
  have h63 : gn_63 (nI p) M = some (nI b, M) := by rw [g63 e5 hln hp, h.1 4 (by decide) (by decide), s3, eb]
  have h64 : gn_64 (nI p) M = some (N0 18 p, M) := by rw [g64 e5 hln hp, h.1 5 (by decide) (by decide), s4]
  have hib := ib_n (n := 24) (show p < 24 by omega) (by decide)
  have n15 : N 15 p = nI x := by rw [h.2.1 15 (by decide) (by decide)]; exact ex
  have n16 : N 16 p = nI a := by rw [h.2.1 16 (by decide) (by decide)]; exact ea
  have n17 : N 17 p = nI b := by rw [h.2.1 17 (by decide) (by decide)]; exact eb
  have n18 : N 18 p = N0 18 p := by rw [h.2.1 18 (by decide) (by decide)]
  have eN : gn_103 (nI p) (nI k) N = (if nI x = (8 : Int32) then (gn_103_43 (nI k) (nI x) (nI a) (nI b) (N0 18 p) N) else (if nI x = (9 : Int32) then (gn_103_43 (nI k) (nI x) (nI a) (nI b) (N0 18 p) N) else (if nI x = (13 : Int32) then ((gn_99 (6 : Int32) (7 : Int32) (nI a) (31 : Int32) N).bind fun b12 => (gn_100 b12.1 b12.2).bind fun b13 => (gn_99 (7 : Int32) (7 : Int32) (7 : Int32) ((64 : Int32) + ((32 : Int32) * nI k)) b13).bind fun b14 => (gn_100 b14.1 b14.2).bind fun b15 => (gn_99 (13 : Int32) (7 : Int32) (0 : Int32) (0 : Int32) b15).bind fun b16 => (gn_100 b16.1 b16.2).bind fun b17 => some b17) else (if nI x = (15 : Int32) then ((gn_101 (N0 18 p) N).bind fun b19 => (gn_99 (1 : Int32) (nI a) (0 : Int32) (((64 : Int32) + ((32 : Int32) * nI k)) + b19.1) b19.2).bind fun b20 => (gn_100 b20.1 b20.2).bind fun b21 => some b21) else ((gn_92 (nI x) (10 : Int32) (12 : Int32) N).bind fun b22 => if b22.1 = 0 then (if nI x = 0 then ((gn_100 (0 : Int32) b22.2).bind fun b25 => some b25) else (if nI x = (14 : Int32) then ((gn_99 (14 : Int32) (0 : Int32) (0 : Int32) (N0 18 p) b22.2).bind fun b27 => (gn_100 b27.1 b27.2).bind fun b28 => some b28) else (if nI x = (1 : Int32) then ((gn_99 (1 : Int32) (nI a) (0 : Int32) (N0 18 p) b22.2).bind fun b30 => (gn_100 b30.1 b30.2).bind fun b31 => some b31) else ((gn_92 (nI x) (3 : Int32) (5 : Int32) b22.2).bind fun b32 => if b32.1 = 0 then (gn_103_335 (N0 18 p) (nI b) (nI a) (nI x) b32.2) else (gn_103_335 (0 : Int32) (nI b) (nI a) (nI x) b32.2))))) else ((gn_101 (N0 18 p) b22.2).bind fun b34 => let v35 : Int32 := ((b34.1 - (b34.2 0 23)) - (1 : Int32)); if nI x = (12 : Int32) then ((gn_99 (12 : Int32) (0 : Int32) (0 : Int32) v35 b34.2).bind fun b37 => gn_103_253 b37.1 b37.2) else ((gn_99 (nI x) (nI a) (nI b) v35 b34.2).bind fun b38 => gn_103_253 b38.1 b38.2))))))) := by
    rw [gn_103, if_pos hib, cl_n (by omega), n15]
    simp only [if_pos hib, n16, n17, n18]
  rw [eN, gn_134, h61]
  simp only [Option.bind_some, h62, h63, h64]
  rw [ex] at hw ⊢
  -- one word alike on both sides
  have one : ∀ v : Int32, ∃ M1 N1, gn_6 v M = some (1, M1) ∧ gn_100 v N = some N1 ∧ iv_ M0 N0 (w + 1) M1 N1 := fun v => ad_ h (by have : 1 ≤ sz_ (nI x) := (by unfold sz_; repeat (first | omega | split)); omega) v
  -- the label's place in words, on both sides
  have lab : (x = 10 ∨ x = 11 ∨ x = 12 ∨ x = 15) → ∃ q, gn_136 (N0 18 p) M = some (nI (wb_ N0 q), M) ∧ gn_101 (N0 18 p) N = some (nI (wb_ N0 q), N) := by
    intro hx4
    obtain ⟨n, q, hn, en, e19, hq, e20⟩ := hl hx4
    refine ⟨q, ?_, ?_⟩
    · have h6 : M 6 n = nI q := by rw [h.1 6 (by decide) (by decide), hS.2.2 n hn, if_neg (by rw [e19]; decide), e20]
      have h65 : gn_65 (nI n) M = some (1, M) := by
        rw [gn_65, if_n 8 hn (by decide) rfl, if_pos (ib_n hn (by decide)), cl_n (by omega), h6, if_neg (n_m1 (by omega))]
      have h66 : gn_66 (nI n) M = some (nI q, M) := by
        rw [gn_66, h65]
        simp only [Option.bind_some]
        rw [if_neg (by decide), if_pos (ib_n hn (by decide)), cl_n (by omega), h6]
      rw [gn_136, en, h66]
      simp only [Option.bind_some]
      rw [g68' (N := N) hln e5 o2 hq, wb_cg (h.2.1 15 (by decide) (by decide))]
      rfl
    · rw [gn_101, en, if_pos (ib_n hn (by decide)), cl_n (by omega), h.2.1 20 (by decide) (by decide), e20, g96' (by omega), wb_cg (h.2.1 15 (by decide) (by decide))]
      rfl
  have hcnt : gn_7 M = some (nI w, M) := by rw [gn_7, h.2.2.2.1]
  have hwd : N 0 23 = nI w := h.2.2.2.2.1
  by_cases h89 : x = 8 ∨ x = 9
  · have hs4 : sz_ (nI x) = 4 := by rcases h89 with rfl | rfl <;> rfl
    rw [hs4] at hw ⊢
    obtain ⟨M1, N1, a1, b1, i1⟩ := ad_ h (by omega) (wd_j 2 5 (nI b) (N0 18 p))
    obtain ⟨M2, N2, a2, b2, i2⟩ := ad_ i1 (by omega) (wd_j 6 6 5 15)
    obtain ⟨M3, N3, a3, b3, i3⟩ := ad_ i2 (by omega) (wd_j 7 6 6 (16 * nI k))
    obtain ⟨M4, N4, a4, b4, i4⟩ := ad_ i3 (by omega) (wd_j (nI x) (nI a) 6 0)
    refine ⟨M4, N4, ?_, ?_, i4⟩
    · have : gn_134_76 (nI k) (nI x) (nI a) (nI b) (N0 18 p) M = some M4 := by
        simp only [gn_134_76, g147, a1, a2, a3, a4, gn_46, gn_135, Option.bind_some]
      rcases h89 with rfl | rfl <;> simp (decide := true) only [if_true, if_false, this]
    · have : gn_103_43 (nI k) (nI x) (nI a) (nI b) (N0 18 p) N = some N4 := by
        simp only [gn_103_43, g99, b1, b2, b3, b4, Option.bind_some]
      rcases h89 with rfl | rfl <;> simp (decide := true) only [if_true, if_false, this]
  by_cases h13 : x = 13
  · subst h13
    have hs4 : sz_ (nI 13) = 3 := rfl
    rw [hs4] at hw ⊢
    obtain ⟨M1, N1, a1, b1, i1⟩ := ad_ h (by omega) (wd_j 6 7 (nI a) 31)
    obtain ⟨M2, N2, a2, b2, i2⟩ := ad_ i1 (by omega) (wd_j 7 7 7 (64 + 32 * nI k))
    obtain ⟨M3, N3, a3, b3, i3⟩ := ad_ i2 (by omega) (wd_j 13 7 0 0)
    refine ⟨M3, N3, ?_, ?_, i3⟩
    · simp (decide := true) only [if_true, if_false, gn_47, gn_135, g147, a1, a2, Option.bind_some, show nI 13 = (13 : Int32) from rfl, a3]
    · simp (decide := true) only [if_true, if_false, g99, b1, b2, b3, Option.bind_some]
  have hs1 : sz_ (nI x) = 1 := by
    unfold sz_
    rw [if_neg, if_neg, if_neg]
    · intro e; exact h13 ((nI_eq (by omega) (by decide)).mp (e.trans (show (13 : Int32) = nI 13 from rfl)))
    · intro e; exact h89 (Or.inr ((nI_eq (by omega) (by decide)).mp (e.trans (show (9 : Int32) = nI 9 from rfl))))
    · intro e; exact h89 (Or.inl ((nI_eq (by omega) (by decide)).mp (e.trans (show (8 : Int32) = nI 8 from rfl))))
  rw [hs1]
  by_cases h15 : x = 15
  · subst h15
    obtain ⟨q, g1, g2⟩ := lab (by omega)
    obtain ⟨M1, N1, a1, b1, i1⟩ := one (wd_j 1 (nI a) 0 ((64 + 32 * nI k) + nI (wb_ N0 q)))
    refine ⟨M1, N1, ?_, ?_, i1⟩
    · simp (decide := true) only [if_true, if_false, gn_47, g1, g147, a1, Option.bind_some]
    · simp (decide := true) only [if_true, if_false, g2, g99, b1, Option.bind_some]
  by_cases h12 : x = 12
  · subst h12
    obtain ⟨q, g1, g2⟩ := lab (by omega)
    obtain ⟨M1, N1, a1, b1, i1⟩ := one (wd_j 12 0 0 (nI (wb_ N0 q) - nI w - 1))
    refine ⟨M1, N1, ?_, ?_, i1⟩
    · simp (decide := true) only [if_true, if_false, gn_137, g1, hcnt, g147, Option.bind_some, i_sub, show nI 12 = (12 : Int32) from rfl, a1]
    · simp (decide := true) only [if_true, if_false, gn_92, g2, hwd, g99, gn_103_253, b1, Option.bind_some]
  by_cases h1011 : x = 10 ∨ x = 11
  · obtain ⟨q, g1, g2⟩ := lab (by omega)
    obtain ⟨M1, N1, a1, b1, i1⟩ := one (wd_j (nI x) (nI a) (nI b) (nI (wb_ N0 q) - nI w - 1))
    refine ⟨M1, N1, ?_, ?_, i1⟩
    · have : gn_134_178 (nI x) (nI a) (nI b) (N0 18 p) M = some M1 := by
        simp only [gn_134_178, gn_137, g1, hcnt, g147, Option.bind_some, i_sub, a1]
      rcases h1011 with rfl | rfl <;> simp (decide := true) only [if_true, if_false, this]
    · rcases h1011 with rfl | rfl <;> simp (decide := true) only [if_true, if_false, gn_92, g2, hwd, g99, gn_103_253, b1, Option.bind_some]
  -- the others make one word each by their fields
  have hother : x = 0 ∨ x = 1 ∨ x = 2 ∨ x = 3 ∨ x = 4 ∨ x = 5 ∨ x = 6 ∨ x = 7 ∨ x = 14 := by omega
  have w0 : wd_j 0 0 0 0 = 0 := rfl
  rcases hother with rfl | rfl | rfl | rfl | rfl | rfl | rfl | rfl | rfl
  · obtain ⟨M1, N1, a1, b1, i1⟩ := one 0
    refine ⟨M1, N1, ?_, ?_, i1⟩
    · simp (decide := true) only [if_true, if_false, gn_134_224, gn_138, gn_138_104, g147, w0, a1, Option.bind_some]
    · simp (decide := true) only [if_true, if_false, gn_92, b1, Option.bind_some]
  · obtain ⟨M1, N1, a1, b1, i1⟩ := one (wd_j (nI 1) (nI a) 0 (N0 18 p))
    refine ⟨M1, N1, ?_, ?_, i1⟩
    · simp (decide := true) only [if_true, if_false, gn_134_224, gn_138, g147, a1, Option.bind_some]
    · rw [show nI 1 = (1 : Int32) from rfl] at b1
      simp (decide := true) only [if_true, if_false, gn_92, g99, b1, Option.bind_some]
  all_goals first
    | (obtain ⟨M1, N1, a1, b1, i1⟩ := one (wd_j (nI 14) 0 0 (N0 18 p))
       refine ⟨M1, N1, ?_, ?_, i1⟩
       · simp (decide := true) only [if_true, if_false, gn_134_224, gn_138, g147, a1, Option.bind_some]
       · rw [show nI 14 = (14 : Int32) from rfl] at b1
         simp (decide := true) only [if_true, if_false, gn_92, g99, b1, Option.bind_some]
       done)
    | (obtain ⟨M1, N1, a1, b1, i1⟩ := one (wd_j (nI _) (nI a) (nI b) (N0 18 p))
       refine ⟨M1, N1, ?_, ?_, i1⟩
       · simp (decide := true) only [if_true, if_false, gn_134_224, gn_138, gn_138_80, g147, Option.bind_some]
         rw [a1]
         rfl
       · simp (decide := true) only [if_true, if_false, gn_92, gn_103_335, g99, Option.bind_some]
         rw [b1]
         rfl
       done)
    | (obtain ⟨M1, N1, a1, b1, i1⟩ := one (wd_j (nI _) (nI a) (nI b) 0)
       refine ⟨M1, N1, ?_, ?_, i1⟩
       · simp (decide := true) only [if_true, if_false, gn_134_224, gn_138, gn_138_88, g147, Option.bind_some]
         rw [a1]
         rfl
       · simp (decide := true) only [if_true, if_false, gn_92, gn_103_335, g99, Option.bind_some]
         rw [b1]
         rfl
       done)
