/-! the lines: how many words they make, and whether they can be rewritten -/
def sz_ (o : Int32) : Nat := if o = 8 then 4 else if o = 9 then 4 else if o = 13 then 3 else 1
def wb_ (N : im_M) : Nat → Nat
  | 0 => 0
  | p + 1 => wb_ N p + sz_ (N 15 p)
theorem sz_le (o : Int32) : sz_ o ≤ 4 := by
  unfold sz_
  by_cases h1 : o = 8
  · rw [if_pos h1]; omega
  · rw [if_neg h1]
    by_cases h2 : o = 9
    · rw [if_pos h2]; omega
    · rw [if_neg h2]
      by_cases h3 : o = 13
      · rw [if_pos h3]; omega
      · rw [if_neg h3]; omega
theorem wb_le (N : im_M) (q : Nat) : wb_ N q ≤ 4 * q := by
  induction q with
  | zero => exact Nat.le_refl _
  | succ q ih =>
    have := sz_le (N 15 q)
    show wb_ N q + sz_ (N 15 q) ≤ 4 * (q + 1)
    omega
theorem g69 (o : Int32) (M : im_M) : gn_69 o M = some (nI (sz_ o), M) := by
  unfold gn_69 sz_
  by_cases h1 : o = 8
  · rw [if_pos h1, if_pos h1]; rfl
  · rw [if_neg h1, if_neg h1]
    by_cases h2 : o = 9
    · rw [if_pos h2, if_pos h2]; rfl
    · rw [if_neg h2, if_neg h2]
      by_cases h3 : o = 13
      · rw [if_pos h3, if_pos h3]; rfl
      · rw [if_neg h3, if_neg h3]; rfl
/-- wordsBefore -/
theorem g68 {M N : im_M} {ln : Nat} (hl : ln ≤ 24) (e5 : M 1 5 = nI ln) (e2 : ∀ p, p < 24 → M 2 p = N 15 p) {q : Nat} (hq : q < 2 ^ 31) : ∀ (n p : Nat), p ≤ q → p ≤ ln → ln < p + n → gn_68_4 n (nI q) (nI (wb_ N p)) (nI p) M = some (nI (wb_ N (min q ln)), M)
  | 0, p, h1, h2, h3 => absurd h3 (by omega)
  | n + 1, p, h1, h2, h3 => by
    rw [gn_68_4]
    by_cases hpq : p = q
    · subst hpq
      rw [if_pos (nI_le (Nat.le_refl _) hq), Nat.min_eq_left h2]
    · rw [if_neg (nI_ge (show p < q by omega) hq), e5]
      by_cases hpl : p = ln
      · subst hpl
        rw [if_pos (nI_le (Nat.le_refl _) (by omega)), Nat.min_eq_right h1]
      · rw [if_neg (nI_ge (show p < ln by omega) (by omega)), if_pos (ib_n (show p < 24 by omega) (by decide)), cl_n (by omega), e2 p (by omega), g69]
        simp only [Option.bind_some, nI_1, nI_add]
        exact g68 hl e5 e2 hq n (p + 1) (by omega) (by omega) (by omega)
theorem g68' {M N : im_M} {ln : Nat} (hl : ln ≤ 24) (e5 : M 1 5 = nI ln) (e2 : ∀ p, p < 24 → M 2 p = N 15 p) {q : Nat} (hq : q ≤ ln) : gn_68 (nI q) M = some (nI (wb_ N q), M) := by
  have := g68 hl e5 e2 (q := q) (by omega) 1000 0 (Nat.zero_le _) (Nat.zero_le _) (by omega)
  rw [Nat.min_eq_left hq] at this
  exact this
/-- first -/
theorem g96 {N : im_M} {q : Nat} (hq : q ≤ 24) : ∀ (n p : Nat), p ≤ q → q < p + n → gn_96_4 n (nI q) (nI (wb_ N p)) (nI p) N = some (nI (wb_ N q), N)
  | 0, p, h1, h3 => absurd h3 (by omega)
  | n + 1, p, h1, h3 => by
    rw [gn_96_4]
    by_cases hpq : p = q
    · subst hpq
      rw [if_pos (nI_le (Nat.le_refl _) (by omega))]
    · have ih := g96 (N := N) hq n (p + 1) (by omega) (by omega)
      have ew : wb_ N (p + 1) = wb_ N p + sz_ (N 15 p) := rfl
      rw [if_neg (nI_ge (show p < q by omega) (by omega)), if_pos (ib_n (show p < 24 by omega) (by decide)), cl_n (by omega)]
      simp only [gn_96_32, gn_96_52, nI_1]
      by_cases h8 : N 15 p = 8
      · rw [if_pos h8, show (4 : Int32) = nI 4 from rfl, nI_add]
        rw [ew, h8] at ih
        exact ih
      · rw [if_neg h8]
        by_cases h9 : N 15 p = 9
        · rw [if_pos h9, show (4 : Int32) = nI 4 from rfl, nI_add]
          rw [ew, h9] at ih
          exact ih
        · rw [if_neg h9]
          by_cases h13 : N 15 p = 13
          · rw [if_pos h13, show (3 : Int32) = nI 3 from rfl, nI_add]
            rw [ew, h13] at ih
            exact ih
          · rw [if_neg h13]
            have es : sz_ (N 15 p) = 1 := by
              unfold sz_
              rw [if_neg h8, if_neg h9, if_neg h13]
            rw [ew, es] at ih
            exact ih
theorem g96' {N : im_M} {q : Nat} (hq : q ≤ 24) : gn_96 (nI q) N = some (nI (wb_ N q), N) := g96 hq 1000 0 (Nat.zero_le _) (by omega)
theorem c16 {x : Nat} (h : x < 16) : x = 0 ∨ x = 1 ∨ x = 2 ∨ x = 3 ∨ x = 4 ∨ x = 5 ∨ x = 6 ∨ x = 7 ∨ x = 8 ∨ x = 9 ∨ x = 10 ∨ x = 11 ∨ x = 12 ∨ x = 13 ∨ x = 14 ∨ x = 15 := by omega
/-- the class's reading of a line that is there -/
theorem g60 {M : im_M} {ln p : Nat} (e5 : M 1 5 = nI ln) (hl : ln ≤ 24) (hp : p < ln) : gn_60 (nI p) M = some (1, M) := by
  rw [gn_60, e5, if_n (nI ln) hp (by omega) rfl]
theorem g61 {M : im_M} {ln p : Nat} (e5 : M 1 5 = nI ln) (hl : ln ≤ 24) (hp : p < ln) : gn_61 (nI p) M = some (M 2 p, M) := by
  rw [gn_61, g60 e5 hl hp]
  simp only [Option.bind_some]
  rw [if_neg (by decide), if_pos (ib_n (show p < 24 by omega) (by decide)), cl_n (by omega)]
theorem g62 {M : im_M} {ln p : Nat} (e5 : M 1 5 = nI ln) (hl : ln ≤ 24) (hp : p < ln) : gn_62 (nI p) M = some (M 3 p, M) := by
  rw [gn_62, g60 e5 hl hp]
  simp only [Option.bind_some]
  rw [if_neg (by decide), if_pos (ib_n (show p < 24 by omega) (by decide)), cl_n (by omega)]
theorem g63 {M : im_M} {ln p : Nat} (e5 : M 1 5 = nI ln) (hl : ln ≤ 24) (hp : p < ln) : gn_63 (nI p) M = some (M 4 p, M) := by
  rw [gn_63, g60 e5 hl hp]
  simp only [Option.bind_some]
  rw [if_neg (by decide), if_pos (ib_n (show p < 24 by omega) (by decide)), cl_n (by omega)]
theorem g64 {M : im_M} {ln p : Nat} (e5 : M 1 5 = nI ln) (hl : ln ≤ 24) (hp : p < ln) : gn_64 (nI p) M = some (M 5 p, M) := by
  rw [gn_64, g60 e5 hl hp]
  simp only [Option.bind_some]
  rw [if_neg (by decide), if_pos (ib_n (show p < 24 by omega) (by decide)), cl_n (by omega)]
/-- which registers an operation uses -/
def us_b (x : Nat) : Bool := decide (2 ≤ x ∧ x ≤ 11)
def us_a (x : Nat) : Bool := decide ((2 ≤ x ∧ x ≤ 11) ∨ x = 1 ∨ x = 13 ∨ x = 15)
def kf_ (x a b : Nat) : Int32 := if (us_a x && decide (5 ≤ a)) || (us_b x && decide (5 ≤ b)) then 0 else 1
theorem i5 {a : Nat} (ha : a < 8) : ((5 : Int32) ≤ nI a) = (5 ≤ a) := propext (nI_leI (a := 5) (by decide) (by omega))
theorem i4 {a : Nat} (ha : a < 8) : ((4 : Int32) < nI a) = (5 ≤ a) := propext ((nI_ltI (a := 4) (by decide) (by omega)))
theorem i4' {a : Nat} (ha : a < 8) : (nI a ≤ (4 : Int32)) = (¬ 5 ≤ a) := propext ((nI_leI (b := 4) (by omega) (by decide)).trans (by omega))
theorem g70 {M : im_M} {ln p x a b : Nat} (e5 : M 1 5 = nI ln) (hl : ln ≤ 24) (hp : p < ln) (ex : M 2 p = nI x) (hx : x < 16) (ea : M 3 p = nI a) (ha : a < 8) (eb : M 4 p = nI b) (hb : b < 8) : gn_70 (nI p) M = some (kf_ x a b, M) := by
  rw [gn_70, g61 e5 hl hp, ex]
  simp only [Option.bind_some]
  rcases c16 hx with rfl | rfl | rfl | rfl | rfl | rfl | rfl | rfl | rfl | rfl | rfl | rfl | rfl | rfl | rfl | rfl
  all_goals
    simp (decide := true) only [gn_70_21, gn_70_22, gn_70_44, gn_70_49, gn_70_65, gn_70_78, g62 e5 hl hp, g63 e5 hl hp, ea, eb, Option.bind_some, if_true, if_false, i5 ha, i5 hb, kf_, us_a, us_b]
    try (by_cases h1 : 5 ≤ a <;> by_cases h2 : 5 ≤ b <;> simp [h1, h2])
/-- a label that is set -/
theorem g65 {M N : im_M} (hS : ∀ n, n < 8 → M 6 n = if N 19 n = 0 then -1 else N 20 n) {ln : Nat} (hln : ln ≤ 24) (hlab : ∀ n, n < 8 → N 19 n = 0 ∨ N 19 n = 1 ∧ ∃ q, q ≤ ln ∧ N 20 n = nI q) (i : Int32) : ∃ r : Int32, (r = 0 ∨ r = 1) ∧ gn_65 i M = some (r, M) ∧ gn_97_101 i N = some (r, N) ∧ (r = 1 → ∃ n q, n < 8 ∧ i = nI n ∧ N 19 n = 1 ∧ q ≤ ln ∧ N 20 n = nI q ∧ M 6 n = nI q) := by
  rcases cx_ i 8 8 rfl (by decide) with hi | ⟨n, hn, rfl⟩
  · refine ⟨0, Or.inl rfl, by rw [gn_65, if_o hi], by rw [gn_97_101, in_o 7 7 8 rfl rfl (by decide) hi]; rfl, fun h => absurd h (by decide)⟩
  · have hib := ib_n (n := 8) hn (by decide)
    have eM : gn_65 (nI n) M = if M 6 n = -1 then some (0, M) else some (1, M) := by
      rw [gn_65, if_n 8 hn (by decide) rfl, if_pos hib, cl_n (by omega)]
    have eN : gn_97_101 (nI n) N = if N 19 n = 0 then some (0, N) else some (1, N) := by
      rw [gn_97_101, in_n 7 7 rfl (by decide) (by omega)]
      simp only [Option.bind_some]
      rw [if_neg (by decide), if_pos hib, cl_n (by omega)]
    rcases hlab n hn with e | ⟨e, q, hq, eq⟩
    · refine ⟨0, Or.inl rfl, by rw [eM, hS n hn, if_pos e, if_pos rfl], by rw [eN, if_pos e], fun h => absurd h (by decide)⟩
    · have hne : ¬ N 19 n = 0 := by rw [e]; decide
      have e6 : M 6 n = nI q := by rw [hS n hn, if_neg hne, eq]
      exact ⟨1, Or.inr rfl, by rw [eM, e6, if_neg (n_m1 (by omega))], by rw [eN, if_neg hne], fun _ => ⟨n, q, hn, rfl, e, hq, eq, e6⟩⟩
theorem g10 (i : Int32) (M N : im_M) : ∃ r : Int32, (r = 0 ∨ r = 1) ∧ gn_10 i M = some (r, M) ∧ gn_92 i 0 6 N = some (r, N) ∧ (r = 1 → ∃ v, v < 7 ∧ i = nI v) := by
  rcases cx_ i 7 7 rfl (by decide) with hi | ⟨n, hn, rfl⟩
  · refine ⟨0, Or.inl rfl, ?_, in_o 6 6 7 rfl rfl (by decide) hi, fun h => absurd h (by decide)⟩
    unfold gn_10
    by_cases h0 : i < 0
    · rw [if_pos h0]
    · rw [if_neg h0, if_pos (by have := hi.resolve_left h0; rw [i_le] at this; rw [i_lt]; have e1 : (7 : Int32).toInt = 7 := rfl; have e2 : (6 : Int32).toInt = 6 := rfl; omega)]
  · refine ⟨1, Or.inr rfl, ?_, in_n 6 6 rfl (by decide) (by omega), fun _ => ⟨n, hn, rfl⟩⟩
    rw [gn_10, if_neg (nI_pos (by omega)), if_neg (show ¬ (6 : Int32) < nI n from nI_nlt (a := 6) (b := n) (by omega) (by decide))]
/-- what a line that fits is -/
def ft_ (N : im_M) (ln p : Nat) : Prop := ∃ x a b, x < 16 ∧ a < 8 ∧ b < 8 ∧ N 15 p = nI x ∧ N 16 p = nI a ∧ N 17 p = nI b ∧ (us_a x = true → a < 5) ∧ (us_b x = true → b < 5) ∧
  (x = 10 ∨ x = 11 ∨ x = 12 ∨ x = 15 → ∃ n q, n < 8 ∧ N 18 p = nI n ∧ N 19 n = 1 ∧ q ≤ ln ∧ N 20 n = nI q) ∧ (x = 14 → ∃ v, v < 7 ∧ N 18 p = nI v)
theorem z1 (r : Int32) (hr : r = 0 ∨ r = 1) : r &&& 1 = r := by rcases hr with rfl | rfl <;> rfl
theorem g97 {N : im_M} {p x a b : Nat} (hp : p < 24) (ex : N 15 p = nI x) (hx : x < 16) (ea : N 16 p = nI a) (ha : a < 8) (eb : N 17 p = nI b) (hb : b < 8) : gn_97 (nI p) N = if kf_ x a b = 0 then some (0, N) else gn_97_84 (nI x) (N 18 p) N := by
  have hib := ib_n (n := 24) hp (by decide)
  rw [gn_97, if_pos hib, cl_n (by omega), ex]
  simp only [if_pos hib]
  rcases c16 hx with rfl | rfl | rfl | rfl | rfl | rfl | rfl | rfl | rfl | rfl | rfl | rfl | rfl | rfl | rfl | rfl
  all_goals
    simp (decide := true) only [gn_97_45, gn_97_50, gn_97_67, gn_92, ea, eb, cl_n (show p < 2 ^ 31 by omega), if_pos hib, Option.bind_some, if_true, if_false, i4 ha, i4' hb, kf_, us_a, us_b]
    try (by_cases h1 : 5 ≤ a <;> by_cases h2 : 5 ≤ b <;> simp [h1, h2])
theorem gfit {M N : im_M} {ln p : Nat} (hS : rl_S M N) (hln : ln ≤ 24) (el : N 0 16 = nI ln) (hpp : ∀ p, p < ln → (∃ x, x < 16 ∧ N 15 p = nI x) ∧ (∃ x, x < 8 ∧ N 16 p = nI x) ∧ (∃ x, x < 8 ∧ N 17 p = nI x) ∧ -2097152 ≤ (N 18 p).toInt ∧ (N 18 p).toInt ≤ 2097151) (hlab : ∀ n, n < 8 → N 19 n = 0 ∨ N 19 n = 1 ∧ ∃ q, q ≤ ln ∧ N 20 n = nI q) (hp : p < ln) :
    ∃ r1 r2 : Int32, gn_70 (nI p) M = some (r1, M) ∧ gn_71 (nI p) M = some (r2, M) ∧ (r1 = 0 ∨ r1 = 1) ∧ (r2 = 0 ∨ r2 = 1) ∧ gn_97 (nI p) N = some (if r1 = 0 then 0 else r2, N) ∧ (r1 = 1 → r2 = 1 → ft_ N ln p) := by
  obtain ⟨⟨x, hx, ex⟩, ⟨a, ha, ea⟩, ⟨b, hb, eb⟩, hi1, hi2⟩ := hpp p hp
  have e5 : M 1 5 = nI ln := hS.1.trans el
  obtain ⟨s1, s2, s3, s4⟩ := hS.2.1 p (by omega)
  have h70 := g70 e5 hln hp (s1.trans ex) hx (s2.trans ea) ha (s3.trans eb) hb
  have h97 := g97 (N := N) (p := p) (by omega) ex hx ea ha eb hb
  have hk : kf_ x a b = 0 ∨ kf_ x a b = 1 := by
    unfold kf_
    split
    · exact Or.inl rfl
    · exact Or.inr rfl
  have hreg : kf_ x a b = 1 → (us_a x = true → a < 5) ∧ (us_b x = true → b < 5) := by
    intro e
    unfold kf_ at e
    by_cases hc : ((us_a x && decide (5 ≤ a)) || (us_b x && decide (5 ≤ b))) = true
    · rw [if_pos hc] at e
      exact absurd e (by decide)
    · simp only [Bool.or_eq_true, Bool.and_eq_true, decide_eq_true_eq, not_or, not_and] at hc
      exact ⟨fun h => Nat.lt_of_not_le (hc.1 h), fun h => Nat.lt_of_not_le (hc.2 h)⟩
  obtain ⟨rl, hrl, el1, el2, el3⟩ := g65 (M := M) (N := N) hS.2.2 hln hlab (N 18 p)
  obtain ⟨rh, hrh, eh1, eh2, eh3⟩ := g10 (N 18 p) M N
  have h64 : gn_64 (nI p) M = some (N 18 p, M) := by rw [g64 e5 hln hp, s4]
  have h61 : gn_61 (nI p) M = some (nI x, M) := by rw [g61 e5 hln hp, s1, ex]
  have h44 : gn_71_44 (nI p) M = some (rl, M) := by
    rw [gn_71_44, h64]
    simp only [Option.bind_some, el1, z1 rl hrl, if_true]
  -- the second answer, by the operation
  have h2 : ∃ r2 : Int32, (r2 = 0 ∨ r2 = 1) ∧ gn_71 (nI p) M = some (r2, M) ∧ gn_97_84 (nI x) (N 18 p) N = some (r2, N) ∧ (r2 = 1 → (x = 10 ∨ x = 11 ∨ x = 12 ∨ x = 15 → ∃ n q, n < 8 ∧ N 18 p = nI n ∧ N 19 n = 1 ∧ q ≤ ln ∧ N 20 n = nI q) ∧ (x = 14 → ∃ v, v < 7 ∧ N 18 p = nI v)) := by
    rw [gn_71, h61]
    by_cases hL : x = 10 ∨ x = 11 ∨ x = 12 ∨ x = 15
    · refine ⟨rl, hrl, ?_, ?_, fun e => ⟨fun _ => ?_, fun e14 => ?_⟩⟩
      · rcases hL with rfl | rfl | rfl | rfl <;> simp (decide := true) only [Option.bind_some, if_true, if_false, h44]
      · rcases hL with rfl | rfl | rfl | rfl <;> simp (decide := true) only [gn_97_84, gn_92, Option.bind_some, if_true, if_false, el2]
      · obtain ⟨n, q, g1, g2, g3, g4, g5, g6⟩ := el3 e
        exact ⟨n, q, g1, g2, g3, g4, g5⟩
      · omega
    · by_cases hH : x = 14
      · subst hH
        refine ⟨rh, hrh, ?_, ?_, fun e => ⟨fun h => absurd h hL, fun _ => eh3 e⟩⟩
        · simp (decide := true) only [Option.bind_some, if_true, if_false, h64, eh1, z1 rh hrh]
        · simp (decide := true) only [gn_97_84, show gn_92 (nI 14) 10 12 N = some (0, N) from rfl, Option.bind_some, if_true, if_false, eh2, gn_97_142]
          rcases hrh with rfl | rfl <;> rfl
      · refine ⟨1, Or.inr rfl, ?_, ?_, fun _ => ⟨fun h => absurd h hL, fun h => absurd h hH⟩⟩
        · rcases c16 hx with rfl | rfl | rfl | rfl | rfl | rfl | rfl | rfl | rfl | rfl | rfl | rfl | rfl | rfl | rfl | rfl <;> first | (exfalso; omega) | (simp (decide := true) only [Option.bind_some, if_true, if_false])
        · rcases c16 hx with rfl | rfl | rfl | rfl | rfl | rfl | rfl | rfl | rfl | rfl | rfl | rfl | rfl | rfl | rfl | rfl <;> first | (exfalso; omega) | (simp (decide := true) only [gn_97_84, gn_92, gn_97_142, Option.bind_some, if_true, if_false])
  obtain ⟨r2, hr2, f1, f2, f3⟩ := h2
  refine ⟨kf_ x a b, r2, h70, f1, hk, hr2, ?_, fun e1 e2 => ⟨x, a, b, hx, ha, hb, ex, ea, eb, (hreg e1).1, (hreg e1).2, (f3 e2).1, (f3 e2).2⟩⟩
  rw [h97, f2]
  split <;> rfl
/-- canBeRewritten and can -/
theorem gcan {M N : im_M} {ln : Nat} (hS : rl_S M N) (hln : ln ≤ 24) (el : N 0 16 = nI ln) (hpp : ∀ p, p < ln → (∃ x, x < 16 ∧ N 15 p = nI x) ∧ (∃ x, x < 8 ∧ N 16 p = nI x) ∧ (∃ x, x < 8 ∧ N 17 p = nI x) ∧ -2097152 ≤ (N 18 p).toInt ∧ (N 18 p).toInt ≤ 2097151) (hlab : ∀ n, n < 8 → N 19 n = 0 ∨ N 19 n = 1 ∧ ∃ q, q ≤ ln ∧ N 20 n = nI q) :
    ∀ (n p : Nat), p ≤ ln → ln < p + n → (∀ q, q < p → ft_ N ln q) → ∃ r : Int32, (r = 0 ∨ r = 1) ∧ gn_67_2 n (nI p) M = some (r, M) ∧ gn_98_2 n (nI p) N = some (r, N) ∧ (r = 1 → (∀ q, q < ln → ft_ N ln q) ∧ wb_ N ln + 1 ≤ 31)
  | 0, p, h1, h2, _ => absurd h2 (by omega)
  | n + 1, p, h1, h2, hf => by
    have e5 : M 1 5 = nI ln := hS.1.trans el
    rw [gn_67_2, gn_98_2, e5, el]
    by_cases hpl : p = ln
    · subst hpl
      rw [if_pos (nI_le (Nat.le_refl _) (by omega)), if_pos (nI_le (Nat.le_refl _) (by omega)), g68' hln e5 (fun q hq => (hS.2.1 q hq).1) (Nat.le_refl _), g96' hln]
      simp only [Option.bind_some, nI_1]
      have hw := wb_le N p
      by_cases h31 : wb_ N p + 1 ≤ 31
      · have : ¬ (31 : Int32) < nI (wb_ N p + 1) := nI_nlt (a := 31) (b := wb_ N p + 1) h31 (by decide)
        rw [if_neg this, if_neg this]
        exact ⟨1, Or.inr rfl, rfl, rfl, fun _ => ⟨hf, h31⟩⟩
      · have : (31 : Int32) < nI (wb_ N p + 1) := nI_lt (a := 31) (b := wb_ N p + 1) (by omega) (by omega)
        rw [if_pos this, if_pos this]
        exact ⟨0, Or.inl rfl, rfl, rfl, fun h => absurd h (by decide)⟩
    · have hlt : p < ln := by omega
      rw [if_neg (nI_ge hlt (by omega)), if_neg (nI_ge hlt (by omega))]
      obtain ⟨r1, r2, f1, f2, h1', h2', f3, f4⟩ := gfit hS hln el hpp hlab hlt
      rw [f1, f3]
      simp only [Option.bind_some]
      rcases h1' with rfl | rfl
      · simp (decide := true) only [if_true]
        exact ⟨0, Or.inl rfl, rfl, rfl, fun h => absurd h (by decide)⟩
      · simp (decide := true) only [if_false, f2, Option.bind_some]
        rcases h2' with rfl | rfl
        · simp (decide := true) only [if_true]
          exact ⟨0, Or.inl rfl, rfl, rfl, fun h => absurd h (by decide)⟩
        · simp (decide := true) only [if_false, nI_1]
          exact gcan hS hln el hpp hlab n (p + 1) (by omega) (by omega) (fun q hq => by
            by_cases e : q = p
            · subst e; exact f4 rfl rfl
            · exact hf q (by omega))
