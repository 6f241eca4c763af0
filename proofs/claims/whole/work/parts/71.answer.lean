/-! answerCall and host -/
section AN
variable {k B : Nat} {M N : im_M}
def hx_ (v : Nat) (a : Int32) : Int32 := if v = 1 ∨ v = 3 ∨ v = 4 ∨ v = 5 then a else 0
def hy_ (v : Nat) (b : Int32) : Int32 := if v = 4 ∨ v = 5 then b else 0
theorem c7_ {v : Nat} (h : v < 7) : v = 0 ∨ v = 1 ∨ v = 2 ∨ v = 3 ∨ v = 4 ∨ v = 5 ∨ v = 6 := by omega
theorem g14 {v : Nat} (hv : v < 7) (a b : Int32) (M : im_M) : gn_14 (15 + 10 * k) (nI v) a b M = gn_2 (16 + 10 * k) (nI v) (hx_ v a) (hy_ v b) M := by
  have e : 15 + 10 * k + 1 = 16 + 10 * k := by omega
  have hb : ∀ o : Option im_M, (o.bind fun b1 => some b1) = o := fun o => by cases o <;> rfl
  rcases c7_ hv with rfl | rfl | rfl | rfl | rfl | rfl | rfl <;> simp (decide := true) only [gn_14, gn_11, gn_14_22, gn_14_33, Option.bind_some, if_true, if_false, e, hb, hx_, hy_]
theorem g114 {v : Nat} (hk : k < 3) (hv : v < 7) (h0 : v ≠ 0) (N : im_M) : gn_114 (nI k) (nI v) N = gn_114_54 (nI k) (nI v) (hx_ v (N 3 (8 * k + 1))) (hy_ v (N 3 (8 * k + 2))) N := by
  have a8 : (8 : Int32) * nI k = nI (8 * k) := pk_mul 8 k
  have a1 : nI (8 * k) + (1 : Int32) = nI (8 * k + 1) := nI_add (8 * k) 1
  have a2 : nI (8 * k) + (2 : Int32) = nI (8 * k + 2) := nI_add (8 * k) 2
  have i1 := ib_n (n := 24) (show 8 * k + 1 < 24 by omega) (by decide)
  have i2 := ib_n (n := 24) (show 8 * k + 2 < 24 by omega) (by decide)
  have c1 := cl_n (show 8 * k + 1 < 2 ^ 31 by omega)
  have c2 := cl_n (show 8 * k + 2 < 2 ^ 31 by omega)
  rcases c7_ hv with rfl | rfl | rfl | rfl | rfl | rfl | rfl
  · exact absurd rfl h0
  all_goals simp (decide := true) only [gn_114, gn_114_14, gn_114_29, gn_92, Option.bind_some, if_true, if_false, a8, a1, a2, if_pos i1, if_pos i2, c1, c2, hx_, hy_]
/-- mail moves up by one -/
theorem mv_ (hk : k < 3) {ml : Nat} (hml : ml < 4) (v : Int32) : ∀ (n p : Nat) (M N : im_M), p ≤ ml → ml < p + n → RX k B M N → N 7 k = nI ml → ∃ M1 N1, gn_52_28 k n v (nI p) M = some (v, M1) ∧ gn_114_339 n (nI k) v (nI p) N = gn_114_380 (nI k) v N1 ∧ RX k B M1 N1 ∧ sm_ M N M1 N1
  | 0, p, M, N, h1, h2, _, _ => absurd h2 (by omega)
  | n + 1, p, M, N, h1, h2, h, e7 => by
    have hK := (h.2.2.2.2 k hk).1
    have em : M (12 + 10 * k) 9 = nI ml := hK.2.2.2.2.1.trans e7
    have i3 := ib_n (n := 3) hk (by decide)
    rw [gn_52_28, gn_114_339, em, if_pos i3, cl_n (show k < 2 ^ 31 by omega), e7]
    by_cases hp : p = ml
    · subst hp
      have hle : nI p ≤ nI p := nI_le (Nat.le_refl _) (by omega)
      exact ⟨M, N, by rw [if_pos hle], by rw [if_pos hle], h, sm_.rf⟩
    have hlt : p < ml := by omega
    have eN : N 6 (4 * k + p + 1) = M (20 + 10 * k) (p + 1) := by
      rw [hK.2.2.2.2.2.2.2.2.2.2.2.1 (p + 1) (by omega)]
      congr 1
    obtain ⟨M1, N1, a1, b1, j1, s1⟩ := mv_ hk hml v n (p + 1) _ _ (by omega) (by omega) (up_mail h hk (show p < 4 by omega) (M (20 + 10 * k) (p + 1))) (by rw [u_j _ _ _ _ (by decide)]; exact e7)
    refine ⟨M1, N1, ?_, ?_, j1, (sm_.up (by omega) (by decide)).tr s1⟩
    · rw [if_neg (nI_ge hlt (by omega)), nI_1, if_pos (ib_n (n := 4) (show p + 1 < 4 by omega) (by decide)), if_pos (ib_n (n := 4) (show p < 4 by omega) (by decide)), cl_n (show p < 2 ^ 31 by omega), cl_n (show p + 1 < 2 ^ 31 by omega)]
      exact a1
    · rw [if_neg (nI_ge hlt (by omega)), show (4 : Int32) * nI k = nI (4 * k) from pk_mul 4 k, nI_add, nI_1, if_pos (ib_n (n := 12) (show 4 * k + p + 1 < 12 by omega) (by decide)), if_pos (ib_n (n := 12) (show 4 * k + p < 12 by omega) (by decide)), cl_n (show 4 * k + p < 2 ^ 31 by omega), cl_n (show 4 * k + p + 1 < 2 ^ 31 by omega), eN, nI_1]
      exact b1
/-- the reference's calls that are refused end with r1 = -1 -/
theorem rf_ {v : Nat} (hv : v < 7) (a b : Int32) (N : im_M) : (v ≠ 6 → gn_114_301 (nI k) (nI v) (-1) N = gn_114_380 (nI k) (-1) N) ∧ (v ≠ 6 → v ≠ 5 → gn_114_235 (nI k) (nI v) a b (-1) N = gn_114_380 (nI k) (-1) N) ∧ (v ≠ 6 → v ≠ 5 → v ≠ 4 → gn_114_179 (nI k) (nI v) a b (-1) N = gn_114_380 (nI k) (-1) N) ∧ (v ≠ 6 → v ≠ 5 → v ≠ 4 → v ≠ 3 → gn_114_136 (nI k) (nI v) a b (-1) N = gn_114_380 (nI k) (-1) N) := by
  have ne : ∀ c : Nat, c < 7 → v ≠ c → ¬ nI v = nI c := fun c hc h e => h ((nI_eq (by omega) (by omega)).mp e)
  have e1 : v ≠ 6 → gn_114_301 (nI k) (nI v) (-1) N = gn_114_380 (nI k) (-1) N := fun h => by
    rw [gn_114_301, if_neg (show ¬ nI v = (6 : Int32) from ne 6 (by decide) h)]
  have e2 : v ≠ 6 → v ≠ 5 → gn_114_235 (nI k) (nI v) a b (-1) N = gn_114_380 (nI k) (-1) N := fun h h' => by
    rw [gn_114_235, if_neg (show ¬ nI v = (5 : Int32) from ne 5 (by decide) h'), e1 h]
  have e3 : v ≠ 6 → v ≠ 5 → v ≠ 4 → gn_114_179 (nI k) (nI v) a b (-1) N = gn_114_380 (nI k) (-1) N := fun h h' h2 => by
    rw [gn_114_179, if_neg (show ¬ nI v = (4 : Int32) from ne 4 (by decide) h2), e2 h h']
  exact ⟨e1, e2, e3, fun h h' h2 h3 => by rw [gn_114_136, if_neg (show ¬ nI v = (3 : Int32) from ne 3 (by decide) h3), e3 h h' h2]⟩
/-- what a host call leaves: all but r1 of the fence's things -/
def sh_ (k : Nat) (M N M1 N1 : im_M) : Prop := N1 0 = N 0 ∧ N1 1 = N 1 ∧ N1 2 = N 2 ∧ N1 4 = N 4 ∧ M1 9 = M 9 ∧ ∀ i, i ≠ 8 * k + 1 → N1 3 i = N 3 i
theorem sh_of {M N M1 N1 : im_M} (h : sm_ M N M1 N1) (v : Int32) : sh_ k M N (im_u M1 (13 + 10 * k) 1 v) (im_u N1 3 (8 * k + 1) v) := ⟨by rw [u_j _ _ _ _ (by decide)]; exact h.1, by rw [u_j _ _ _ _ (by decide)]; exact h.2.1, by rw [u_j _ _ _ _ (by decide)]; exact h.2.2.1, by rw [u_j _ _ _ _ (by decide)]; exact h.2.2.2.2.1, by rw [u_j _ _ _ _ (by omega)]; exact h.2.2.2.2.2, fun i hi => by rw [u_k _ _ _ _ hi, h.2.2.2.1]⟩
/-- a call with a number from 1 to 6 -/
theorem ho_ (h : RX k B M N) (hk : k < 3) (hB : B < 2 ^ 30) {v : Nat} (hv : v < 7) (h0 : v ≠ 0) (here : Int32) : ∃ M1 N1, gn_41 k (nI v) here M = some M1 ∧ gn_114 (nI k) (nI v) N = some N1 ∧ RX k (B + 1) M1 N1 ∧ sh_ k M N M1 N1 := by
  have hK0 := (h.2.2.2.2 k hk).1
  have r1 : M (13 + 10 * k) 1 = N 3 (8 * k + 1) := hK0.2.2.2.2.2.2.2.2.2.1 1 (by decide)
  have r2 : M (13 + 10 * k) 2 = N 3 (8 * k + 2) := hK0.2.2.2.2.2.2.2.2.2.1 2 (by decide)
  obtain ⟨Ma, Na, a1, b1, hx, s1⟩ := nt_ h hk hB (nI v) (hx_ v (N 3 (8 * k + 1))) (hy_ v (N 3 (8 * k + 2)))
  obtain ⟨hK, hI, -⟩ := hx.2.2.2.2 k hk
  have q1 : Ma (13 + 10 * k) 1 = N 3 (8 * k + 1) := by rw [hK.2.2.2.2.2.2.2.2.2.1 1 (by decide), s1.2.2.2.1]
  have q2 : Ma (13 + 10 * k) 2 = N 3 (8 * k + 2) := by rw [hK.2.2.2.2.2.2.2.2.2.1 2 (by decide), s1.2.2.2.1]
  have i3 := ib_n (n := 3) hk (by decide)
  rw [gn_41, g14 hv, r1, r2, a1, g114 hk hv h0, gn_114_54, b1]
  simp only [Option.bind_some, q1, q2]
  generalize N 3 (8 * k + 1) = x at *
  generalize N 3 (8 * k + 2) = y at *
  -- the end: a value in r1
  have fin : ∀ (M2 N2 : im_M) (z : Int32), RX k (B + 1) M2 N2 → sm_ Ma Na M2 N2 → ∃ M1 N1, some (im_u M2 (13 + 10 * k) 1 z) = some M1 ∧ gn_114_380 (nI k) z N2 = some N1 ∧ RX k (B + 1) M1 N1 ∧ sh_ k M N M1 N1 := fun M2 N2 z g1 g2 => ⟨_, _, rfl, (r1_ g1 hk z).1, (r1_ g1 hk z).2, sh_of (s1.tr g2) z⟩
  rcases c7_ hv with rfl | rfl | rfl | rfl | rfl | rfl | rfl
  · exact absurd rfl h0
  · -- OUT
    obtain ⟨M2, N2, a2, b2, g2, s2⟩ := po_ hx hk x
    simp (decide := true) only [if_true, if_false, hx_, a2, b2, Option.bind_some]
    exact fin M2 N2 0 g2 s2
  · -- IN
    obtain ⟨tk, htk, et⟩ := hI.2.2.2.1
    obtain ⟨fd, hfd, ef⟩ := hI.2.2.1
    have em : Ma (15 + 10 * k) 2 = nI tk := hK.2.2.2.2.2.2.2.1.trans et
    have ef' : Ma (12 + 10 * k) 4 = nI fd := hK.2.1.trans ef
    have rr := (rf_ (k := k) (v := 2) (by decide) (hx_ 2 x) (hy_ 2 y) Na).2.2.2 (by decide) (by decide) (by decide) (by decide)
    simp (decide := true) only [if_true, if_false, Option.bind_some, if_pos i3, cl_n (show k < 2 ^ 31 by omega), ef, et]
    by_cases hlt : tk < fd
    · have e16 : gn_16 (15 + 10 * k) k Ma = some (Na 8 (12 * k + tk), im_u Ma (15 + 10 * k) 2 (nI (tk + 1))) := by
        rw [gn_16, em, ef', if_neg (nI_pos (by omega)), if_pos (nI_lt hlt (by omega)), if_pos (ib_n (n := 12) (show tk < 12 by omega) (by decide)), cl_n (by omega), hK.2.2.2.2.2.2.2.2.2.2.1 tk (by omega), nI_1]
      rw [e16, if_neg (nI_ge hlt (by omega)), show (12 : Int32) * nI k = nI (12 * k) from pk_mul 12 k, nI_add, if_pos (ib_n (n := 36) (show 12 * k + tk < 36 by omega) (by decide)), cl_n (show 12 * k + tk < 2 ^ 31 by omega), nI_1]
      simp only [Option.bind_some]
      exact fin _ _ _ (up_tk hx hk (show tk + 1 ≤ 12 by omega)) (sm_.up (by omega) (by decide))
    · have e16 : gn_16 (15 + 10 * k) k Ma = some (-1, Ma) := by
        rw [gn_16, em, ef', if_neg (nI_pos (by omega)), if_neg (nI_nlt (by omega) (by omega))]
      rw [e16, if_pos (nI_le (by omega) (by omega)), rr]
      simp only [Option.bind_some]
      exact fin Ma Na _ hx sm_.rf
  · -- ALLOC
    obtain ⟨gr, hgr, eg⟩ := hI.2.2.2.2.1
    have em : Ma (15 + 10 * k) 1 = nI gr := hK.2.2.2.2.2.2.1.trans eg
    have rr := (rf_ (k := k) (v := 3) (by decide) (hx_ 3 x) (hy_ 3 y) Na).2.2.1 (by decide) (by decide) (by decide)
    have e16 : (16 : Int32) - nI gr = nI (16 - gr) := pk_sub (a := 16) (b := gr) hgr
    simp (decide := true) only [if_true, if_false, Option.bind_some, gn_114_136, if_pos i3, cl_n (show k < 2 ^ 31 by omega), eg, e16]
    have hx3 : hx_ 3 x = x := by simp [hx_]
    by_cases hin : ∃ s, 1 ≤ s ∧ s ≤ 16 - gr ∧ x = nI s
    · obtain ⟨s, hs1, hs2, es⟩ := hin
      have e15 : gn_15 (15 + 10 * k) x Ma = some (nI gr, im_u Ma (15 + 10 * k) 1 (nI (gr + s))) := by
        rw [gn_15, em, es, e16, if_neg (show ¬ nI s < (1 : Int32) from nI_nlt (a := s) (b := 1) hs1 (by omega)), if_pos (nI_le hs2 (by omega)), nI_add]
      have h92 : gn_92 x 1 (nI (16 - gr)) Na = some (1, Na) := by
        rw [es]
        exact in_t (show ¬ nI s < (1 : Int32) from nI_nlt (a := s) (b := 1) hs1 (by omega)) (nI_nlt hs2 (by omega))
      rw [e15, hx3, h92]
      simp (decide := true) only [Option.bind_some, if_false]
      rw [eg, es, nI_add]
      exact fin _ _ _ (up_gr hx hk (show gr + s ≤ 16 by omega)) (sm_.up (by omega) (by decide))
    · have hno : x < 1 ∨ nI (16 - gr) < x := by
        by_cases c1 : x < 1
        · exact Or.inl c1
        · refine Or.inr ?_
          rcases cx_ x (16 - gr + 1) (nI (16 - gr + 1)) rfl (by omega) with ho | ⟨s, hs, es⟩
          · rcases ho with ho | ho
            · exfalso
              rw [i_lt] at ho c1
              have z0 : (0 : Int32).toInt = 0 := rfl
              have z1 : (1 : Int32).toInt = 1 := rfl
              omega
            · rw [i_le, nI_toInt (by omega)] at ho
              rw [i_lt, nI_toInt (by omega)]
              omega
          · exfalso
            refine hin ⟨s, ?_, by omega, es⟩
            rw [es, i_lt, nI_toInt (by omega)] at c1
            have z1 : (1 : Int32).toInt = 1 := rfl
            omega
      have e15 : gn_15 (15 + 10 * k) x Ma = some (-1, Ma) := by
        rw [gn_15, em, e16]
        by_cases c1 : x < 1
        · rw [if_pos c1]
        · rw [if_neg c1, if_neg (fun z => by have := hno.resolve_left c1; rw [i_lt] at this; rw [i_le] at z; omega)]
      rw [e15, hx3, in_f hno]
      simp (decide := true) only [Option.bind_some, if_true]
      rw [hx3] at rr
      rw [rr]
      exact fin Ma Na _ hx sm_.rf
  · -- PRINT
    have rr := (rf_ (k := k) (v := 4) (by decide) x y Na).2.1 (by decide) (by decide)
    have hx4 : hx_ 4 x = x := by simp [hx_]
    have hy4 : hy_ 4 y = y := by simp [hy_]
    simp (decide := true) only [if_true, if_false, Option.bind_some, gn_114_136, gn_114_179, hx4, hy4]
    by_cases hin : ∃ p q, p + q ≤ 16 ∧ x = nI p ∧ y = nI q
    · obtain ⟨p, q, hpq, ep, eq⟩ := hin
      obtain ⟨M2, N2, a2, b2, g2, s2⟩ := pr_ (k := k) (B := B + 1) hk hpq 1000 0 Ma Na (Nat.zero_le _) (by omega) hx
      have e12 : gn_12 (nI p) (nI q) Ma = some (1, Ma) := by
        rw [gn_12, if_neg (nI_pos (by omega)), if_neg (show ¬ (16 : Int32) < nI p from nI_nlt (a := 16) (b := p) (by omega) (by decide)), if_neg (nI_pos (by omega)), show (16 : Int32) - nI p = nI (16 - p) from pk_sub (a := 16) (b := p) (by omega), if_neg (nI_nlt (by omega) (by omega))]
      have e115 : gn_115 (nI p) (nI q) Na = some (1, Na) := by
        rw [gn_115, in_n 16 16 rfl (by decide) (by omega)]
        simp (decide := true) only [Option.bind_some, if_false]
        rw [in_n 16 16 rfl (by decide) (by omega)]
        simp (decide := true) only [Option.bind_some, if_false]
        rw [nI_add, if_neg (show ¬ (16 : Int32) < nI (p + q) from nI_nlt (a := 16) (b := p + q) hpq (by decide))]
      rw [ep, eq, gn_42, e12, e115]
      simp (decide := true) only [Option.bind_some, if_false]
      rw [show gn_42_13 k 1000 (nI p) (nI q) 0 Ma = _ from a2, show gn_114_196 1000 (nI k) (nI p) (nI q) 0 Na = _ from b2]
      simp only [Option.bind_some]
      exact fin _ _ _ g2 s2
    · have e12 : gn_12 x y Ma = some (0, Ma) := by
        rw [gn_12]
        by_cases c1 : x < 0
        · rw [if_pos c1]
        rw [if_neg c1]
        by_cases c2 : (16 : Int32) < x
        · rw [if_pos c2]
        rw [if_neg c2]
        by_cases c3 : y < 0
        · rw [if_pos c3]
        rw [if_neg c3]
        obtain ⟨p, hp, ep⟩ := nI_of2 (M := 16) (n := 16) rfl c1 (n_le.mp c2)
        rw [ep, show (16 : Int32) - nI p = nI (16 - p) from pk_sub (a := 16) (b := p) hp, if_pos]
        by_cases c4 : nI (16 - p) < y
        · exact c4
        · exfalso
          obtain ⟨q, hq, eq⟩ := nI_of2 (M := nI (16 - p)) (n := 16 - p) (nI_toInt (by omega)) c3 (n_le.mp c4)
          exact hin ⟨p, q, by omega, ep, eq⟩
      have e115 : gn_115 x y Na = some (0, Na) := by
        rw [gn_115]
        rcases cx_ x 17 17 rfl (by decide) with ho | ⟨p, hp, ep⟩
        · rw [in_o 16 16 17 rfl rfl (by decide) ho]; rfl
        rw [ep, in_n 16 16 rfl (by decide) (by omega)]
        simp (decide := true) only [Option.bind_some, if_false]
        rcases cx_ y 17 17 rfl (by decide) with ho | ⟨q, hq, eq⟩
        · rw [in_o 16 16 17 rfl rfl (by decide) ho]; rfl
        rw [eq, in_n 16 16 rfl (by decide) (by omega)]
        simp (decide := true) only [Option.bind_some, if_false]
        rw [nI_add, if_pos (show (16 : Int32) < nI (p + q) from nI_lt (a := 16) (b := p + q) (by
          by_cases c : p + q ≤ 16
          · exact absurd ⟨p, q, c, ep, eq⟩ hin
          · omega) (by omega))]
      rw [gn_42, e12, e115]
      simp (decide := true) only [Option.bind_some, if_true]
      rw [rr]
      exact fin Ma Na _ hx sm_.rf
  · -- SEND
    have rr := (rf_ (k := k) (v := 5) (by decide) x y Na).1 (by decide)
    have hx4 : hx_ 5 x = x := by simp [hx_]
    have hy4 : hy_ 5 y = y := by simp [hy_]
    simp (decide := true) only [if_true, if_false, Option.bind_some, gn_114_136, gn_114_179, gn_114_235, hx4, hy4]
    rcases cx_ x 3 3 rfl (by decide) with ho | ⟨k2, hk2, ek⟩
    · have e43 : gn_43 x y Ma = some (-1, Ma) := by rw [gn_43, if_o ho]
      rw [e43, in_o 2 2 3 rfl rfl (by decide) ho]
      simp (decide := true) only [Option.bind_some, if_true]
      rw [rr]
      exact fin Ma Na _ hx sm_.rf
    obtain ⟨hK2, hI2, -⟩ := hx.2.2.2.2 k2 hk2
    obtain ⟨ml, hml, em⟩ := hI2.2.1
    have em' : Ma (12 + 10 * k2) 9 = nI ml := hK2.2.2.2.2.1.trans em
    have es : Ma (12 + 10 * k2) 6 = Na 2 k2 := hK2.2.2.2.1
    have i2 := ib_n (n := 3) hk2 (by decide)
    rw [ek, in_n 2 2 rfl (by decide) (by omega), gn_43, if_n 3 hk2 (by decide) rfl, cl_n (show k2 < 2 ^ 31 by omega), es]
    simp (decide := true) only [Option.bind_some, if_false, if_pos i2, em]
    by_cases c0 : Na 2 k2 = 0
    · rw [if_pos c0, if_pos c0, rr]
      simp only [Option.bind_some]
      exact fin Ma Na _ hx sm_.rf
    rw [if_neg c0, if_neg c0]
    by_cases c4 : ml < 4
    · have e51 : gn_51 k2 y Ma = some (1, im_u (im_u Ma (20 + 10 * k2) ml y) (12 + 10 * k2) 9 (nI (ml + 1))) := by
        rw [gn_51, em', if_pos (n_lt (c := 4) c4 (by decide) rfl), if_pos (ib_n (n := 4) c4 (by decide)), cl_n (by omega)]
        simp only [u_j Ma (20 + 10 * k2) ml y (show 12 + 10 * k2 ≠ 20 + 10 * k2 by omega), em', nI_1]
      rw [e51, if_neg (n_ge (c := 4) c4 (by decide) rfl), show (4 : Int32) * nI k2 = nI (4 * k2) from pk_mul 4 k2, nI_add, if_pos (ib_n (n := 12) (show 4 * k2 + ml < 12 by omega) (by decide)), cl_n (show 4 * k2 + ml < 2 ^ 31 by omega)]
      simp (decide := true) only [Option.bind_some, if_false, u_j Na 6 (4 * k2 + ml) y (show 7 ≠ 6 by decide), em, nI_1]
      have g1 := up2 hx hk2 (crr_10 c4) (Or.inl rfl) y (ri_free hI2 (by decide) (by decide) (by decide) (by decide) (by decide) (by decide))
      have hI3 : ri_K (B + 1) (im_u Na 6 (4 * k2 + ml) y) k2 := (g1.2.2.2.2 k2 hk2).2.1
      have g2 := up2 g1 hk2 crr_3 (Or.inr rfl) (nI (ml + 1)) (by
        obtain ⟨d1, d2, d3, d4, d5, d6⟩ := hI3
        exact ⟨by rw [u_j _ 7 _ _ (by decide)]; exact d1, ⟨ml + 1, by omega, u_s _ _ _ _⟩, by rw [u_j _ 7 _ _ (by decide)]; exact d3, by rw [u_j _ 7 _ _ (by decide)]; exact d4, by rw [u_j _ 7 _ _ (by decide)]; exact d5, by rw [u_j _ 7 _ _ (by decide)]; exact d6⟩)
      exact fin _ _ _ g2 ((sm_.up (by omega) (by decide)).tr (sm_.up (by omega) (by decide)))
    · have e51 : gn_51 k2 y Ma = some (0, Ma) := by
        rw [gn_51, em', if_neg (show ¬ nI ml < (4 : Int32) from nI_nlt (a := ml) (b := 4) (by omega) (by omega))]
      rw [e51, if_pos (show (4 : Int32) ≤ nI ml from nI_le (a := 4) (b := ml) (by omega) (by omega)), rr]
      simp (decide := true) only [Option.bind_some, if_true]
      exact fin Ma Na _ hx sm_.rf
  · -- RECEIVE
    obtain ⟨ml, hml, em⟩ := hI.2.1
    have em' : Ma (12 + 10 * k) 9 = nI ml := hK.2.2.2.2.1.trans em
    simp (decide := true) only [if_true, if_false, Option.bind_some, gn_114_136, gn_114_179, gn_114_235, gn_114_301, if_pos i3, cl_n (show k < 2 ^ 31 by omega), em]
    by_cases c0 : ml = 0
    · subst c0
      have e52 : gn_52 k Ma = some (-1, Ma) := by
        rw [gn_52, em', if_neg (by decide)]
      rw [e52, if_pos (show nI 0 ≤ 0 by decide)]
      simp only [Option.bind_some]
      exact fin Ma Na _ hx sm_.rf
    · obtain ⟨m', rfl⟩ : ∃ m', ml = m' + 1 := ⟨ml - 1, by omega⟩
      have hsub : nI (m' + 1) - (1 : Int32) = nI m' := nI_pred m'
      have hx2 := up_ml hx hk (show m' ≤ 4 by omega)
      obtain ⟨M2, N2, a2, b2, g2, s2⟩ := mv_ (k := k) (B := B + 1) hk (show m' < 4 by omega) (Ma (20 + 10 * k) 0) 1000 0 _ _ (Nat.zero_le _) (by omega) hx2 (u_s _ _ _ _)
      have e20 : Ma (20 + 10 * k) 0 = Na 6 (4 * k) := hK.2.2.2.2.2.2.2.2.2.2.2.1 0 (by decide)
      have e52 : gn_52 k Ma = some (Ma (20 + 10 * k) 0, M2) := by
        rw [gn_52, em', if_pos (show (0 : Int32) < nI (m' + 1) from nI_lt (a := 0) (b := m' + 1) (by omega) (by omega)), hsub]
        exact a2
      rw [e52, if_neg (show ¬ nI (m' + 1) ≤ 0 from nI_nle (by omega) (by omega)), show (4 : Int32) * nI k = nI (4 * k) from pk_mul 4 k, if_pos (ib_n (n := 12) (show 4 * k < 12 by omega) (by decide)), cl_n (show 4 * k < 2 ^ 31 by omega), hsub, ← e20, show gn_114_339 1000 (nI k) (Ma (20 + 10 * k) 0) 0 (im_u Na 7 k (nI m')) = _ from b2]
      simp only [Option.bind_some]
      exact fin _ _ _ g2 ((sm_.up (by omega) (by decide)).tr s2)
end AN
