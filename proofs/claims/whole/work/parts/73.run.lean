/-! run -/
theorem tn_ {B : Nat} {M M' N N' : im_M} (h : RB B M N) (hM : ∀ c, c ≠ 9 → M' c = M c) (hN : ∀ j, j ≠ 0 → N' j = N j) (h0 : ∀ i, i ≠ 14 → i ≠ 15 → N' 0 i = N 0 i) (e2 : M' 9 2 = N' 0 14) (e3 : M' 9 3 = N' 0 15) (x14 : ∃ x, x < 3 ∧ N' 0 14 = nI x) (x15 : ∃ x, x < 3 ∧ N' 0 15 = nI x) : RB B M' N' := by
  refine ⟨cg_S h.1 (fun j _ _ => hM j (by omega)) (h0 16 (by decide) (by decide)) (fun j _ _ => hN j (by omega)), cg_C h.2.1 (by rw [hM 7 (by decide)]) (hM 8 (by decide)) (h0 23 (by decide) (by decide)) (hN 21 (by decide)), ⟨⟨e2, e3, fun a ha => ?_⟩, x14, x15⟩, cg_T h.2.2.2.1 (fun j _ _ => hM j (by omega)) (h0 30 (by decide) (by decide)) (hN 24 (by decide)), fun k hk => cg_K hk (h.2.2.2.2 k hk) (fun j _ _ => hM j (by omega)) (fun j _ _ => hN j (by omega))⟩
  rw [hM 10 (by decide), hN 1 (by decide)]
  exact h.2.2.1.1.2.2 a ha
def nx_ (x : Nat) : Nat := if x = 2 then 0 else x + 1
theorem nx_lt {x : Nat} (h : x < 3) : nx_ x < 3 := by
  unfold nx_
  by_cases e : x = 2
  · rw [if_pos e]; decide
  · rw [if_neg e]; omega
theorem g39 {x : Nat} (h : x < 3) (M : im_M) : gn_39 (nI x) M = some (nI (nx_ x), M) := by
  have c : x = 0 ∨ x = 1 ∨ x = 2 := by omega
  rcases c with rfl | rfl | rfl <;> rfl
theorem g119 {x : Nat} (h : x < 3) (N : im_M) (e : N 0 14 = nI x) : gn_119 N = some (im_u (im_u N 0 14 (nI (nx_ x))) 0 15 0) := by
  rw [gn_119, e]
  have c : x = 0 ∨ x = 1 ∨ x = 2 := by omega
  rcases c with rfl | rfl | rfl <;> rfl
theorem g38 (x : Int32) (M : im_M) : gn_38 x M = some (im_u (im_u M 9 2 x) 9 3 0) := rfl
/-- the turn is given to y on both sides -/
theorem tn_p {B y : Nat} {M N N0 : im_M} (h : RB B M N) (hy : y < 3) (hN : ∀ j, j ≠ 0 → N0 j = N j) (h0 : ∀ i, i ≠ 14 → i ≠ 15 → N0 0 i = N 0 i) : RB B (im_u (im_u M 9 2 (nI y)) 9 3 0) (im_u (im_u N0 0 14 (nI y)) 0 15 0) := by
  refine tn_ h (fun c hc => by rw [u_j _ _ _ _ hc, u_j _ _ _ _ hc]) (fun j hj => by rw [u_j _ _ _ _ hj, u_j _ _ _ _ hj]; exact hN j hj) (fun i h1 h2 => by rw [u_k _ _ _ _ h2, u_k _ _ _ _ h1]; exact h0 i h1 h2) ?_ ?_ ⟨y, hy, ?_⟩ ⟨0, by decide, ?_⟩
  · rw [u_k _ _ _ _ (by decide), u_s, u_k _ _ _ _ (by decide), u_s]
  · rw [u_s, u_s]
  · rw [u_k _ _ _ _ (by decide), u_s]
  · rw [u_s]; rfl
theorem ne_no {B : Nat} {M N : im_M} (h : RB B M N) (hno : ∀ k, k < 3 → N 2 k ≠ 1) : ∀ (n j x : Nat), j ≤ 3 → 3 < j + n → x < 3 → gn_36_7 n (nI x) (nI j) M = some (none, M)
  | 0, j, x, h1, h2, _ => absurd h2 (by omega)
  | n + 1, j, x, h1, h2, hx => by
    rw [gn_36_7]
    by_cases hj : j = 3
    · subst hj; rw [if_pos (show (3 : Int32) ≤ nI 3 by decide)]
    · rw [if_neg (n_ge (c := 3) (show j < 3 by omega) (by decide) rfl), if_n 3 hx (by decide) rfl, cl_n (by omega), (h.2.2.2.2 x hx).1.2.2.2.1, if_neg (hno x hx), gn_36_45, g39 hx]
      simp only [Option.bind_some, nI_1]
      exact ne_no h hno n (j + 1) (nx_ x) (by omega) (by omega) (nx_lt hx)
/-- who steps next -/
theorem sel_ {B : Nat} {M N : im_M} (h : RB B M N) (hyes : ∃ k, k < 3 ∧ N 2 k = 1) : ∃ k M1 N1, k < 3 ∧ gn_36 M = some (some (12 + 10 * k), M1) ∧ (∀ r15 y1 y2, gn_120_50 r15 y1 y2 N = gn_120_80 r15 y1 y2 N1) ∧ RB B M1 N1 ∧ N1 2 k = 1 ∧ N1 0 14 = nI k := by
  obtain ⟨x, hx, ex⟩ := h.2.2.1.2.1
  have em : M 9 2 = nI x := h.2.2.1.1.1.trans ex
  have st : ∀ q, q < 3 → M (12 + 10 * q) 6 = N 2 q := fun q hq => (h.2.2.2.2 q hq).1.2.2.2.1
  have i3 : ∀ q, q < 3 → st_ib (nI q) 3 := fun q hq => ib_n hq (by decide)
  have c3 : ∀ q, q < 3 → (nI q).toNatClampNeg = q := fun q hq => cl_n (by omega)
  rw [gn_36, em]
  by_cases c1 : N 2 x = 1
  · refine ⟨x, M, N, hx, ?_, fun r15 y1 y2 => ?_, h, c1, ex⟩
    · show gn_36_7 (999 + 1) (nI x) (nI 0) M = _
      rw [gn_36_7, if_neg (by decide), if_n 3 hx (by decide) rfl, c3 x hx, st x hx, if_pos c1, em, if_pos rfl, gn_36_43]
    · show gn_120_52 r15 (999 + 1) y1 y2 (nI 0) N = _
      rw [gn_120_52, if_neg (by decide), ex, if_pos (i3 x hx), c3 x hx, if_pos c1]
  have hy := nx_lt hx
  have hz := nx_lt hy
  have nxy : nx_ x ≠ x := by unfold nx_; split <;> omega
  have nxz : nx_ (nx_ x) ≠ x := by
    have c : x = 0 ∨ x = 1 ∨ x = 2 := by omega
    rcases c with rfl | rfl | rfl <;> decide
  have a1 : gn_36_7 1000 (nI x) (0 : Int32) M = gn_36_7 999 (nI (nx_ x)) (nI 1) M := by
    show gn_36_7 (999 + 1) (nI x) (nI 0) M = _
    rw [gn_36_7, if_neg (by decide), if_n 3 hx (by decide) rfl, c3 x hx, st x hx, if_neg c1, gn_36_45, g39 hx]
    rfl
  have b1 : ∀ r15 y1 y2, gn_120_50 r15 y1 y2 N = gn_120_52 r15 999 y1 y2 (nI 1) (im_u (im_u N 0 14 (nI (nx_ x))) 0 15 0) := fun r15 y1 y2 => by
    show gn_120_52 r15 (999 + 1) y1 y2 (nI 0) N = _
    rw [gn_120_52, if_neg (by decide), ex, if_pos (i3 x hx), c3 x hx, if_neg c1, g119 hx N ex]
    rfl
  have e14 : ∀ (X : im_M) (v : Int32), im_u (im_u X 0 14 v) 0 15 0 0 14 = v := fun X v => by rw [u_k _ _ _ _ (by decide), u_s]
  have e2 : ∀ (X : im_M) (v : Int32), im_u (im_u X 0 14 v) 0 15 0 2 = X 2 := fun X v => by rw [u_j _ _ _ _ (by decide), u_j _ _ _ _ (by decide)]
  by_cases c2 : N 2 (nx_ x) = 1
  · refine ⟨nx_ x, im_u (im_u M 9 2 (nI (nx_ x))) 9 3 0, im_u (im_u N 0 14 (nI (nx_ x))) 0 15 0, hy, ?_, fun r15 y1 y2 => ?_, tn_p h hy (fun _ _ => rfl) (fun _ _ _ => rfl), by rw [e2]; exact c2, e14 _ _⟩
    · rw [show gn_36_7 1000 (nI x) 0 M = _ from a1]
      show gn_36_7 (998 + 1) (nI (nx_ x)) (nI 1) M = _
      rw [gn_36_7, if_neg (by decide), if_n 3 hy (by decide) rfl, c3 _ hy, st _ hy, if_pos c2, em, if_neg (fun e => nxy ((nI_eq (by omega) (by omega)).mp e)), g38]
      rfl
    · rw [b1]
      show gn_120_52 r15 (998 + 1) y1 y2 (nI 1) _ = _
      rw [gn_120_52, if_neg (by decide), e14, if_pos (i3 _ hy), c3 _ hy, e2, if_pos c2]
  have c4 : N 2 (nx_ (nx_ x)) = 1 := by
    obtain ⟨q, hq, eq⟩ := hyes
    have c : x = 0 ∨ x = 1 ∨ x = 2 := by omega
    have d : q = 0 ∨ q = 1 ∨ q = 2 := by omega
    rcases c with rfl | rfl | rfl <;> rcases d with rfl | rfl | rfl <;> first | exact eq | exact absurd eq c1 | exact absurd eq c2
  refine ⟨nx_ (nx_ x), im_u (im_u M 9 2 (nI (nx_ (nx_ x)))) 9 3 0, im_u (im_u (im_u (im_u N 0 14 (nI (nx_ x))) 0 15 0) 0 14 (nI (nx_ (nx_ x)))) 0 15 0, hz, ?_, fun r15 y1 y2 => ?_, tn_p h hz (fun j hj => by rw [u_j _ _ _ _ hj, u_j _ _ _ _ hj]) (fun i h1 h2 => by rw [u_k _ _ _ _ h2, u_k _ _ _ _ h1]), by rw [e2, e2]; exact c4, e14 _ _⟩
  · rw [show gn_36_7 1000 (nI x) 0 M = _ from a1]
    show gn_36_7 (998 + 1) (nI (nx_ x)) (nI 1) M = _
    rw [gn_36_7, if_neg (by decide), if_n 3 hy (by decide) rfl, c3 _ hy, st _ hy, if_neg c2, gn_36_45, g39 hy]
    show gn_36_7 (997 + 1) (nI (nx_ (nx_ x))) (nI 2) M = _
    rw [gn_36_7, if_neg (by decide), if_n 3 hz (by decide) rfl, c3 _ hz, st _ hz, if_pos c4, em, if_neg (fun e => nxz ((nI_eq (by omega) (by omega)).mp e)), g38]
    rfl
  · rw [b1]
    show gn_120_52 r15 (998 + 1) y1 y2 (nI 1) _ = _
    rw [gn_120_52, if_neg (by decide), e14, if_pos (i3 _ hy), c3 _ hy, e2, if_neg c2, g119 hy _ (e14 _ _)]
    show gn_120_52 r15 (997 + 1) y1 y2 (nI 2) _ = _
    rw [gn_120_52, if_pos (by decide)]
/-- one step of the run, and whose turn it is behind it -/
theorem it_ {B : Nat} {M N : im_M} (h : RB B M N) (hB : B < 2 ^ 30) (hyes : ∃ k, k < 3 ∧ N 2 k = 1) : ∃ k M1 M2 M3 N3, k < 3 ∧ gn_36 M = some (some (12 + 10 * k), M1) ∧ gn_40 k M1 = some M2 ∧ gn_37 k M2 = some M3 ∧ (∀ r15 y1 y2, gn_120_50 r15 y1 y2 N = r15 y1 (y2 + 1) N3) ∧ RB (B + 1) M3 N3 := by
  obtain ⟨k, M1, N1, hk, a1, b1, h1, r1, t1⟩ := sel_ h hyes
  obtain ⟨M2, N2, a2, b2, h2, s0, s9⟩ := st_ h1 hk hB r1
  obtain ⟨y, hy, ey⟩ := h2.2.2.1.2.2
  have em : M2 9 3 = nI y := h2.2.2.1.1.2.1.trans ey
  have t2 : N2 0 14 = nI k := by rw [s0]; exact t1
  have em2 : M2 9 2 = nI k := h2.2.2.1.1.1.trans t2
  have es : M2 (12 + 10 * k) 6 = N2 2 k := (h2.2.2.2.2 k hk).1.2.2.2.1
  have i3 : st_ib (nI k) 3 := ib_n hk (by decide)
  have p26 : gn_37_26 k (im_u M2 9 3 (nI (y + 1))) = some (im_u (im_u M2 9 2 (nI (nx_ k))) 9 3 0) := by
    rw [gn_37_26, u_k _ _ _ _ (by decide), em2, g39 hk]
    simp only [Option.bind_some, g38]
    congr 1
    funext a b
    unfold im_u
    by_cases ha : a = 9
    · simp only [if_pos ha]
      by_cases hb : b = 3
      · simp [hb]
      · simp [hb]
    · simp only [if_neg ha]
  have q122 : ∀ (r15 : Int32 → Int32 → im_M → Option (Int32 × im_M)) (y1 y2 : Int32), gn_120_122 r15 y1 y2 (im_u N2 0 15 (nI (y + 1))) = r15 y1 y2 (im_u (im_u (im_u N2 0 15 (nI (y + 1))) 0 14 (nI (nx_ k))) 0 15 0) := fun r15 y1 y2 => by
    rw [gn_120_122, g119 hk _ (by rw [u_k _ _ _ _ (by decide)]; exact t2)]
    rfl
  have hp : RB (B + 1) (im_u (im_u M2 9 2 (nI (nx_ k))) 9 3 0) (im_u (im_u (im_u N2 0 15 (nI (y + 1))) 0 14 (nI (nx_ k))) 0 15 0) := tn_p h2 (nx_lt hk) (fun j hj => u_j _ _ _ _ hj) (fun i _ h2 => u_k _ _ _ _ h2)
  have e80 : ∀ r15 y1 y2, gn_120_50 r15 y1 y2 N = (if nI (y + 1) = (3 : Int32) then gn_120_122 r15 y1 (y2 + 1) (im_u N2 0 15 (nI (y + 1))) else if N2 2 k = 1 then r15 y1 (y2 + 1) (im_u N2 0 15 (nI (y + 1))) else gn_120_122 r15 y1 (y2 + 1) (im_u N2 0 15 (nI (y + 1)))) := fun r15 y1 y2 => by
    rw [b1, gn_120_80, t1, b2]
    simp only [Option.bind_some, ey, nI_1, u_s, u_k N2 0 15 (nI (y + 1)) (show 14 ≠ 15 by decide), t2, if_pos i3, cl_n (show k < 2 ^ 31 by omega), u_j N2 0 15 (nI (y + 1)) (show 2 ≠ 0 by decide)]
  have e37 : gn_37 k M2 = (if (3 : Int32) ≤ nI (y + 1) then gn_37_26 k (im_u M2 9 3 (nI (y + 1))) else if N2 2 k = 1 then some (im_u M2 9 3 (nI (y + 1))) else gn_37_26 k (im_u M2 9 3 (nI (y + 1)))) := by
    rw [gn_37]
    simp only [em, nI_1, u_s, u_j M2 9 3 (nI (y + 1)) (show 12 + 10 * k ≠ 9 by omega), es]
  by_cases y2 : y = 2
  · subst y2
    refine ⟨k, M1, M2, _, _, hk, a1, a2, by rw [e37, if_pos (by decide)]; exact p26, fun r15 y1 y2 => by rw [e80, if_pos (by decide)]; exact q122 _ _ _, hp⟩
  have n3 : ¬ nI (y + 1) = (3 : Int32) := fun e => y2 (by have := (nI_eq (a := y + 1) (b := 3) (by omega) (by decide)).mp e; omega)
  have l3 : ¬ (3 : Int32) ≤ nI (y + 1) := n_ge (c := 3) (show y + 1 < 3 by omega) (by decide) rfl
  by_cases c1 : N2 2 k = 1
  · refine ⟨k, M1, M2, _, _, hk, a1, a2, by rw [e37, if_neg l3, if_pos c1], fun r15 y1 y2 => by rw [e80, if_neg n3, if_pos c1], ?_⟩
    refine tn_ h2 (fun c hc => u_j _ _ _ _ hc) (fun j hj => u_j _ _ _ _ hj) (fun i _ h2 => u_k _ _ _ _ h2) ?_ ?_ ⟨k, hk, ?_⟩ ⟨y + 1, by omega, u_s _ _ _ _⟩
    · rw [u_k _ _ _ _ (by decide), u_k _ _ _ _ (by decide), em2, t2]
    · rw [u_s, u_s]
    · rw [u_k _ _ _ _ (by decide)]; exact t2
  · exact ⟨k, M1, M2, _, _, hk, a1, a2, by rw [e37, if_neg l3, if_neg c1]; exact p26, fun r15 y1 y2 => by rw [e80, if_neg n3, if_neg c1]; exact q122 _ _ _, hp⟩
theorem rb_le {B B' : Nat} {M N : im_M} (h : RB B M N) (hB : B ≤ B') : RB B' M N := rx_to (k := 0) (rx_le (rx_of h 0) hB) (h.2.2.2.2 0 (by decide)).2.2
theorem sb_k {k : Nat} (hk : k < 3) : st_sb (some (12 + 10 * k)) = some k := by
  have c : k = 0 ∨ k = 1 ∨ k = 2 := by omega
  rcases c with rfl | rfl | rfl <;> rfl
theorem rn_ {w : Nat} (hw : w ≤ 500) : ∀ (n j B : Nat) (M N : im_M), RB B M N → B + (w - j) < 2 ^ 20 → j ≤ w → w < j + n → ∃ r M1 N1, gn_35_2 n (nI w) (nI j) M = some (r, M1) ∧ gn_120_15 n (nI w) (nI j) N = some (r, N1) ∧ RB (B + (w - j)) M1 N1
  | 0, j, B, M, N, _, _, h1, h2 => absurd h2 (by omega)
  | n + 1, j, B, M, N, h, hB, h1, h2 => by
    rw [gn_35_2, gn_120_15]
    by_cases hj : j = w
    · subst hj
      exact ⟨nI j, M, N, by rw [if_pos (nI_le (Nat.le_refl _) (by omega))], by rw [if_pos (nI_le (Nat.le_refl _) (by omega))], rb_le h (by omega)⟩
    rw [if_neg (nI_ge (show j < w by omega) (by omega)), if_neg (nI_ge (show j < w by omega) (by omega))]
    by_cases hyes : ∃ k, k < 3 ∧ N 2 k = 1
    · obtain ⟨k, M1, M2, M3, N3, hk, a1, a2, a3, b1, h3⟩ := it_ h (by omega) hyes
      obtain ⟨r, M4, N4, a4, b4, h4⟩ := rn_ hw n (j + 1) (B + 1) M3 N3 h3 (by omega) (by omega) (by omega)
      refine ⟨r, M4, N4, ?_, ?_, rb_le h4 (by omega)⟩
      · rw [a1]
        simp only [Option.bind_some]
        rw [if_neg (fun e => by cases e), sb_k hk]
        simp only [Option.bind_some, a2, a3, nI_1]
        exact a4
      · have : gn_120_50 (gn_120_15 n) (nI w) (nI j) N = some (r, N4) := by rw [b1, nI_1]; exact b4
        rw [this]
        by_cases c0 : N 2 0 = 1
        · rw [if_pos c0]
        rw [if_neg c0]
        by_cases c1 : N 2 1 = 1
        · rw [if_pos c1]
        rw [if_neg c1, if_pos]
        obtain ⟨q, hq, eq⟩ := hyes
        have d : q = 0 ∨ q = 1 ∨ q = 2 := by omega
        rcases d with rfl | rfl | rfl
        · exact absurd eq c0
        · exact absurd eq c1
        · exact eq
    · have hno : ∀ k, k < 3 → N 2 k ≠ 1 := fun k hk e => hyes ⟨k, hk, e⟩
      obtain ⟨x, hx, ex⟩ := h.2.2.1.2.1
      have em : M 9 2 = nI x := h.2.2.1.1.1.trans ex
      refine ⟨nI j, M, N, ?_, by rw [if_neg (hno 0 (by decide)), if_neg (hno 1 (by decide)), if_neg (hno 2 (by decide))], rb_le h (by omega)⟩
      rw [gn_36, em]
      rw [show gn_36_7 1000 (nI x) 0 M = _ from ne_no h hno 1000 0 x (by decide) (by decide) hx]
      rfl
theorem pu_run {t : Nat} {M N : im_M} (ht : t < 512) (h : Rl t M N) (a : Int32) : lw_P1 Rl t M N (gn_82 a) (gn_120 a) := by
  rcases cx_ a 501 501 rfl (by decide) with ho | ⟨w, hw, rfl⟩
  · refine rd_ h (-1) ?_ ?_
    · rw [gn_82]
      by_cases c0 : a < 0
      · rw [if_pos c0]; rfl
      · rw [if_neg c0, if_neg]
        · rfl
        · intro z
          have := ho.resolve_left c0
          rw [i_le] at z this
          have e1 : (501 : Int32).toInt = 501 := rfl
          have e2 : (500 : Int32).toInt = 500 := rfl
          omega
    · rw [gn_120, in_o 500 500 501 rfl rfl (by decide) ho]
      rfl
  · obtain ⟨r, M1, N1, a1, b1, h1⟩ := rn_ (w := w) (by omega) 1000 0 (500 * t) M N h (by omega) (Nat.zero_le _) (by omega)
    refine ⟨r, M1, N1, ?_, ?_, rb_le h1 (by omega)⟩
    · rw [gn_82, if_neg (nI_pos (by omega)), if_pos (show nI w ≤ (500 : Int32) from nI_le (a := w) (b := 500) (by omega) (by decide)), gn_35]
      rw [show gn_35_2 1000 (nI w) 0 M = _ from a1]
      rfl
    · rw [gn_120, in_n 500 500 rfl (by decide) (by omega)]
      simp (decide := true) only [Option.bind_some, if_false]
      exact b1
