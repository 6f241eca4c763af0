/-! load -/
def cw_ (N : im_M) (w q : Nat) : Int32 := if q < w then N 21 q else 0
/-- the memory alone has changed: code words so far p, data words so far q -/
def lm_ (M0 N0 : im_M) (k w p q : Nat) (M N : im_M) : Prop := (∀ j, j ≠ 10 → M j = M0 j) ∧ (∀ j, j ≠ 1 → N j = N0 j) ∧ (∀ a, a < 256 → M 10 a = N 1 a) ∧ ∀ a, N 1 a = if 64 + 32 * k ≤ a ∧ a < 64 + 32 * k + p then cw_ N0 w (a - (64 + 32 * k)) else if 16 * k ≤ a ∧ a < 16 * k + q then 0 else N0 1 a
section LD
variable {M0 N0 : im_M} {k w : Nat}
theorem a64 (k : Nat) : (64 : Int32) + (32 : Int32) * nI k = nI (64 + 32 * k) := by
  rw [show (32 : Int32) * nI k = nI (32 * k) from pk_mul 32 k, show (64 : Int32) = nI 64 from rfl, nI_add]
theorem a16 (k : Nat) : (16 : Int32) * nI k = nI (16 * k) := pk_mul 16 k
theorem g33 {a : Nat} (ha : a < 256) (v : Int32) (M : im_M) : gn_33 (nI a) v M = some (im_u M 10 a v) := by
  rw [gn_33, if_n 256 ha (by decide) rfl, if_pos (ib_n ha (by decide)), cl_n (by omega)]
theorem ld_1 (hk : k < 3) (hw : w ≤ 31) (ec : M0 7 1 = nI w) (ew : N0 0 23 = nI w) (h8 : ∀ p, p < 31 → M0 8 p = N0 21 p) : ∀ (n p : Nat) (M N : im_M), p ≤ 32 → 32 < p + n → lm_ M0 N0 k w p 0 M N → ∃ M1 N1, gn_34_14 n (nI k) (nI p) k M = gn_34_47 1000 (nI k) 0 k M1 ∧ gn_110_15 n (nI k) (nI p) N = gn_110_61 1000 (nI k) 0 N1 ∧ lm_ M0 N0 k w 32 0 M1 N1
  | 0, p, M, N, h1, h2, _ => absurd h2 (by omega)
  | n + 1, p, M, N, h1, h2, h => by
    rw [gn_34_14, gn_110_15]
    by_cases hp : p = 32
    · subst hp
      exact ⟨M, N, by rw [if_pos (show (32 : Int32) ≤ nI 32 by decide)], by rw [if_pos (show (32 : Int32) ≤ nI 32 by decide)], h⟩
    have hlt : p < 32 := by omega
    obtain ⟨h3, h4, h5, h6⟩ := h
    have c7 : M 7 1 = nI w := by rw [h3 7 (by decide)]; exact ec
    have e0 : N 0 23 = nI w := by rw [h4 0 (by decide)]; exact ew
    have hat : gn_8 (nI p) M = some (cw_ N0 w p, M) := by
      unfold cw_
      by_cases hpw : p < w
      · rw [g8 c7 hw hpw, if_pos hpw, h3 8 (by decide), h8 p (by omega)]
      · rw [if_neg hpw, gn_8, c7, if_neg (nI_pos (by omega)), if_pos (nI_le (by omega) (by omega))]
    have hnext : lm_ M0 N0 k w (p + 1) 0 (im_u M 10 (64 + 32 * k + p) (cw_ N0 w p)) (im_u N 1 (64 + 32 * k + p) (cw_ N0 w p)) := by
      refine ⟨fun j hj => by rw [u_j _ _ _ _ hj]; exact h3 j hj, fun j hj => by rw [u_j _ _ _ _ hj]; exact h4 j hj, fun a ha => by rw [u_i, u_i, h5 a ha], fun a => ?_⟩
      rw [u_i]
      by_cases e : a = 64 + 32 * k + p
      · subst e
        rw [if_pos rfl, if_pos ⟨by omega, by omega⟩]
        congr 1
        omega
      · rw [if_neg e, h6 a]
        by_cases e2 : 64 + 32 * k ≤ a ∧ a < 64 + 32 * k + p
        · rw [if_pos e2, if_pos ⟨e2.1, by omega⟩]
        · rw [if_neg e2, if_neg (show ¬ (64 + 32 * k ≤ a ∧ a < 64 + 32 * k + (p + 1)) from fun z => e2 ⟨z.1, by omega⟩)]
    obtain ⟨M1, N1, f1, f2, f3⟩ := ld_1 hk hw ec ew h8 n (p + 1) _ _ (by omega) (by omega) hnext
    refine ⟨M1, N1, ?_, ?_, f3⟩
    · rw [if_neg (n_ge (c := 32) hlt (by decide) rfl), gn_47, a64]
      simp only [Option.bind_some, hat, nI_add, g33 (show 64 + 32 * k + p < 256 by omega), nI_1]
      exact f1
    · rw [if_neg (n_ge (c := 32) hlt (by decide) rfl), e0, a64, nI_add]
      have h52 : ∀ v, gn_110_52 (gn_110_15 n) (nI k) (nI p) v (nI (64 + 32 * k + p)) N = gn_110_15 n (nI k) (nI (p + 1)) (im_u N 1 (64 + 32 * k + p) v) := fun v => by
        rw [gn_110_52, if_pos (ib_n (show 64 + 32 * k + p < 256 by omega) (by decide)), cl_n (by omega), nI_1]
      by_cases hpw : p < w
      · rw [if_neg (nI_ge hpw (by omega)), if_pos (ib_n (show p < 31 by omega) (by decide)), cl_n (by omega), h52, h4 21 (by decide)]
        have : cw_ N0 w p = N0 21 p := by unfold cw_; rw [if_pos hpw]
        rw [this] at f2
        exact f2
      · rw [if_pos (nI_le (by omega) (by omega)), h52]
        have : cw_ N0 w p = 0 := by unfold cw_; rw [if_neg hpw]
        rw [this] at f2
        exact f2
theorem ld_2 (hk : k < 3) : ∀ (n p : Nat) (M N : im_M), p ≤ 16 → 16 < p + n → lm_ M0 N0 k w 32 p M N → ∃ M1 N1, gn_34_47 n (nI k) (nI p) k M = ((gn_48 k M1).bind fun b2 => if (b2 9 2) = nI k then some (im_u b2 9 3 (0 : Int32)) else some b2) ∧ gn_110_61 n (nI k) (nI p) N = gn_110_87 1000 (nI k) 0 N1 ∧ lm_ M0 N0 k w 32 16 M1 N1
  | 0, p, M, N, h1, h2, _ => absurd h2 (by omega)
  | n + 1, p, M, N, h1, h2, h => by
    rw [gn_34_47, gn_110_61]
    by_cases hp : p = 16
    · subst hp
      exact ⟨M, N, by rw [if_pos (show (16 : Int32) ≤ nI 16 by decide)], by rw [if_pos (show (16 : Int32) ≤ nI 16 by decide)], h⟩
    have hlt : p < 16 := by omega
    obtain ⟨h3, h4, h5, h6⟩ := h
    have hnext : lm_ M0 N0 k w 32 (p + 1) (im_u M 10 (16 * k + p) 0) (im_u N 1 (16 * k + p) 0) := by
      refine ⟨fun j hj => by rw [u_j _ _ _ _ hj]; exact h3 j hj, fun j hj => by rw [u_j _ _ _ _ hj]; exact h4 j hj, fun a ha => by rw [u_i, u_i, h5 a ha], fun a => ?_⟩
      rw [u_i]
      by_cases e : a = 16 * k + p
      · subst e
        rw [if_pos rfl, if_neg (by omega), if_pos ⟨by omega, by omega⟩]
      · rw [if_neg e, h6 a]
        by_cases e1 : 64 + 32 * k ≤ a ∧ a < 64 + 32 * k + 32
        · rw [if_pos e1, if_pos e1]
        · rw [if_neg e1, if_neg e1]
          by_cases e2 : 16 * k ≤ a ∧ a < 16 * k + p
          · rw [if_pos e2, if_pos ⟨e2.1, by omega⟩]
          · rw [if_neg e2, if_neg (fun z => e2 ⟨z.1, by omega⟩)]
    obtain ⟨M1, N1, f1, f2, f3⟩ := ld_2 hk n (p + 1) _ _ (by omega) (by omega) hnext
    refine ⟨M1, N1, ?_, ?_, f3⟩
    · rw [if_neg (n_ge (c := 16) hlt (by decide) rfl), gn_46, a16]
      simp only [Option.bind_some, nI_add, g33 (show 16 * k + p < 256 by omega), nI_1]
      exact f1
    · rw [if_neg (n_ge (c := 16) hlt (by decide) rfl), a16, nI_add, if_pos (ib_n (show 16 * k + p < 256 by omega) (by decide)), cl_n (by omega), nI_1]
      exact f2
def rv_ (k q : Nat) : Int32 := if q = 6 then nI (16 * k) else if q = 7 then nI (64 + 32 * k) else 0
def n3_ (k p : Nat) (N : im_M) : im_M := fun a b => if a = 3 ∧ 8 * k ≤ b ∧ b < 8 * k + p then rv_ k (b - 8 * k) else N a b
def nf_ (k : Nat) (N : im_M) : im_M := im_u (im_u (im_u (im_u (im_u (im_u (im_u (im_u N 4 k (nI (64 + 32 * k))) 5 k 0) 7 k 0) 9 k 0) 10 k 0) 12 k 0) 13 k 0) 2 k 1
theorem ld_3 (hk : k < 3) (N : im_M) : ∀ (n p : Nat), p ≤ 8 → 8 < p + n → gn_110_87 n (nI k) (nI p) (n3_ k p N) = (if (nf_ k (n3_ k 8 N)) 0 14 = nI k then gn_110_219 0 (nf_ k (n3_ k 8 N)) else gn_110_219 ((nf_ k (n3_ k 8 N)) 0 15) (nf_ k (n3_ k 8 N)))
  | 0, p, h1, h2 => absurd h2 (by omega)
  | n + 1, p, h1, h2 => by
    rw [gn_110_87]
    have i3 := ib_n (n := 3) hk (by decide)
    by_cases hp : p = 8
    · subst hp
      rw [if_pos (show (8 : Int32) ≤ nI 8 by decide)]
      simp only [if_pos i3, cl_n (show k < 2 ^ 31 by omega), a64]
      rfl
    have hlt : p < 8 := by omega
    have hnext : ∀ v, v = rv_ k p → im_u (n3_ k p N) 3 (8 * k + p) v = n3_ k (p + 1) N := fun v hv => by
      funext a b
      unfold im_u n3_
      by_cases ha : a = 3
      · subst ha
        rw [if_pos rfl]
        by_cases hb : b = 8 * k + p
        · subst hb
          rw [if_pos rfl, if_pos ⟨rfl, by omega, by omega⟩, hv]
          congr 1
          omega
        · rw [if_neg hb]
          by_cases hc : 8 * k ≤ b ∧ b < 8 * k + p
          · rw [if_pos ⟨rfl, hc.1, hc.2⟩, if_pos ⟨rfl, hc.1, by omega⟩]
          · rw [if_neg (fun z => hc ⟨z.2.1, z.2.2⟩), if_neg (fun z => hc ⟨z.2.1, by omega⟩)]
      · rw [if_neg ha, if_neg (fun z => ha z.1), if_neg (fun z => ha z.1)]
    have h133 : ∀ v, v = rv_ k p → gn_110_133 (gn_110_87 n) (nI k) (nI p) v ((8 : Int32) * nI k + nI p) (n3_ k p N) = gn_110_87 n (nI k) (nI (p + 1)) (n3_ k (p + 1) N) := fun v hv => by
      rw [gn_110_133, show (8 : Int32) * nI k = nI (8 * k) from pk_mul 8 k, nI_add, if_pos (ib_n (show 8 * k + p < 24 by omega) (by decide)), cl_n (by omega), nI_1, hnext v hv]
    have ih := ld_3 hk N n (p + 1) (by omega) (by omega)
    rw [if_neg (n_ge (c := 8) hlt (by decide) rfl)]
    by_cases h6 : p = 6
    · subst h6
      rw [if_pos (show nI 6 = 6 from rfl), h133 _ (by rw [a16]; rfl)]
      exact ih
    · rw [if_neg (fun e => h6 ((nI_eq (by omega) (by decide)).mp (e.trans (show (6 : Int32) = nI 6 from rfl))))]
      by_cases h7 : p = 7
      · subst h7
        rw [if_pos (show nI 7 = 7 from rfl), h133 _ (by rw [a64]; rfl)]
        exact ih
      · rw [if_neg (fun e => h7 ((nI_eq (by omega) (by decide)).mp (e.trans (show (7 : Int32) = nI 7 from rfl)))), h133 _ (by unfold rv_; rw [if_neg h6, if_neg h7])]
        exact ih
/-- the class's start of a sandbox -/
def ms_ (k : Nat) (M : im_M) : im_M := im_u (im_u (im_u (im_u (im_u (im_u (im_u (im_u (im_u (im_u (fun a b => if a = 13 + 10 * k ∧ b < 8 then 0 else M a b) (13 + 10 * k) 6 (nI (16 * k))) (13 + 10 * k) 7 (nI (64 + 32 * k))) (12 + 10 * k) 5 (nI (64 + 32 * k))) (12 + 10 * k) 6 1) (12 + 10 * k) 4 0) (12 + 10 * k) 9 0) (12 + 10 * k) 10 0) (15 + 10 * k + 1) 3 0) (15 + 10 * k) 1 0) (15 + 10 * k) 2 0
theorem g48 {M : im_M} (h0 : M (12 + 10 * k) 0 = nI k) : gn_48 k M = some (ms_ k M) := by
  have q : ∀ (X : im_M) (i : Nat) (v : Int32), im_u X (13 + 10 * k) i v (12 + 10 * k) 0 = X (12 + 10 * k) 0 := fun X i v => by rw [u_j _ _ _ _ (by omega)]
  have q0 : (if 12 + 10 * k = 13 + 10 * k ∧ 0 < 8 then 0 else M (12 + 10 * k) 0) = nI k := by
    rw [if_neg (by omega), h0]
  rw [gn_48, fl_fill _ 8 0 (by decide)]
  simp only [Option.bind_some, gn_46, gn_47, q]
  rw [q0]
  simp only [a16, a64, gn_13, gn_1, Option.bind_some, ms_]
end LD

theorem rw0 (k p : Nat) (v : Int32) : rs_w k p 0 v := by
  refine ⟨by decide, fun h => absurd h (by decide), fun h => absurd h (by decide), fun h => absurd h (by decide), fun h => absurd h (by decide), fun h => absurd (show wd_o 0 < 1 by decide) h, fun h => absurd (show wd_o 0 < 1 by decide) h⟩
/-- the turn's steps are set -/
theorem tn_up {t : Nat} {M N : im_M} (h : RB t M N) {x : Nat} (hx : x < 3) : RB t (im_u M 9 3 (nI x)) (im_u N 0 15 (nI x)) := by
  refine ⟨cg_S h.1 (fun j a b => u_j _ _ _ _ (by omega)) (u_k _ _ _ _ (by decide)) (fun j a b => u_j _ _ _ _ (by omega)), cg_C h.2.1 (by rw [u_j _ _ _ _ (by decide)]) (u_j _ _ _ _ (by decide)) (u_k _ _ _ _ (by decide)) (u_j _ _ _ _ (by decide)), ⟨⟨?_, ?_, ?_⟩, ?_, x, hx, u_s _ _ _ _⟩, cg_T h.2.2.2.1 (fun j a b => u_j _ _ _ _ (by omega)) (u_k _ _ _ _ (by decide)) (u_j _ _ _ _ (by decide)), fun k hk => cg_K hk (h.2.2.2.2 k hk) (fun j a b => u_j _ _ _ _ (by omega)) (fun j a b => u_j _ _ _ _ (by omega))⟩
  · rw [u_k _ _ _ _ (by decide), u_k _ _ _ _ (by decide)]; exact h.2.2.1.1.1
  · rw [u_s, u_s]
  · rw [u_j _ _ _ _ (by decide), u_j _ _ _ _ (by decide)]; exact h.2.2.1.1.2.2
  · rw [u_k _ _ _ _ (by decide)]; exact h.2.2.1.2.1
theorem u_id (N : im_M) (j k : Nat) : im_u N j k (N j k) = N := by
  funext a b
  unfold im_u
  by_cases ha : a = j
  · subst ha
    rw [if_pos rfl]
    by_cases hb : b = k
    · subst hb; rw [if_pos rfl]
    · rw [if_neg hb]
  · rw [if_neg ha]
theorem pu_load {t : Nat} {M N : im_M} (h : Rl t M N) (a : Int32) : lw_P1 Rl t M N (gn_80 a) (gn_110 a) := by
  rcases cx_ a 3 3 rfl (by decide) with ha | ⟨k, hk, rfl⟩
  · exact rd_ h 0 (by rw [gn_80, g45o ha]; rfl) (by rw [gn_110, gn_109, in_o 2 2 3 rfl rfl (by decide) ha]; rfl)
  obtain ⟨w, r, hw, ew, ec, f1, f2, f3⟩ := ver_ h hk
  by_cases hr : r = -1
  case neg =>
    refine rd_ h 0 ?_ ?_
    · rw [gn_80, g45n hk]
      simp only [Option.bind_some]
      rw [if_neg (by decide), f1]
      simp only [Option.bind_some]
      rw [if_neg hr]
    · rw [gn_110, f2]
      simp only [Option.bind_some]
      rw [if_neg hr]
  have hsv := f3 hr
  have hl0 : lm_ M N k w 0 0 M N := ⟨fun _ _ => rfl, fun _ _ => rfl, h.2.2.1.1.2.2, fun a => by rw [if_neg (by omega), if_neg (by omega)]⟩
  obtain ⟨M1, N1, a1, b1, l1⟩ := ld_1 hk hw ec ew h.2.1.1.2 1000 0 M N (by decide) (by decide) hl0
  obtain ⟨M2, N2, a2, b2, l2⟩ := ld_2 hk 1000 0 M1 N1 (by decide) (by decide) l1
  have b3 := ld_3 hk N2 1000 0 (by decide) (by decide)
  have n30 : n3_ k 0 N2 = N2 := by
    funext a b
    unfold n3_
    rw [if_neg (by omega)]
  rw [n30] at b3
  obtain ⟨l3, l4, l5, l6⟩ := l2
  obtain ⟨hK, hI, hs⟩ := h.2.2.2.2 k hk
  have h48 := g48 (k := k) (M := M2) (by rw [l3 _ (by omega)]; exact hK.1)
  have eM : gn_80 (nI k) M = (if (ms_ k M2) 9 2 = nI k then some (1, im_u (ms_ k M2) 9 3 0) else some (1, ms_ k M2)) := by
    rw [gn_80, g45n hk]
    simp only [Option.bind_some]
    rw [if_neg (by decide), f1]
    simp only [Option.bind_some]
    rw [if_pos hr, gn_34, if_n 3 hk (by decide) rfl, cl_n (by omega), show gn_34_14 1000 (nI k) 0 k M = _ from a1, show gn_34_47 1000 (nI k) 0 k M1 = _ from a2, h48]
    simp only [Option.bind_some]
    by_cases e : (ms_ k M2) 9 2 = nI k
    · rw [if_pos e, if_pos e]; rfl
    · rw [if_neg e, if_neg e]; rfl
  have eN : gn_110 (nI k) N = (if (nf_ k (n3_ k 8 N2)) 0 14 = nI k then some (1, im_u (nf_ k (n3_ k 8 N2)) 0 15 0) else some (1, nf_ k (n3_ k 8 N2))) := by
    rw [gn_110, f2]
    simp only [Option.bind_some]
    rw [if_pos hr, show gn_110_15 1000 (nI k) 0 N = _ from b1, show gn_110_61 1000 (nI k) 0 N1 = _ from b2, show gn_110_87 1000 (nI k) 0 N2 = _ from b3]
    simp only [gn_110_219, u_id]
  generalize hMa : ms_ k M2 = Ma at eM
  generalize hNa : nf_ k (n3_ k 8 N2) = Na at eN
  -- the cells of the new worlds
  have oM : ∀ j, (j < 12 + 10 * k ∨ 22 + 10 * k ≤ j) → j ≠ 10 → Ma j = M j := fun j hj h10 => by
    rw [← hMa, ms_, u_j _ _ _ _ (by omega), u_j _ _ _ _ (by omega), u_j _ _ _ _ (by omega), u_j _ _ _ _ (by omega), u_j _ _ _ _ (by omega), u_j _ _ _ _ (by omega), u_j _ _ _ _ (by omega), u_j _ _ _ _ (by omega), u_j _ _ _ _ (by omega), u_j _ _ _ _ (by omega)]
    funext b
    show (if j = 13 + 10 * k ∧ b < 8 then 0 else M2 j b) = M j b
    rw [if_neg (by omega), l3 j h10]
  have oM10 : Ma 10 = M2 10 := by
    rw [← hMa, ms_, u_j _ _ _ _ (by omega), u_j _ _ _ _ (by omega), u_j _ _ _ _ (by omega), u_j _ _ _ _ (by omega), u_j _ _ _ _ (by omega), u_j _ _ _ _ (by omega), u_j _ _ _ _ (by omega), u_j _ _ _ _ (by omega), u_j _ _ _ _ (by omega), u_j _ _ _ _ (by omega)]
    funext b
    show (if 10 = 13 + 10 * k ∧ b < 8 then 0 else M2 10 b) = M2 10 b
    rw [if_neg (by omega)]
  have n3o : ∀ j, j ≠ 3 → n3_ k 8 N2 j = N2 j := fun j hj => by
    funext b
    unfold n3_
    rw [if_neg (fun z => hj z.1)]
  have oN : ∀ j, j ≠ 1 → j ≠ 2 → j ≠ 3 → j ≠ 4 → j ≠ 5 → j ≠ 7 → j ≠ 9 → j ≠ 10 → j ≠ 12 → j ≠ 13 → Na j = N j := fun j q1 q2 q3 q4 q5 q7 q9 q10 q12 q13 => by
    rw [← hNa, nf_, u_j _ _ _ _ q2, u_j _ _ _ _ q13, u_j _ _ _ _ q12, u_j _ _ _ _ q10, u_j _ _ _ _ q9, u_j _ _ _ _ q7, u_j _ _ _ _ q5, u_j _ _ _ _ q4, n3o j q3, l4 j q1]
  have oN1 : Na 1 = N2 1 := by
    rw [← hNa, nf_, u_j _ _ _ _ (by decide), u_j _ _ _ _ (by decide), u_j _ _ _ _ (by decide), u_j _ _ _ _ (by decide), u_j _ _ _ _ (by decide), u_j _ _ _ _ (by decide), u_j _ _ _ _ (by decide), u_j _ _ _ _ (by decide), n3o 1 (by decide)]
  have oN3 : ∀ b, Na 3 b = if 8 * k ≤ b ∧ b < 8 * k + 8 then rv_ k (b - 8 * k) else N 3 b := fun b => by
    rw [← hNa, nf_, u_j _ _ _ _ (by decide), u_j _ _ _ _ (by decide), u_j _ _ _ _ (by decide), u_j _ _ _ _ (by decide), u_j _ _ _ _ (by decide), u_j _ _ _ _ (by decide), u_j _ _ _ _ (by decide), u_j _ _ _ _ (by decide)]
    unfold n3_
    rw [l4 3 (by decide)]
    by_cases e : 8 * k ≤ b ∧ b < 8 * k + 8
    · rw [if_pos ⟨rfl, e.1, e.2⟩, if_pos e]
    · rw [if_neg (fun z => e z.2), if_neg e]
  -- one number of a sandbox, in the reference
  have oNs : ∀ (j : Nat) (v : Int32), (∀ i, nf_ k (n3_ k 8 N2) j i = if i = k then v else N j i) → ∀ i, Na j i = if i = k then v else N j i := fun j v hv i => by rw [← hNa]; exact hv i
  have s2 := oNs 2 1 (fun i => by rw [nf_, u_i, u_j _ _ _ _ (by decide), u_j _ _ _ _ (by decide), u_j _ _ _ _ (by decide), u_j _ _ _ _ (by decide), u_j _ _ _ _ (by decide), u_j _ _ _ _ (by decide), u_j _ _ _ _ (by decide), n3o 2 (by decide), l4 2 (by decide)])
  have s13 := oNs 13 0 (fun i => by rw [nf_, u_j _ _ _ _ (by decide), u_i, u_j _ _ _ _ (by decide), u_j _ _ _ _ (by decide), u_j _ _ _ _ (by decide), u_j _ _ _ _ (by decide), u_j _ _ _ _ (by decide), u_j _ _ _ _ (by decide), n3o 13 (by decide), l4 13 (by decide)])
  have s12 := oNs 12 0 (fun i => by rw [nf_, u_j _ _ _ _ (by decide), u_j _ _ _ _ (by decide), u_i, u_j _ _ _ _ (by decide), u_j _ _ _ _ (by decide), u_j _ _ _ _ (by decide), u_j _ _ _ _ (by decide), u_j _ _ _ _ (by decide), n3o 12 (by decide), l4 12 (by decide)])
  have s10 := oNs 10 0 (fun i => by rw [nf_, u_j _ _ _ _ (by decide), u_j _ _ _ _ (by decide), u_j _ _ _ _ (by decide), u_i, u_j _ _ _ _ (by decide), u_j _ _ _ _ (by decide), u_j _ _ _ _ (by decide), u_j _ _ _ _ (by decide), n3o 10 (by decide), l4 10 (by decide)])
  have s9 := oNs 9 0 (fun i => by rw [nf_, u_j _ _ _ _ (by decide), u_j _ _ _ _ (by decide), u_j _ _ _ _ (by decide), u_j _ _ _ _ (by decide), u_i, u_j _ _ _ _ (by decide), u_j _ _ _ _ (by decide), u_j _ _ _ _ (by decide), n3o 9 (by decide), l4 9 (by decide)])
  have s7 := oNs 7 0 (fun i => by rw [nf_, u_j _ _ _ _ (by decide), u_j _ _ _ _ (by decide), u_j _ _ _ _ (by decide), u_j _ _ _ _ (by decide), u_j _ _ _ _ (by decide), u_i, u_j _ _ _ _ (by decide), u_j _ _ _ _ (by decide), n3o 7 (by decide), l4 7 (by decide)])
  have s5 := oNs 5 0 (fun i => by rw [nf_, u_j _ _ _ _ (by decide), u_j _ _ _ _ (by decide), u_j _ _ _ _ (by decide), u_j _ _ _ _ (by decide), u_j _ _ _ _ (by decide), u_j _ _ _ _ (by decide), u_i, u_j _ _ _ _ (by decide), n3o 5 (by decide), l4 5 (by decide)])
  have s4 := oNs 4 (nI (64 + 32 * k)) (fun i => by rw [nf_, u_j _ _ _ _ (by decide), u_j _ _ _ _ (by decide), u_j _ _ _ _ (by decide), u_j _ _ _ _ (by decide), u_j _ _ _ _ (by decide), u_j _ _ _ _ (by decide), u_j _ _ _ _ (by decide), u_i, n3o 4 (by decide), l4 4 (by decide)])
  have b12 : ∀ b, Ma (12 + 10 * k) b = if b = 10 then 0 else if b = 9 then 0 else if b = 4 then 0 else if b = 6 then 1 else if b = 5 then nI (64 + 32 * k) else M (12 + 10 * k) b := fun b => by
    rw [← hMa, ms_, u_j _ _ _ _ (by omega), u_j _ _ _ _ (by omega), u_j _ _ _ _ (by omega), u_i, u_i, u_i, u_i, u_i, u_j _ _ _ _ (by omega), u_j _ _ _ _ (by omega)]
    show (if b = 10 then 0 else if b = 9 then 0 else if b = 4 then 0 else if b = 6 then 1 else if b = 5 then nI (64 + 32 * k) else (if 12 + 10 * k = 13 + 10 * k ∧ b < 8 then 0 else M2 (12 + 10 * k) b)) = _
    rw [if_neg (show ¬ (12 + 10 * k = 13 + 10 * k ∧ b < 8) by omega), l3 _ (by omega)]
  have b13 : ∀ b, b < 8 → Ma (13 + 10 * k) b = rv_ k b := fun b hb => by
    rw [← hMa, ms_, u_j _ _ _ _ (by omega), u_j _ _ _ _ (by omega), u_j _ _ _ _ (by omega), u_j _ _ _ _ (by omega), u_j _ _ _ _ (by omega), u_j _ _ _ _ (by omega), u_j _ _ _ _ (by omega), u_j _ _ _ _ (by omega), u_i, u_i]
    show (if b = 7 then nI (64 + 32 * k) else if b = 6 then nI (16 * k) else (if 13 + 10 * k = 13 + 10 * k ∧ b < 8 then 0 else M2 (13 + 10 * k) b)) = rv_ k b
    rw [if_pos (show 13 + 10 * k = 13 + 10 * k ∧ b < 8 from ⟨rfl, hb⟩)]
    unfold rv_
    by_cases h7 : b = 7
    · rw [if_pos h7, if_neg (by omega), if_pos h7]
    · rw [if_neg h7]
      by_cases h6 : b = 6
      · rw [if_pos h6, if_pos h6]
      · rw [if_neg h6, if_neg h6, if_neg h7]
  have b15 : ∀ b, Ma (15 + 10 * k) b = if b = 2 then 0 else if b = 1 then 0 else M (15 + 10 * k) b := fun b => by
    rw [← hMa, ms_, u_i, u_i, u_j _ _ _ _ (by omega), u_j _ _ _ _ (by omega), u_j _ _ _ _ (by omega), u_j _ _ _ _ (by omega), u_j _ _ _ _ (by omega), u_j _ _ _ _ (by omega), u_j _ _ _ _ (by omega), u_j _ _ _ _ (by omega)]
    show (if b = 2 then 0 else if b = 1 then 0 else (if 15 + 10 * k = 13 + 10 * k ∧ b < 8 then 0 else M2 (15 + 10 * k) b)) = _
    rw [if_neg (show ¬ (15 + 10 * k = 13 + 10 * k ∧ b < 8) by omega), l3 _ (by omega)]
  have b16 : Ma (16 + 10 * k) 3 = 0 := by
    rw [← hMa, ms_, u_j _ _ _ _ (by omega), u_j _ _ _ _ (by omega), show 16 + 10 * k = 15 + 10 * k + 1 by omega, u_s]
  have bo : ∀ j, (j = 14 + 10 * k ∨ (17 + 10 * k ≤ j ∧ j ≤ 21 + 10 * k)) → Ma j = M j := fun j hj => by
    rw [← hMa, ms_, u_j _ _ _ _ (by omega), u_j _ _ _ _ (by omega), u_j _ _ _ _ (by omega), u_j _ _ _ _ (by omega), u_j _ _ _ _ (by omega), u_j _ _ _ _ (by omega), u_j _ _ _ _ (by omega), u_j _ _ _ _ (by omega), u_j _ _ _ _ (by omega), u_j _ _ _ _ (by omega)]
    funext b
    show (if j = 13 + 10 * k ∧ b < 8 then 0 else M2 j b) = M j b
    rw [if_neg (by omega), l3 j (by omega)]
  have hRa : Rl (t + 1) Ma Na := by
    refine ⟨cg_S h.1 (fun j q1 q2 => oM j (by omega) (by omega)) (by rw [oN 0 (by decide) (by decide) (by decide) (by decide) (by decide) (by decide) (by decide) (by decide) (by decide) (by decide)]) (fun j q1 q2 => oN j (by omega) (by omega) (by omega) (by omega) (by omega) (by omega) (by omega) (by omega) (by omega) (by omega)), cg_C h.2.1 (by rw [oM 7 (by omega) (by decide)]) (oM 8 (by omega) (by decide)) (by rw [oN 0 (by decide) (by decide) (by decide) (by decide) (by decide) (by decide) (by decide) (by decide) (by decide) (by decide)]) (oN 21 (by decide) (by decide) (by decide) (by decide) (by decide) (by decide) (by decide) (by decide) (by decide) (by decide)), ⟨⟨?_, ?_, ?_⟩, ?_, ?_⟩, cg_T h.2.2.2.1 (fun j q1 q2 => oM j (by omega) (by omega)) (by rw [oN 0 (by decide) (by decide) (by decide) (by decide) (by decide) (by decide) (by decide) (by decide) (by decide) (by decide)]) (oN 24 (by decide) (by decide) (by decide) (by decide) (by decide) (by decide) (by decide) (by decide) (by decide) (by decide)), fun k' hk' => ?_⟩
    · rw [oM 9 (by omega) (by decide), oN 0 (by decide) (by decide) (by decide) (by decide) (by decide) (by decide) (by decide) (by decide) (by decide) (by decide)]; exact h.2.2.1.1.1
    · rw [oM 9 (by omega) (by decide), oN 0 (by decide) (by decide) (by decide) (by decide) (by decide) (by decide) (by decide) (by decide) (by decide) (by decide)]; exact h.2.2.1.1.2.1
    · rw [oM10, oN1]; exact l5
    · rw [oN 0 (by decide) (by decide) (by decide) (by decide) (by decide) (by decide) (by decide) (by decide) (by decide) (by decide)]; exact h.2.2.1.2.1
    · rw [oN 0 (by decide) (by decide) (by decide) (by decide) (by decide) (by decide) (by decide) (by decide) (by decide) (by decide)]; exact h.2.2.1.2.2
    by_cases hkk : k' = k
    · subst hkk
      obtain ⟨c0, c1, c2, c3, c4, c5, c6, c7, c8, c9, c10, c11, c12, c13⟩ := hK
      have t2 : Na 2 k' = 1 := by rw [s2, if_pos rfl]
      have t4 : Na 4 k' = nI (64 + 32 * k') := by rw [s4, if_pos rfl]
      have t5 : Na 5 k' = 0 := by rw [s5, if_pos rfl]
      have t7 : Na 7 k' = 0 := by rw [s7, if_pos rfl]
      have t9 : Na 9 k' = 0 := by rw [s9, if_pos rfl]
      have t10 : Na 10 k' = 0 := by rw [s10, if_pos rfl]
      have t12 : Na 12 k' = 0 := by rw [s12, if_pos rfl]
      have t13 : Na 13 k' = 0 := by rw [s13, if_pos rfl]
      refine ⟨⟨by rw [b12]; exact c0, by rw [b12, t9]; rfl, by rw [b12, t4]; rfl, by rw [b12, t2]; rfl, by rw [b12, t7]; rfl, by rw [b12, t12]; rfl, by rw [b15, t5]; rfl, by rw [b15, t10]; rfl, by rw [b16, t13], fun q hq => ?_, fun i hi => ?_, fun i hi => ?_, fun i hi => ?_, fun i hi => ?_⟩, ⟨⟨⟨1, by decide, by rw [t2]; rfl⟩, fun _ => t9⟩, ⟨0, by decide, by rw [t7]; rfl⟩, ⟨0, by decide, by rw [t9]; rfl⟩, ⟨0, by decide, by rw [t10]; rfl⟩, ⟨0, by decide, by rw [t5]; rfl⟩, ⟨0, by omega, by rw [t13]; rfl⟩⟩, fun _ => ?_⟩
      · rw [b13 q hq, oN3, if_pos ⟨by omega, by omega⟩]
        congr 1
        omega
      · rw [bo _ (Or.inl rfl), oN 8 (by decide) (by decide) (by decide) (by decide) (by decide) (by decide) (by decide) (by decide) (by decide) (by decide)]; exact c10 i hi
      · rw [bo _ (Or.inr ⟨by omega, by omega⟩), oN 6 (by decide) (by decide) (by decide) (by decide) (by decide) (by decide) (by decide) (by decide) (by decide) (by decide)]; exact c11 i hi
      · rw [bo _ (Or.inr ⟨by omega, by omega⟩), oN 11 (by decide) (by decide) (by decide) (by decide) (by decide) (by decide) (by decide) (by decide) (by decide) (by decide)]; exact c12 i hi
      · rw [bo (17 + 10 * k') (Or.inr ⟨by omega, by omega⟩), bo (18 + 10 * k') (Or.inr ⟨by omega, by omega⟩), bo (19 + 10 * k') (Or.inr ⟨by omega, by omega⟩), oN 14 (by decide) (by decide) (by decide) (by decide) (by decide) (by decide) (by decide) (by decide) (by decide) (by decide)]; exact c13 i hi
      · have hcode : ∀ q, q < 32 → Na 1 (64 + 32 * k' + q) = cw_ N w q := fun q hq => by
          rw [oN1, l6, if_pos ⟨by omega, by omega⟩]
          congr 1
          omega
        refine ⟨fun q hq => ?_, ?_, 0, by decide, by rw [t4]; rfl, Or.inl ⟨0, by decide, ?_⟩, Or.inl ⟨0, by decide, ?_⟩⟩
        · rw [hcode q (by omega), show 64 + 32 * k' + q + 1 = 64 + 32 * k' + (q + 1) by omega, hcode (q + 1) (by omega)]
          by_cases hqw : q < w
          · have hnx : cw_ N w (q + 1) = nx_w N w q := rfl
            have hcq : cw_ N w q = N 21 q := by unfold cw_; rw [if_pos hqw]
            rw [hnx, hcq]
            obtain ⟨⟨v1, v2, v3, v4, v5⟩, v6, v7⟩ := hsv q hqw
            exact ⟨v1, fun e => by obtain ⟨y, hy, ey⟩ := v2 e; exact ⟨y, by omega, ey⟩, v3, v4, v5, v6, v7⟩
          · have hcq : cw_ N w q = 0 := by unfold cw_; rw [if_neg hqw]
            rw [hcq]
            exact rw0 _ _ _
        · rw [hcode 31 (by decide)]
          unfold cw_
          rw [if_neg (by omega)]
        · rw [oN3, if_pos ⟨by omega, by omega⟩, show 8 * k' + 6 - 8 * k' = 6 by omega]; rfl
        · rw [oN3, if_pos ⟨by omega, by omega⟩, show 8 * k' + 7 - 8 * k' = 7 by omega]; rfl
    · refine cg_Kp ((rl_up h).2.2.2.2 k' hk') (fun j q1 q2 => oM j (by omega) (by omega)) ⟨⟨by rw [s2, if_neg hkk], by rw [s4, if_neg hkk], by rw [s5, if_neg hkk], by rw [s7, if_neg hkk], by rw [s9, if_neg hkk], by rw [s10, if_neg hkk], by rw [s12, if_neg hkk], by rw [s13, if_neg hkk]⟩, fun q hq => by rw [oN3, if_neg (by omega)], fun i _ => by rw [oN 8 (by decide) (by decide) (by decide) (by decide) (by decide) (by decide) (by decide) (by decide) (by decide) (by decide)], fun i _ => by rw [oN 6 (by decide) (by decide) (by decide) (by decide) (by decide) (by decide) (by decide) (by decide) (by decide) (by decide)], fun i _ => by rw [oN 11 (by decide) (by decide) (by decide) (by decide) (by decide) (by decide) (by decide) (by decide) (by decide) (by decide)], fun i _ => by rw [oN 14 (by decide) (by decide) (by decide) (by decide) (by decide) (by decide) (by decide) (by decide) (by decide) (by decide)], fun q q1 q2 => ?_⟩
      rw [oN1, l6, if_neg (by omega), if_neg (by omega)]
  have h14 : Ma 9 2 = Na 0 14 := hRa.2.2.1.1.1
  by_cases e : Na 0 14 = nI k
  · rw [if_pos e] at eN
    rw [if_pos (h14.trans e)] at eM
    exact ⟨1, _, _, eM, eN, tn_up (x := 0) hRa (by decide)⟩
  · rw [if_neg e] at eN
    rw [if_neg (fun z => e (h14.symm.trans z))] at eM
    exact ⟨1, _, _, eM, eN, hRa⟩
