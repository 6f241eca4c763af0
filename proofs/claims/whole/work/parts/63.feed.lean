/-! feed, clear -/
/-- the reference's cells of sandbox k are the same -/
def eq_K (k : Nat) (N N' : im_M) : Prop := (N' 2 k = N 2 k ∧ N' 4 k = N 4 k ∧ N' 5 k = N 5 k ∧ N' 7 k = N 7 k ∧ N' 9 k = N 9 k ∧ N' 10 k = N 10 k ∧ N' 12 k = N 12 k ∧ N' 13 k = N 13 k) ∧
  (∀ r, r < 8 → N' 3 (8 * k + r) = N 3 (8 * k + r)) ∧ (∀ i, i < 12 → N' 8 (12 * k + i) = N 8 (12 * k + i)) ∧ (∀ i, i < 4 → N' 6 (4 * k + i) = N 6 (4 * k + i)) ∧ (∀ i, i < 8 → N' 11 (8 * k + i) = N 11 (8 * k + i)) ∧ (∀ i, i < 48 → N' 14 (48 * k + i) = N 14 (48 * k + i)) ∧ ∀ a, 64 + 32 * k ≤ a → a < 96 + 32 * k → N' 1 a = N 1 a
theorem cg_Ks {k : Nat} {N N' : im_M} (hN : eq_K k N N') (h : rs_K N k) : rs_K N' k := by
  obtain ⟨⟨a2, a4, a5, a7, a9, a10, a12, a13⟩, b3, b8, b6, b11, b14, b1⟩ := hN
  obtain ⟨q1, q2, p, hp, q3, q4, q5⟩ := h
  refine ⟨fun p hp => ?_, ?_, p, hp, by rw [a4]; exact q3, ?_, ?_⟩
  · rw [b1 (64 + 32 * k + p) (by omega) (by omega), b1 (64 + 32 * k + p + 1) (by omega) (by omega)]
    exact q1 p hp
  · rw [b1 (64 + 32 * k + 31) (by omega) (by omega)]
    exact q2
  · rw [b3 6 (by decide), b1 (64 + 32 * k + p) (by omega) (by omega)]
    exact q4
  · rw [b3 7 (by decide), b1 (64 + 32 * k + p) (by omega) (by omega)]
    exact q5
theorem cg_Kp {t k : Nat} {M M' N N' : im_M} (h : rl_K M N k ∧ ri_K t N k ∧ (N 2 k = 1 → rs_K N k)) (hM : ∀ j, 12 + 10 * k ≤ j → j < 22 + 10 * k → M' j = M j) (hN : eq_K k N N') : rl_K M' N' k ∧ ri_K t N' k ∧ (N' 2 k = 1 → rs_K N' k) := by
  have hs := cg_Ks hN
  obtain ⟨⟨a2, a4, a5, a7, a9, a10, a12, a13⟩, b3, b8, b6, b11, b14, b1⟩ := hN
  obtain ⟨h1, h2, h3⟩ := h
  refine ⟨?_, ?_, fun e => hs (h3 (a2.symm.trans e))⟩
  · unfold rl_K at *
    rw [hM (12 + 10 * k) (by omega) (by omega), hM (13 + 10 * k) (by omega) (by omega), hM (14 + 10 * k) (by omega) (by omega), hM (15 + 10 * k) (by omega) (by omega), hM (16 + 10 * k) (by omega) (by omega), hM (17 + 10 * k) (by omega) (by omega), hM (18 + 10 * k) (by omega) (by omega), hM (19 + 10 * k) (by omega) (by omega), hM (20 + 10 * k) (by omega) (by omega), hM (21 + 10 * k) (by omega) (by omega), a2, a4, a5, a7, a9, a10, a12, a13]
    obtain ⟨c0, c1, c2, c3, c4, c5, c6, c7, c8, c9, c10, c11, c12, c13⟩ := h1
    refine ⟨c0, c1, c2, c3, c4, c5, c6, c7, c8, fun r hr => (c9 r hr).trans (b3 r hr).symm, fun i hi => (c10 i hi).trans (b8 i hi).symm, fun i hi => (c11 i hi).trans (b6 i hi).symm, fun i hi => (c12 i hi).trans (b11 i hi).symm, fun i hi => ?_⟩
    obtain ⟨d1, d2, d3⟩ := c13 i hi
    have e1 := b14 (3 * i) (by omega)
    have e2 := b14 (3 * i + 1) (by omega)
    have e3 := b14 (3 * i + 2) (by omega)
    exact ⟨d1.trans e1.symm, d2.trans e2.symm, d3.trans e3.symm⟩
  · unfold ri_K at *
    rw [a2, a5, a7, a9, a10, a13]
    exact h2
section FD
variable {t : Nat} {M N : im_M}
theorem pu_feed (h : Rl t M N) (a b : Int32) : lw_P1 Rl t M N (gn_81 a b) (gn_111 a b) := by
  rcases cx_ a 3 3 rfl (by decide) with ha | ⟨k, hk, rfl⟩
  · exact rd_ h 0 (by rw [gn_81, if_o ha]) (by rw [gn_111, in_o 2 2 3 rfl rfl (by decide) ha]; rfl)
  obtain ⟨hK, hI, hs⟩ := h.2.2.2.2 k hk
  obtain ⟨fd, hfd, ef⟩ := hI.2.2.1
  have ec : M (12 + 10 * k) 4 = nI fd := hK.2.1.trans ef
  have i3 := ib_n (n := 3) hk (by decide)
  have eM : gn_81 (nI k) b M = (if N 2 k = 0 then some (0, M) else ((gn_50 k b M).bind fun b4 => if b4.1 = 0 then (some ((0 : Int32), b4.2)) else (some ((1 : Int32), b4.2)))) := by
    rw [gn_81, if_n 3 hk (by decide) rfl, cl_n (by omega), hK.2.2.2.1]
  have eN : gn_111 (nI k) b N = (if N 2 k = 0 then some (0, N) else (if nI fd = (12 : Int32) then (some ((0 : Int32), N)) else (if st_ib (((12 : Int32) * nI k) + nI fd) 36 then some ((1 : Int32), im_u (im_u N 8 (12 * k + fd) b) 9 k (nI (fd + 1))) else none))) := by
    rw [gn_111, in_n 2 2 rfl (by decide) (by omega)]
    simp only [Option.bind_some]
    rw [if_neg (by decide), if_pos i3, cl_n (by omega)]
    simp only [if_pos i3, ef, u_j N 8 _ b (show 9 ≠ 8 by decide), nI_1, show (12 : Int32) * nI k = nI (12 * k) from pk_mul 12 k, nI_add, cl_n (show 12 * k + fd < 2 ^ 31 by omega)]
  by_cases h0 : N 2 k = 0
  · exact rd_ h 0 (by rw [eM, if_pos h0]) (by rw [eN, if_pos h0])
  rw [if_neg h0] at eM eN
  by_cases h12 : fd = 12
  · subst h12
    exact rd_ h 0 (by rw [eM, gn_50, ec, if_neg (by decide)]; rfl) (by rw [eN, if_pos (show nI 12 = 12 from rfl)])
  have hlt : fd < 12 := by omega
  have hne : ¬ nI fd = 12 := fun e => h12 ((nI_eq (by omega) (by decide)).mp (e.trans (show (12 : Int32) = nI 12 from rfl)))
  rw [if_neg hne, show (12 : Int32) * nI k = nI (12 * k) from pk_mul 12 k, nI_add, if_pos (ib_n (by omega) (by decide))] at eN
  refine ⟨1, im_u (im_u M (14 + 10 * k) fd b) (12 + 10 * k) 4 (nI (fd + 1)), _, ?_, eN, ?_⟩
  · rw [eM, gn_50, ec, if_pos (n_lt (c := 12) hlt (by decide) rfl), if_pos (ib_n hlt (by decide)), cl_n (by omega)]
    simp only [u_j M (14 + 10 * k) fd b (show 12 + 10 * k ≠ 14 + 10 * k by omega), ec, nI_1]
    rfl
  · have oM : ∀ j, j ≠ 12 + 10 * k → j ≠ 14 + 10 * k → im_u (im_u M (14 + 10 * k) fd b) (12 + 10 * k) 4 (nI (fd + 1)) j = M j := fun j h1 h2 => by rw [u_j _ _ _ _ h1, u_j _ _ _ _ h2]
    have oN : ∀ j, j ≠ 8 → j ≠ 9 → im_u (im_u N 8 (12 * k + fd) b) 9 k (nI (fd + 1)) j = N j := fun j h1 h2 => by rw [u_j _ _ _ _ h2, u_j _ _ _ _ h1]
    refine ⟨cg_S h.1 (fun j h1 h2 => oM j (by omega) (by omega)) (by rw [oN 0 (by decide) (by decide)]) (fun j h1 h2 => oN j (by omega) (by omega)), cg_C h.2.1 (by rw [oM 7 (by omega) (by omega)]) (oM 8 (by omega) (by omega)) (by rw [oN 0 (by decide) (by decide)]) (oN 21 (by decide) (by decide)), cg_M h.2.2.1 (oM 9 (by omega) (by omega)) (oM 10 (by omega) (by omega)) (by rw [oN 0 (by decide) (by decide)]) (by rw [oN 0 (by decide) (by decide)]) (oN 1 (by decide) (by decide)), cg_T h.2.2.2.1 (fun j h1 h2 => oM j (by omega) (by omega)) (by rw [oN 0 (by decide) (by decide)]) (oN 24 (by decide) (by decide)), fun k' hk' => ?_⟩
    by_cases hkk : k' = k
    · subst hkk
      obtain ⟨c0, c1, c2, c3, c4, c5, c6, c7, c8, c9, c10, c11, c12, c13⟩ := hK
      have hup := hI.up
      obtain ⟨d1, d2, d3, d4, d5, d6⟩ := hup
      refine ⟨⟨?_, ?_, ?_, ?_, ?_, ?_, ?_, ?_, ?_, ?_, ?_, ?_, ?_, ?_⟩, ⟨?_, ?_, ?_, ?_, ?_, ?_⟩, fun e => ?_⟩
      · rw [u_k _ _ _ _ (by decide), u_j _ _ _ _ (by omega)]; exact c0
      · rw [u_s, u_s]
      · rw [u_k _ _ _ _ (by decide), u_j _ _ _ _ (by omega), oN 4 (by decide) (by decide)]; exact c2
      · rw [u_k _ _ _ _ (by decide), u_j _ _ _ _ (by omega), oN 2 (by decide) (by decide)]; exact c3
      · rw [u_k _ _ _ _ (by decide), u_j _ _ _ _ (by omega), oN 7 (by decide) (by decide)]; exact c4
      · rw [u_k _ _ _ _ (by decide), u_j _ _ _ _ (by omega), oN 12 (by decide) (by decide)]; exact c5
      · rw [oM _ (by omega) (by omega), oN 5 (by decide) (by decide)]; exact c6
      · rw [oM _ (by omega) (by omega), oN 10 (by decide) (by decide)]; exact c7
      · rw [oM _ (by omega) (by omega), oN 13 (by decide) (by decide)]; exact c8
      · rw [oM _ (by omega) (by omega), oN 3 (by decide) (by decide)]; exact c9
      · intro i hi
        rw [u_j _ (12 + 10 * k') _ _ (by omega), u_i, u_j _ 9 _ _ (by decide), u_i, c10 i hi]
        by_cases e : i = fd
        · rw [if_pos e, if_pos (by omega)]
        · rw [if_neg e, if_neg (by omega)]
      · rw [oM _ (by omega) (by omega), oN 6 (by decide) (by decide)]; exact c11
      · rw [oM _ (by omega) (by omega), oN 11 (by decide) (by decide)]; exact c12
      · rw [oM (17 + 10 * k') (by omega) (by omega), oM (18 + 10 * k') (by omega) (by omega), oM (19 + 10 * k') (by omega) (by omega), oN 14 (by decide) (by decide)]; exact c13
      · rw [oN 2 (by decide) (by decide)]; exact ⟨d1.1, fun z => absurd z h0⟩
      · rw [oN 7 (by decide) (by decide)]; exact d2
      · exact ⟨fd + 1, by omega, u_s _ _ _ _⟩
      · rw [oN 10 (by decide) (by decide)]; exact d4
      · rw [oN 5 (by decide) (by decide)]; exact d5
      · rw [oN 13 (by decide) (by decide)]; exact d6
      · rw [oN 2 (by decide) (by decide)] at e
        have := hs e
        unfold rs_K at *
        rw [oN 1 (by decide) (by decide), oN 4 (by decide) (by decide), oN 3 (by decide) (by decide)]
        exact this
    · refine cg_Kp ((rl_up h).2.2.2.2 k' hk') (fun j h1 h2 => oM j (by omega) (by omega)) ⟨⟨by rw [oN 2 (by decide) (by decide)], by rw [oN 4 (by decide) (by decide)], by rw [oN 5 (by decide) (by decide)], by rw [oN 7 (by decide) (by decide)], ?_, by rw [oN 10 (by decide) (by decide)], by rw [oN 12 (by decide) (by decide)], by rw [oN 13 (by decide) (by decide)]⟩, fun r _ => by rw [oN 3 (by decide) (by decide)], fun i hi => ?_, fun i _ => by rw [oN 6 (by decide) (by decide)], fun i _ => by rw [oN 11 (by decide) (by decide)], fun i _ => by rw [oN 14 (by decide) (by decide)], fun a _ _ => by rw [oN 1 (by decide) (by decide)]⟩
      · rw [u_k _ _ _ _ hkk, u_j _ _ _ _ (by decide)]
      · rw [u_j _ 9 _ _ (by decide), u_k _ _ _ _ (by omega)]
/-- Arrays.fill -/
theorem fl_loop (q ln : Nat) (v : Int32) (hln : ln < 900) : ∀ (n i : Nat) (X : im_M), i ≤ ln → ln < i + n → gn_150_5 q ln n v (nI i) (nI ln) X = some (fun a b => if a = q ∧ i ≤ b ∧ b < ln then v else X a b)
  | 0, i, X, h1, h2 => absurd h2 (by omega)
  | n + 1, i, X, h1, h2 => by
    rw [gn_150_5]
    by_cases e : i = ln
    · subst e
      rw [if_pos (nI_le (Nat.le_refl _) (by omega))]
      congr 1
      funext a b
      rw [if_neg (by omega)]
    · have hlt : i < ln := by omega
      rw [if_neg (nI_ge hlt (by omega)), if_pos (ib_n hlt (by omega)), cl_n (by omega)]
      simp only [nI_1]
      rw [fl_loop q ln v hln n (i + 1) _ (by omega) (by omega)]
      congr 1
      funext a b
      by_cases ha : a = q
      · subst ha
        by_cases hb : b = i
        · subst hb
          rw [if_neg (by omega), u_s, if_pos ⟨rfl, by omega, by omega⟩]
        · by_cases hc : i ≤ b ∧ b < ln
          · rw [if_pos ⟨rfl, by omega, by omega⟩, if_pos ⟨rfl, hc.1, hc.2⟩]
          · rw [if_neg (by omega), if_neg (by omega), u_k _ _ _ _ hb]
      · rw [if_neg (fun z => ha z.1), if_neg (fun z => ha z.1), u_j _ _ _ _ ha]
theorem fl_fill (q ln : Nat) (v : Int32) (hln : ln < 900) (X : im_M) : gn_150 q ln v X = some (fun a b => if a = q ∧ b < ln then v else X a b) := by
  unfold gn_150
  rw [show (0 : Int32) = nI 0 from rfl, show Int32.ofNat ln = nI ln from rfl]
  simp only [fl_loop q ln v hln 1000 0 X (Nat.zero_le _) (by omega), Nat.zero_le, true_and]
theorem cr_loop : ∀ (n i : Nat) (X : im_M), i ≤ 8 → 8 < i + n → gn_95_12 n (nI i) X = some (fun a b => if a = 19 ∧ i ≤ b ∧ b < 8 then 0 else X a b)
  | 0, i, X, h1, h2 => absurd h2 (by omega)
  | n + 1, i, X, h1, h2 => by
    rw [gn_95_12]
    by_cases e : i = 8
    · subst e
      rw [if_pos (show (8 : Int32) ≤ nI 8 by decide)]
      congr 1
      funext a b
      rw [if_neg (by omega)]
    · have hlt : i < 8 := by omega
      rw [if_neg (n_ge (c := 8) hlt (by decide) rfl), if_pos (ib_n hlt (by omega)), cl_n (by omega)]
      simp only [nI_1, show ((0 : Int32) &&& 1) = 0 from rfl]
      rw [cr_loop n (i + 1) _ (by omega) (by omega)]
      congr 1
      funext a b
      by_cases ha : a = 19
      · subst ha
        by_cases hb : b = i
        · subst hb
          rw [if_neg (by omega), u_s, if_pos ⟨rfl, by omega, by omega⟩]
        · by_cases hc : i ≤ b ∧ b < 8
          · rw [if_pos ⟨rfl, by omega, by omega⟩, if_pos ⟨rfl, hc.1, hc.2⟩]
          · rw [if_neg (by omega), if_neg (by omega), u_k _ _ _ _ hb]
      · rw [if_neg (fun z => ha z.1), if_neg (fun z => ha z.1), u_j _ _ _ _ ha]
theorem pu_clear (h : Rl t M N) : lw_P0 Rl t M N gn_75 gn_95 := by
  obtain ⟨ln, hln, el, hp, hlab⟩ := h.1.2
  refine ⟨im_u (fun a b => if a = 6 ∧ b < 8 then -1 else im_u M 1 5 0 a b) 7 1 0, fun a b => if a = 19 ∧ 0 ≤ b ∧ b < 8 then 0 else im_u (im_u N 0 16 0) 0 23 0 a b, ?_, ?_, ?_⟩
  · rw [gn_75, gn_56]
    simp only [fl_fill 6 8 _ (by decide), Option.bind_some]
    rfl
  · rw [gn_95]
    simp only [show (0 : Int32) = nI 0 from rfl, cr_loop 1000 0 _ (by decide) (by decide)]
  · have oM : ∀ j, j ≠ 1 → j ≠ 6 → j ≠ 7 → im_u (fun a b => if a = 6 ∧ b < 8 then -1 else im_u M 1 5 0 a b) 7 1 0 j = M j := fun j h1 h2 h3 => by
      rw [u_j _ _ _ _ h3]
      funext b
      show (if j = 6 ∧ b < 8 then -1 else im_u M 1 5 0 j b) = M j b
      rw [if_neg (fun z => h2 z.1), u_j _ _ _ _ h1]
    have oN : ∀ j, j ≠ 0 → j ≠ 19 → (fun a b => if a = 19 ∧ 0 ≤ b ∧ b < 8 then 0 else im_u (im_u N 0 16 0) 0 23 0 a b : im_M) j = N j := fun j h1 h2 => by
      funext b
      show (if j = 19 ∧ 0 ≤ b ∧ b < 8 then 0 else im_u (im_u N 0 16 0) 0 23 0 j b) = N j b
      rw [if_neg (fun z => h2 z.1), u_j _ _ _ _ h1, u_j _ _ _ _ h1]
    have o0 : ∀ b, (fun a b => if a = 19 ∧ 0 ≤ b ∧ b < 8 then 0 else im_u (im_u N 0 16 0) 0 23 0 a b : im_M) 0 b = if b = 23 then 0 else if b = 16 then 0 else N 0 b := fun b => by
      show (if 0 = 19 ∧ 0 ≤ b ∧ b < 8 then 0 else im_u (im_u N 0 16 0) 0 23 0 0 b) = _
      rw [if_neg (fun z => absurd z.1 (by decide)), u_i, u_i]
    have n19 : ∀ b, b < 8 → (fun a b => if a = 19 ∧ 0 ≤ b ∧ b < 8 then 0 else im_u (im_u N 0 16 0) 0 23 0 a b : im_M) 19 b = 0 := fun b hb => by
      show (if 19 = 19 ∧ 0 ≤ b ∧ b < 8 then 0 else im_u (im_u N 0 16 0) 0 23 0 19 b) = _
      rw [if_pos ⟨rfl, Nat.zero_le _, hb⟩]
    refine ⟨⟨⟨?_, fun p hp24 => ?_, fun n hn => ?_⟩, 0, by decide, by rw [o0]; rfl, fun p hp0 => absurd hp0 (Nat.not_lt_zero _), fun n hn => Or.inl (n19 n hn)⟩, ⟨⟨?_, fun p hp31 => ?_⟩, 0, by decide, by rw [o0]; rfl⟩, cg_M h.2.2.1 (oM 9 (by decide) (by decide) (by decide)) (oM 10 (by decide) (by decide) (by decide)) ((o0 14).trans rfl) ((o0 15).trans rfl) (oN 1 (by decide) (by decide)), cg_T h.2.2.2.1 (fun j h1 h2 => oM j (by omega) (by omega) (by omega)) ((o0 30).trans rfl) (oN 24 (by decide) (by decide)), fun k hk => cg_K hk ((rl_up h).2.2.2.2 k hk) (fun j h1 h2 => oM j (by omega) (by omega) (by omega)) (fun j h1 h2 => oN j (by omega) (by omega))⟩
    · rw [o0, u_j _ _ _ _ (by decide)]
      show (if 1 = 6 ∧ 5 < 8 then -1 else im_u M 1 5 0 1 5) = _
      rw [if_neg (by decide), u_s]
      rfl
    · rw [oM 2 (by decide) (by decide) (by decide), oM 3 (by decide) (by decide) (by decide), oM 4 (by decide) (by decide) (by decide), oM 5 (by decide) (by decide) (by decide), oN 15 (by decide) (by decide), oN 16 (by decide) (by decide), oN 17 (by decide) (by decide), oN 18 (by decide) (by decide)]
      exact h.1.1.2.1 p hp24
    · rw [n19 n hn, if_pos rfl, u_j _ _ _ _ (by decide)]
      show (if 6 = 6 ∧ n < 8 then -1 else im_u M 1 5 0 6 n) = _
      rw [if_pos ⟨rfl, hn⟩]
    · rw [o0, u_s]
      rfl
    · rw [oM 8 (by decide) (by decide) (by decide), oN 21 (by decide) (by decide)]
      exact h.2.1.1.2 p hp31
end FD
