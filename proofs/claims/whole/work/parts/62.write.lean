/-! what a change elsewhere leaves as it is; then the calls that write -/
theorem cg_S {M M' N N' : im_M} (h : rl_S M N ∧ ri_S N) (hM : ∀ j, 1 ≤ j → j ≤ 6 → M' j = M j) (h0 : N' 0 16 = N 0 16) (hN : ∀ j, 15 ≤ j → j ≤ 20 → N' j = N j) : rl_S M' N' ∧ ri_S N' := by
  unfold rl_S ri_S at *
  rw [hM 1 (by decide) (by decide), hM 2 (by decide) (by decide), hM 3 (by decide) (by decide), hM 4 (by decide) (by decide), hM 5 (by decide) (by decide), hM 6 (by decide) (by decide), h0, hN 15 (by decide) (by decide), hN 16 (by decide) (by decide), hN 17 (by decide) (by decide), hN 18 (by decide) (by decide), hN 19 (by decide) (by decide), hN 20 (by decide) (by decide)]
  exact h
theorem cg_C {M M' N N' : im_M} (h : rl_C M N ∧ ri_C N) (h7 : M' 7 1 = M 7 1) (h8 : M' 8 = M 8) (h0 : N' 0 23 = N 0 23) (hN : N' 21 = N 21) : rl_C M' N' ∧ ri_C N' := by
  unfold rl_C ri_C at *
  rw [h7, h8, h0, hN]
  exact h
theorem cg_M {M M' N N' : im_M} (h : rl_M M N ∧ ri_M N) (h9 : M' 9 = M 9) (h10 : M' 10 = M 10) (h14 : N' 0 14 = N 0 14) (h15 : N' 0 15 = N 0 15) (hN : N' 1 = N 1) : rl_M M' N' ∧ ri_M N' := by
  unfold rl_M ri_M at *
  rw [h9, h10, h14, h15, hN]
  exact h
theorem cg_T {M M' N N' : im_M} (h : rl_T M N ∧ ri_T N) (hM : ∀ j, 44 ≤ j → j ≤ 47 → M' j = M j) (h0 : N' 0 30 = N 0 30) (hN : N' 24 = N 24) : rl_T M' N' ∧ ri_T N' := by
  unfold rl_T ri_T at *
  rw [hM 44 (by decide) (by decide), hM 45 (by decide) (by decide), hM 46 (by decide) (by decide), hM 47 (by decide) (by decide), h0, hN]
  exact h
theorem cg_K {t k : Nat} {M M' N N' : im_M} (hk : k < 3) (h : rl_K M N k ∧ ri_K t N k ∧ (N 2 k = 1 → rs_K N k)) (hM : ∀ j, 12 + 10 * k ≤ j → j < 22 + 10 * k → M' j = M j) (hN : ∀ j, 1 ≤ j → j ≤ 14 → N' j = N j) : rl_K M' N' k ∧ ri_K t N' k ∧ (N' 2 k = 1 → rs_K N' k) := by
  unfold rl_K ri_K rs_K at *
  rw [hM (12 + 10 * k) (by omega) (by omega), hM (13 + 10 * k) (by omega) (by omega), hM (14 + 10 * k) (by omega) (by omega), hM (15 + 10 * k) (by omega) (by omega), hM (16 + 10 * k) (by omega) (by omega), hM (17 + 10 * k) (by omega) (by omega), hM (18 + 10 * k) (by omega) (by omega), hM (19 + 10 * k) (by omega) (by omega), hM (20 + 10 * k) (by omega) (by omega), hM (21 + 10 * k) (by omega) (by omega),
    hN 1 (by decide) (by decide), hN 2 (by decide) (by decide), hN 3 (by decide) (by decide), hN 4 (by decide) (by decide), hN 5 (by decide) (by decide), hN 6 (by decide) (by decide), hN 7 (by decide) (by decide), hN 8 (by decide) (by decide), hN 9 (by decide) (by decide), hN 10 (by decide) (by decide), hN 11 (by decide) (by decide), hN 12 (by decide) (by decide), hN 13 (by decide) (by decide), hN 14 (by decide) (by decide)]
  exact h
theorem u_s (M : im_M) (j k : Nat) (x : Int32) : im_u M j k x j k = x := by simp [im_u]
theorem u_k (M : im_M) (j k : Nat) (x : Int32) {i : Nat} (h : i ≠ k) : im_u M j k x j i = M j i := by simp [im_u, h]
theorem u_j (M : im_M) (j k : Nat) (x : Int32) {i : Nat} (h : i ≠ j) : im_u M j k x i = M i := im_uo M j k x h
theorem u_i (M : im_M) (j k : Nat) (x : Int32) (i : Nat) : im_u M j k x j i = if i = k then x else M j i := by simp [im_u]
section WR
variable {t : Nat} {M N : im_M}
theorem r_z (r : Int32) (hr : r = 0 ∨ r = 1) (M' : im_M) {f : im_M → Option (Int32 × im_M)} (hf : f M = some (r, M')) : ((f M).bind fun b1 => if b1.1 &&& 1 = b1.1 then some (b1.1, b1.2) else none) = some (r, M') := by
  rw [hf]
  simp only [Option.bind_some]
  rcases hr with rfl | rfl <;> rfl
theorem pu_word (h : Rl t M N) (a : Int32) : lw_P1 Rl t M N (gn_77 a) (gn_104 a) := by
  obtain ⟨w, hw, ew⟩ := h.2.1.2
  have ec : M 7 1 = nI w := h.2.1.1.1.trans ew
  by_cases h31 : w = 31
  · subst h31
    exact rd_ h 0 (r_z 0 (Or.inl rfl) M (f := gn_6 a) (by rw [gn_6, ec, if_neg (by decide)])) (by rw [gn_104, ew, if_pos (show nI 31 = 31 from rfl)])
  · have hlt : w < 31 := by omega
    refine ⟨1, im_u (im_u M 8 w a) 7 1 (nI (w + 1)), im_u (im_u N 21 w a) 0 23 (nI (w + 1)), ?_, ?_, ?_⟩
    · refine r_z 1 (Or.inr rfl) _ (f := gn_6 a) ?_
      rw [gn_6, ec, if_pos (n_lt (c := 31) hlt (by decide) rfl), if_pos (ib_n hlt (by decide)), cl_n (by omega)]
      simp only [u_j M 8 w a (show 7 ≠ 8 by decide), ec, nI_1]
    · have hne : ¬ nI w = 31 := fun e => h31 ((nI_eq (by omega) (by decide)).mp (e.trans (show (31 : Int32) = nI 31 from rfl)))
      rw [gn_104, ew, if_neg hne, gn_100, ew, if_pos (ib_n hlt (by decide)), cl_n (by omega)]
      simp only [u_j N 21 w a (show 0 ≠ 21 by decide), ew, nI_1]
      rfl
    · refine ⟨cg_S h.1 (fun j h1 h2 => by rw [u_j _ _ _ _ (by omega), u_j _ _ _ _ (by omega)]) (by rw [u_k _ _ _ _ (by decide), u_j _ _ _ _ (by decide)]) (fun j h1 h2 => by rw [u_j _ _ _ _ (by omega), u_j _ _ _ _ (by omega)]), ⟨⟨?_, fun p hp => ?_⟩, w + 1, by omega, u_s _ _ _ _⟩, cg_M h.2.2.1 (by rw [u_j _ _ _ _ (by decide), u_j _ _ _ _ (by decide)]) (by rw [u_j _ _ _ _ (by decide), u_j _ _ _ _ (by decide)]) (by rw [u_k _ _ _ _ (by decide), u_j _ _ _ _ (by decide)]) (by rw [u_k _ _ _ _ (by decide), u_j _ _ _ _ (by decide)]) (by rw [u_j _ _ _ _ (by decide), u_j _ _ _ _ (by decide)]), cg_T h.2.2.2.1 (fun j h1 h2 => by rw [u_j _ _ _ _ (by omega), u_j _ _ _ _ (by omega)]) (by rw [u_k _ _ _ _ (by decide), u_j _ _ _ _ (by decide)]) (by rw [u_j _ _ _ _ (by decide), u_j _ _ _ _ (by decide)]), fun k hk => cg_K hk ((rl_up h).2.2.2.2 k hk) (fun j h1 h2 => by rw [u_j _ _ _ _ (by omega), u_j _ _ _ _ (by omega)]) (fun j h1 h2 => by rw [u_j _ _ _ _ (by omega), u_j _ _ _ _ (by omega)])⟩
      · rw [u_s, u_s]
      · rw [u_j _ 7 _ _ (by decide), u_j _ 0 _ _ (by decide), u_i, u_i, h.2.1.1.2 p hp]
theorem pu_line (h : Rl t M N) (a b c d : Int32) : lw_P1 Rl t M N (gn_73 a b c d) (gn_93 a b c d) := by
  obtain ⟨ln, hln, el, hp, hlab⟩ := h.1.2
  have ec : M 1 5 = nI ln := h.1.1.1.trans el
  rcases cx_ a 16 16 rfl (by decide) with ha | ⟨x, hx, rfl⟩
  · refine rd_ h 0 (r_z 0 (Or.inl rfl) M ?_) (by rw [gn_93, in_o 15 15 16 rfl rfl (by decide) ha]; rfl)
    unfold gn_57
    by_cases h0 : a < 0
    · rw [if_pos h0]
    · rw [if_neg h0, if_pos (by have := ha.resolve_left h0; rw [i_le] at this; rw [i_lt]; have e1 : (16 : Int32).toInt = 16 := rfl; have e2 : (15 : Int32).toInt = 15 := rfl; omega)]
  have a1 : ¬ nI x < 0 := nI_pos (by omega)
  have a2 : ¬ (15 : Int32) < nI x := nI_nlt (a := 15) (b := x) (by omega) (by decide)
  rcases cx_ b 8 8 rfl (by decide) with hb | ⟨y, hy, rfl⟩
  · refine rd_ h 0 (r_z 0 (Or.inl rfl) M ?_) (by rw [gn_93, in_n 15 15 rfl (by decide) (by omega)]; simp only [Option.bind_some]; rw [if_neg (by decide), in_o 7 7 8 rfl rfl (by decide) hb]; rfl)
    unfold gn_57
    rw [if_neg a1, if_neg a2]
    by_cases h0 : b < 0
    · rw [if_pos h0]
    · rw [if_neg h0, if_pos (by have := hb.resolve_left h0; rw [i_le] at this; rw [i_lt]; have e1 : (8 : Int32).toInt = 8 := rfl; have e2 : (7 : Int32).toInt = 7 := rfl; omega)]
  have b1 : ¬ nI y < 0 := nI_pos (by omega)
  have b2 : ¬ (7 : Int32) < nI y := nI_nlt (a := 7) (b := y) (by omega) (by decide)
  rcases cx_ c 8 8 rfl (by decide) with hc | ⟨w, hw, rfl⟩
  · refine rd_ h 0 (r_z 0 (Or.inl rfl) M ?_) (by rw [gn_93, in_n 15 15 rfl (by decide) (by omega)]; simp only [Option.bind_some]; rw [if_neg (by decide), in_n 7 7 rfl (by decide) (by omega)]; simp only [Option.bind_some]; rw [if_neg (by decide), in_o 7 7 8 rfl rfl (by decide) hc]; rfl)
    unfold gn_57
    rw [if_neg a1, if_neg a2, if_neg b1, if_neg b2]
    by_cases h0 : c < 0
    · rw [if_pos h0]
    · rw [if_neg h0, if_neg (by have := hc.resolve_left h0; rw [i_le] at this; rw [i_le]; have e1 : (8 : Int32).toInt = 8 := rfl; have e2 : (7 : Int32).toInt = 7 := rfl; omega)]
  have c1 : ¬ nI w < 0 := nI_pos (by omega)
  have c2 : nI w ≤ (7 : Int32) := nI_le (a := w) (b := 7) (by omega) (by decide)
  have eN : gn_93 (nI x) (nI y) (nI w) d N = ((gn_92 d (-2097152 : Int32) (2097151 : Int32) N).bind fun b7 => if b7.1 = 0 then (some ((0 : Int32), b7.2)) else (if (b7.2 0 16) = (24 : Int32) then (some ((0 : Int32), b7.2)) else (if st_ib (b7.2 0 16) 24 then (let M11 : im_M := im_u b7.2 15 ((b7.2 0 16)).toNatClampNeg (nI x); if st_ib (M11 0 16) 24 then (let M13 : im_M := im_u M11 16 ((M11 0 16)).toNatClampNeg (nI y); if st_ib (M13 0 16) 24 then (let M15 : im_M := im_u M13 17 ((M13 0 16)).toNatClampNeg (nI w); if st_ib (M15 0 16) 24 then (let M17 : im_M := im_u M15 18 ((M15 0 16)).toNatClampNeg d; let M18 : im_M := im_u M17 0 16 ((M17 0 16) + (1 : Int32)); some ((1 : Int32), M18)) else none) else none) else none) else none))) := by
    rw [gn_93, in_n 15 15 rfl (by decide) (by omega)]; simp only [Option.bind_some]; rw [if_neg (by decide), in_n 7 7 rfl (by decide) (by omega)]; simp only [Option.bind_some]; rw [if_neg (by decide), in_n 7 7 rfl (by decide) (by omega)]; simp only [Option.bind_some]; rw [if_neg (by decide)]
  have eM : gn_57 (nI x) (nI y) (nI w) d M = (if d < (-2097152 : Int32) then (some ((0 : Int32), M)) else (if (2097151 : Int32) < d then (some ((0 : Int32), M)) else (if (M 1 5) < (24 : Int32) then (if st_ib (M 1 5) 24 then (let M11 : im_M := im_u M 2 ((M 1 5)).toNatClampNeg (nI x); if st_ib (M11 1 5) 24 then (let M13 : im_M := im_u M11 3 ((M11 1 5)).toNatClampNeg (nI y); if st_ib (M13 1 5) 24 then (let M15 : im_M := im_u M13 4 ((M13 1 5)).toNatClampNeg (nI w); if st_ib (M15 1 5) 24 then (let M17 : im_M := im_u M15 5 ((M15 1 5)).toNatClampNeg d; let M18 : im_M := im_u M17 1 5 ((M17 1 5) + (1 : Int32)); some ((1 : Int32), M18)) else none) else none) else none) else none) else (some ((0 : Int32), M))))) := by
    unfold gn_57
    rw [if_neg a1, if_neg a2, if_neg b1, if_neg b2, if_neg c1, if_pos c2]
  by_cases d1 : d < -2097152
  · exact rd_ h 0 (r_z 0 (Or.inl rfl) M (by rw [eM, if_pos d1])) (by rw [eN, in_f (Or.inl d1)]; rfl)
  by_cases d2 : (2097151 : Int32) < d
  · exact rd_ h 0 (r_z 0 (Or.inl rfl) M (by rw [eM, if_neg d1, if_pos d2])) (by rw [eN, in_f (Or.inr d2)]; rfl)
  rw [in_t d1 d2] at eN
  simp only [Option.bind_some] at eN
  rw [if_neg (by decide), el] at eN
  rw [if_neg d1, if_neg d2, ec] at eM
  by_cases h24 : ln = 24
  · subst h24
    exact rd_ h 0 (r_z 0 (Or.inl rfl) M (by rw [eM, if_neg (by decide)])) (by rw [eN, if_pos (show nI 24 = 24 from rfl)])
  have hlt : ln < 24 := by omega
  have hne : ¬ nI ln = 24 := fun e => h24 ((nI_eq (by omega) (by decide)).mp (e.trans (show (24 : Int32) = nI 24 from rfl)))
  have hi := ib_n (n := 24) hlt (by decide)
  have q1 : ∀ (j p : Nat) (v : Int32) (X : im_M), j ≠ 1 → im_u X j p v 1 5 = X 1 5 := fun j p v X hj => by rw [u_j _ _ _ _ (by omega)]
  have q0 : ∀ (j p : Nat) (v : Int32) (X : im_M), j ≠ 0 → im_u X j p v 0 16 = X 0 16 := fun j p v X hj => by rw [u_j _ _ _ _ (by omega)]
  refine ⟨1, im_u (im_u (im_u (im_u (im_u M 2 ln (nI x)) 3 ln (nI y)) 4 ln (nI w)) 5 ln d) 1 5 (nI (ln + 1)), im_u (im_u (im_u (im_u (im_u N 15 ln (nI x)) 16 ln (nI y)) 17 ln (nI w)) 18 ln d) 0 16 (nI (ln + 1)), r_z 1 (Or.inr rfl) _ ?_, ?_, ?_⟩
  · rw [eM, if_pos (n_lt (c := 24) hlt (by decide) rfl), if_pos hi, cl_n (by omega)]
    simp only [q1 2 _ _ _ (by decide), q1 3 _ _ _ (by decide), q1 4 _ _ _ (by decide), q1 5 _ _ _ (by decide), ec, if_pos hi, cl_n (show ln < 2 ^ 31 by omega), nI_1]
  · rw [eN, if_neg hne, if_pos hi, cl_n (by omega)]
    simp only [q0 15 _ _ _ (by decide), q0 16 _ _ _ (by decide), q0 17 _ _ _ (by decide), q0 18 _ _ _ (by decide), el, if_pos hi, cl_n (show ln < 2 ^ 31 by omega), nI_1]
  · have oM : ∀ j, j ≠ 1 → j ≠ 2 → j ≠ 3 → j ≠ 4 → j ≠ 5 → im_u (im_u (im_u (im_u (im_u M 2 ln (nI x)) 3 ln (nI y)) 4 ln (nI w)) 5 ln d) 1 5 (nI (ln + 1)) j = M j := fun j h1 h2 h3 h4 h5 => by rw [u_j _ _ _ _ h1, u_j _ _ _ _ h5, u_j _ _ _ _ h4, u_j _ _ _ _ h3, u_j _ _ _ _ h2]
    have oN : ∀ j, j ≠ 0 → j ≠ 15 → j ≠ 16 → j ≠ 17 → j ≠ 18 → im_u (im_u (im_u (im_u (im_u N 15 ln (nI x)) 16 ln (nI y)) 17 ln (nI w)) 18 ln d) 0 16 (nI (ln + 1)) j = N j := fun j h1 h2 h3 h4 h5 => by rw [u_j _ _ _ _ h1, u_j _ _ _ _ h5, u_j _ _ _ _ h4, u_j _ _ _ _ h3, u_j _ _ _ _ h2]
    have o0 : ∀ i, i ≠ 16 → im_u (im_u (im_u (im_u (im_u N 15 ln (nI x)) 16 ln (nI y)) 17 ln (nI w)) 18 ln d) 0 16 (nI (ln + 1)) 0 i = N 0 i := fun i hi => by rw [u_k _ _ _ _ hi, u_j _ _ _ _ (by decide), u_j _ _ _ _ (by decide), u_j _ _ _ _ (by decide), u_j _ _ _ _ (by decide)]
    have n15 : ∀ p, im_u (im_u (im_u (im_u (im_u N 15 ln (nI x)) 16 ln (nI y)) 17 ln (nI w)) 18 ln d) 0 16 (nI (ln + 1)) 15 p = if p = ln then nI x else N 15 p := fun p => by rw [u_j _ _ _ _ (by decide), u_j _ _ _ _ (by decide), u_j _ _ _ _ (by decide), u_j _ _ _ _ (by decide), u_i]
    have n16 : ∀ p, im_u (im_u (im_u (im_u (im_u N 15 ln (nI x)) 16 ln (nI y)) 17 ln (nI w)) 18 ln d) 0 16 (nI (ln + 1)) 16 p = if p = ln then nI y else N 16 p := fun p => by rw [u_j _ _ _ _ (by decide), u_j _ _ _ _ (by decide), u_j _ _ _ _ (by decide), u_i, u_j _ _ _ _ (by decide)]
    have n17 : ∀ p, im_u (im_u (im_u (im_u (im_u N 15 ln (nI x)) 16 ln (nI y)) 17 ln (nI w)) 18 ln d) 0 16 (nI (ln + 1)) 17 p = if p = ln then nI w else N 17 p := fun p => by rw [u_j _ _ _ _ (by decide), u_j _ _ _ _ (by decide), u_i, u_j _ _ _ _ (by decide), u_j _ _ _ _ (by decide)]
    have n18 : ∀ p, im_u (im_u (im_u (im_u (im_u N 15 ln (nI x)) 16 ln (nI y)) 17 ln (nI w)) 18 ln d) 0 16 (nI (ln + 1)) 18 p = if p = ln then d else N 18 p := fun p => by rw [u_j _ _ _ _ (by decide), u_i, u_j _ _ _ _ (by decide), u_j _ _ _ _ (by decide), u_j _ _ _ _ (by decide)]
    have m2 : ∀ p, im_u (im_u (im_u (im_u (im_u M 2 ln (nI x)) 3 ln (nI y)) 4 ln (nI w)) 5 ln d) 1 5 (nI (ln + 1)) 2 p = if p = ln then nI x else M 2 p := fun p => by rw [u_j _ _ _ _ (by decide), u_j _ _ _ _ (by decide), u_j _ _ _ _ (by decide), u_j _ _ _ _ (by decide), u_i]
    have m3 : ∀ p, im_u (im_u (im_u (im_u (im_u M 2 ln (nI x)) 3 ln (nI y)) 4 ln (nI w)) 5 ln d) 1 5 (nI (ln + 1)) 3 p = if p = ln then nI y else M 3 p := fun p => by rw [u_j _ _ _ _ (by decide), u_j _ _ _ _ (by decide), u_j _ _ _ _ (by decide), u_i, u_j _ _ _ _ (by decide)]
    have m4 : ∀ p, im_u (im_u (im_u (im_u (im_u M 2 ln (nI x)) 3 ln (nI y)) 4 ln (nI w)) 5 ln d) 1 5 (nI (ln + 1)) 4 p = if p = ln then nI w else M 4 p := fun p => by rw [u_j _ _ _ _ (by decide), u_j _ _ _ _ (by decide), u_i, u_j _ _ _ _ (by decide), u_j _ _ _ _ (by decide)]
    have m5 : ∀ p, im_u (im_u (im_u (im_u (im_u M 2 ln (nI x)) 3 ln (nI y)) 4 ln (nI w)) 5 ln d) 1 5 (nI (ln + 1)) 5 p = if p = ln then d else M 5 p := fun p => by rw [u_j _ _ _ _ (by decide), u_i, u_j _ _ _ _ (by decide), u_j _ _ _ _ (by decide), u_j _ _ _ _ (by decide)]
    refine ⟨⟨⟨by rw [u_s, u_s], fun p hp24 => ?_, fun n hn => ?_⟩, ln + 1, by omega, u_s _ _ _ _, fun p hpl => ?_, fun n hn => ?_⟩, cg_C h.2.1 (by rw [oM 7 (by decide) (by decide) (by decide) (by decide) (by decide)]) (oM 8 (by decide) (by decide) (by decide) (by decide) (by decide)) (o0 23 (by decide)) (oN 21 (by decide) (by decide) (by decide) (by decide) (by decide)), cg_M h.2.2.1 (oM 9 (by decide) (by decide) (by decide) (by decide) (by decide)) (oM 10 (by decide) (by decide) (by decide) (by decide) (by decide)) (o0 14 (by decide)) (o0 15 (by decide)) (oN 1 (by decide) (by decide) (by decide) (by decide) (by decide)), cg_T h.2.2.2.1 (fun j h1 h2 => oM j (by omega) (by omega) (by omega) (by omega) (by omega)) (o0 30 (by decide)) (oN 24 (by decide) (by decide) (by decide) (by decide) (by decide)), fun k hk => cg_K hk ((rl_up h).2.2.2.2 k hk) (fun j h1 h2 => oM j (by omega) (by omega) (by omega) (by omega) (by omega)) (fun j h1 h2 => oN j (by omega) (by omega) (by omega) (by omega) (by omega))⟩
    · obtain ⟨g1, g2, g3, g4⟩ := h.1.1.2.1 p hp24
      rw [m2, m3, m4, m5, n15, n16, n17, n18, g1, g2, g3, g4]
      exact ⟨rfl, rfl, rfl, rfl⟩
    · rw [oM 6 (by decide) (by decide) (by decide) (by decide) (by decide), oN 19 (by decide) (by decide) (by decide) (by decide) (by decide), oN 20 (by decide) (by decide) (by decide) (by decide) (by decide)]
      exact h.1.1.2.2 n hn
    · rw [n15, n16, n17, n18]
      by_cases hpe : p = ln
      · rw [if_pos hpe, if_pos hpe, if_pos hpe, if_pos hpe]
        rw [i_lt] at d1 d2
        have e1 : (-2097152 : Int32).toInt = -2097152 := rfl
        have e2 : (2097151 : Int32).toInt = 2097151 := rfl
        exact ⟨⟨x, hx, rfl⟩, ⟨y, hy, rfl⟩, ⟨w, hw, rfl⟩, by omega, by omega⟩
      · rw [if_neg hpe, if_neg hpe, if_neg hpe, if_neg hpe]
        exact hp p (by omega)
    · rw [oN 19 (by decide) (by decide) (by decide) (by decide) (by decide), oN 20 (by decide) (by decide) (by decide) (by decide) (by decide)]
      rcases hlab n hn with e | ⟨e, q, hq, eq⟩
      · exact Or.inl e
      · exact Or.inr ⟨e, q, by omega, eq⟩
theorem pu_mark (h : Rl t M N) (a : Int32) : lw_P1 Rl t M N (gn_74 a) (gn_94 a) := by
  obtain ⟨ln, hln, el, hp, hlab⟩ := h.1.2
  have ec : M 1 5 = nI ln := h.1.1.1.trans el
  rcases cx_ a 8 8 rfl (by decide) with ha | ⟨n, hn, rfl⟩
  · exact rd_ h 0 (r_z 0 (Or.inl rfl) M (by rw [gn_58, if_o ha])) (by rw [gn_94, in_o 7 7 8 rfl rfl (by decide) ha]; rfl)
  have hi := ib_n (n := 8) hn (by decide)
  have eM : gn_58 (nI n) M = (if M 6 n = (-1 : Int32) then some (1, im_u M 6 n (nI ln)) else some (0, M)) := by
    rw [gn_58, if_n 8 hn (by decide) rfl, if_pos hi, cl_n (by omega), ec]
  have eN : gn_94 (nI n) N = (if N 19 n = 0 then some (1, im_u (im_u N 19 n 1) 20 n (nI ln)) else some (0, N)) := by
    rw [gn_94, in_n 7 7 rfl (by decide) (by omega)]
    simp only [Option.bind_some]
    rw [if_neg (by decide), if_pos hi, cl_n (by omega)]
    simp only [if_pos hi, u_j N 19 n _ (show 0 ≠ 19 by decide), el, show ((1 : Int32) &&& 1) = 1 from rfl]
  have hrel := h.1.1.2.2 n hn
  by_cases h0 : N 19 n = 0
  · rw [if_pos h0] at hrel eN
    rw [if_pos hrel] at eM
    have oN : ∀ j, j ≠ 19 → j ≠ 20 → im_u (im_u N 19 n 1) 20 n (nI ln) j = N j := fun j h1 h2 => by rw [u_j _ _ _ _ h2, u_j _ _ _ _ h1]
    refine ⟨1, _, _, r_z 1 (Or.inr rfl) _ eM, eN, ⟨⟨by rw [u_j _ _ _ _ (by decide), oN 0 (by decide) (by decide)]; exact h.1.1.1, fun p hp24 => ?_, fun i hi8 => ?_⟩, ln, hln, by rw [oN 0 (by decide) (by decide)]; exact el, fun p hpl => ?_, fun i hi8 => ?_⟩, cg_C h.2.1 (by rw [u_j _ _ _ _ (by decide)]) (u_j _ _ _ _ (by decide)) (by rw [oN 0 (by decide) (by decide)]) (oN 21 (by decide) (by decide)), cg_M h.2.2.1 (u_j _ _ _ _ (by decide)) (u_j _ _ _ _ (by decide)) (by rw [oN 0 (by decide) (by decide)]) (by rw [oN 0 (by decide) (by decide)]) (oN 1 (by decide) (by decide)), cg_T h.2.2.2.1 (fun j h1 h2 => u_j _ _ _ _ (by omega)) (by rw [oN 0 (by decide) (by decide)]) (oN 24 (by decide) (by decide)), fun k hk => cg_K hk ((rl_up h).2.2.2.2 k hk) (fun j h1 h2 => u_j _ _ _ _ (by omega)) (fun j h1 h2 => oN j (by omega) (by omega))⟩
    · rw [u_j M 6 n (nI ln) (show 2 ≠ 6 by decide), u_j M 6 n (nI ln) (show 3 ≠ 6 by decide), u_j M 6 n (nI ln) (show 4 ≠ 6 by decide), u_j M 6 n (nI ln) (show 5 ≠ 6 by decide), oN 15 (by decide) (by decide), oN 16 (by decide) (by decide), oN 17 (by decide) (by decide), oN 18 (by decide) (by decide)]
      exact h.1.1.2.1 p hp24
    · rw [u_i, u_j _ 20 _ _ (by decide), u_i, u_i, u_j _ 19 _ _ (by decide)]
      by_cases e : i = n
      · rw [if_pos e, if_pos e, if_pos e, if_neg (by decide)]
      · rw [if_neg e, if_neg e, if_neg e]
        exact h.1.1.2.2 i hi8
    · rw [oN 15 (by decide) (by decide), oN 16 (by decide) (by decide), oN 17 (by decide) (by decide), oN 18 (by decide) (by decide)]
      exact hp p hpl
    · rw [u_j _ 20 _ _ (by decide), u_i, u_i, u_j _ 19 _ _ (by decide)]
      by_cases e : i = n
      · rw [if_pos e, if_pos e]
        exact Or.inr ⟨rfl, ln, Nat.le_refl _, rfl⟩
      · rw [if_neg e, if_neg e]
        exact hlab i hi8
  · rw [if_neg h0] at hrel eN
    have hq : ¬ M 6 n = -1 := by
      rw [hrel]
      rcases hlab n hn with e | ⟨e, q, hq, eq⟩
      · exact absurd e h0
      · rw [eq]
        exact n_m1 (by omega)
    rw [if_neg hq] at eM
    exact rd_ h 0 (r_z 0 (Or.inl rfl) M eM) eN
end WR
