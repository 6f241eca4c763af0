/-! the calls that only tell -/
section RD
variable {t : Nat} {M N : im_M}
theorem pu_state (h : Rl t M N) (a : Int32) : lw_P1 Rl t M N (gn_83 a) (gn_126 a) := by
  rcases cx_ a 3 3 rfl (by decide) with ha | ⟨k, hk, rfl⟩
  · exact rd_ h (-1) (by rw [gn_83, if_o ha]) (by rw [gn_126, in_o 2 2 3 rfl rfl (by decide) ha]; rfl)
  · refine rd_ h (N 2 k) ?_ ?_
    · rw [gn_83, if_n 3 hk (by decide) rfl, cl_n (by omega), (h.2.2.2.2 k hk).1.2.2.2.1]
    · rw [gn_126, in_n 2 2 rfl (by decide) (by omega)]
      simp only [Option.bind_some]
      rw [if_neg (by decide), if_pos (ib_n hk (by decide)), cl_n (by omega)]
theorem pu_pc (h : Rl t M N) (a : Int32) : lw_P1 Rl t M N (gn_84 a) (gn_127 a) := by
  rcases cx_ a 3 3 rfl (by decide) with ha | ⟨k, hk, rfl⟩
  · exact rd_ h (-1) (by rw [gn_84, if_o ha]) (by rw [gn_127, in_o 2 2 3 rfl rfl (by decide) ha]; rfl)
  · refine rd_ h (N 4 k) ?_ ?_
    · rw [gn_84, if_n 3 hk (by decide) rfl, cl_n (by omega), (h.2.2.2.2 k hk).1.2.2.1]
    · rw [gn_127, in_n 2 2 rfl (by decide) (by omega)]
      simp only [Option.bind_some]
      rw [if_neg (by decide), if_pos (ib_n hk (by decide)), cl_n (by omega)]
theorem pu_peek (h : Rl t M N) (a : Int32) : lw_P1 Rl t M N (gn_86 a) (gn_129 a) := by
  rcases cx_ a 256 256 rfl (by decide) with ha | ⟨k, hk, rfl⟩
  · exact rd_ h 0 (by rw [gn_86, gn_32, if_o ha]; rfl) (by rw [gn_129, in_o 255 255 256 rfl rfl (by decide) ha]; rfl)
  · refine rd_ h (N 1 k) ?_ ?_
    · rw [gn_86, gn_32, if_n 256 hk (by decide) rfl, if_pos (ib_n hk (by decide)), cl_n (by omega), h.2.2.1.1.2.2 k hk]
      rfl
    · rw [gn_129, in_n 255 255 rfl (by decide) (by omega)]
      simp only [Option.bind_some]
      rw [if_neg (by decide), if_pos (ib_n hk (by decide)), cl_n (by omega)]
theorem r_85 : gn_85_23 M = some (0, M) := rfl
theorem pu_register (h : Rl t M N) (a b : Int32) : lw_P1 Rl t M N (gn_85 a b) (gn_128 a b) := by
  rcases cx_ a 3 3 rfl (by decide) with ha | ⟨k, hk, rfl⟩
  · exact rd_ h 0 (by rw [gn_85, if_o ha]; rfl) (by rw [gn_128, in_o 2 2 3 rfl rfl (by decide) ha]; rfl)
  · have e1 : ∀ x, gn_85 (nI k) x M = if x < 0 then (gn_85_23 M) else (if x < (8 : Int32) then (if st_ib x 8 then (some ((M (13 + 10 * k) (x).toNatClampNeg), M)) else none) else (gn_85_23 M)) := fun x => by
      rw [gn_85, if_n 3 hk (by decide) rfl, cl_n (by omega)]
    have e2 : ∀ x, gn_128 (nI k) x N = ((gn_92 x (0 : Int32) (7 : Int32) N).bind fun b3 => if b3.1 = 0 then (some ((0 : Int32), b3.2)) else (if st_ib (((8 : Int32) * nI k) + x) 24 then (some ((b3.2 3 ((((8 : Int32) * nI k) + x)).toNatClampNeg), b3.2)) else none)) := fun x => by
      rw [gn_128, in_n 2 2 rfl (by decide) (by omega)]
      simp only [Option.bind_some]
      rw [if_neg (by decide)]
    rcases cx_ b 8 8 rfl (by decide) with hb | ⟨r, hr, rfl⟩
    · refine rd_ h 0 ?_ (by rw [e2, in_o 7 7 8 rfl rfl (by decide) hb]; rfl)
      rw [e1]
      by_cases h0 : b < 0
      · rw [if_pos h0]; rfl
      · rw [if_neg h0, if_neg (by have := hb.resolve_left h0; rw [i_le] at this; rw [i_lt]; omega)]
        rfl
    · refine rd_ h (N 3 (8 * k + r)) ?_ ?_
      · rw [e1, if_neg (nI_pos (by omega)), if_pos (n_lt (c := 8) hr (by decide) rfl), if_pos (ib_n hr (by decide)), cl_n (by omega), (h.2.2.2.2 k hk).1.2.2.2.2.2.2.2.2.2.1 r hr]
      · rw [e2, in_n 7 7 rfl (by decide) (by omega)]
        simp only [Option.bind_some]
        rw [if_neg (by decide), show (8 : Int32) = nI 8 from rfl, pk_mul, nI_add, if_pos (ib_n (by omega) (by decide)), cl_n (by omega)]
/-- x < c, or not, from the other side -/
theorem n_le {x c : Int32} : ¬ x < c ↔ c ≤ x := by
  rw [i_lt, i_le]
  omega
theorem pu_output (h : Rl t M N) (a b : Int32) : lw_P1 Rl t M N (gn_87 a b) (gn_130 a b) := by
  rcases cx_ a 3 3 rfl (by decide) with ha | ⟨k, hk, rfl⟩
  · exact rd_ h 0 (by rw [gn_87, if_o ha]) (by rw [gn_130, in_o 2 2 3 rfl rfl (by decide) ha]; rfl)
  · have hK := (h.2.2.2.2 k hk).1
    have e1 : gn_87 (nI k) b M = (gn_54 k b M).bind fun b3 => some (b3.1, b3.2) := by
      rw [gn_87, if_n 3 hk (by decide) rfl, cl_n (by omega)]
    have e2 : gn_130 (nI k) b N = (if b = (-1 : Int32) then some (N 12 k, N) else ((gn_92 b (0 : Int32) (7 : Int32) N).bind fun b5 => if b5.1 = 0 then (some ((0 : Int32), b5.2)) else (if (b5.2 12 k) ≤ b then (some ((0 : Int32), b5.2)) else (if st_ib (((8 : Int32) * nI k) + ((((b5.2 12 k) - (1 : Int32)) - b) &&& (7 : Int32))) 24 then (some ((b5.2 11 ((((8 : Int32) * nI k) + ((((b5.2 12 k) - (1 : Int32)) - b) &&& (7 : Int32)))).toNatClampNeg), b5.2)) else none)))) := by
      rw [gn_130, in_n 2 2 rfl (by decide) (by omega)]
      simp only [Option.bind_some]
      rw [if_neg (by decide), if_pos (ib_n hk (by decide)), cl_n (by omega)]
      simp only [if_pos (ib_n hk (by decide))]
    by_cases hb1 : b = -1
    · exact rd_ h (N 12 k) (by rw [e1, gn_54, if_pos hb1, hK.2.2.2.2.2.1]; rfl) (by rw [e2, if_pos hb1])
    · rw [if_neg hb1] at e2
      have e3 : gn_54 k b M = (if b < 0 then (some ((0 : Int32), M)) else (if (8 : Int32) ≤ b then (some ((0 : Int32), M)) else (if b < (N 12 k) then (if st_ib ((((N 12 k) - (1 : Int32)) - b) &&& (7 : Int32)) 8 then (some ((M (21 + 10 * k) (((((N 12 k) - (1 : Int32)) - b) &&& (7 : Int32))).toNatClampNeg), M)) else none) else (some ((0 : Int32), M))))) := by
        rw [gn_54, if_neg hb1, hK.2.2.2.2.2.1]
      rcases cx_ b 8 8 rfl (by decide) with hb | ⟨r, hr, rfl⟩
      · exact rd_ h 0 (by rw [e1, e3, if_o hb]; rfl) (by rw [e2, in_o 7 7 8 rfl rfl (by decide) hb]; rfl)
      · rw [if_n 8 hr (by decide) rfl] at e3
        rw [in_n 7 7 rfl (by decide) (by omega)] at e2
        simp only [Option.bind_some] at e2
        rw [if_neg (by decide)] at e2
        obtain ⟨j, hj, ej⟩ := pk_andE ((N 12 k - 1) - nI r) (m := 7) 3 rfl
        rw [ej] at e2 e3
        by_cases hlt : nI r < N 12 k
        · rw [if_pos hlt, if_pos (ib_n hj (by decide)), cl_n (by omega), hK.2.2.2.2.2.2.2.2.2.2.2.2.1 j hj] at e3
          rw [if_neg (fun q => absurd hlt (n_le.mpr q)), show (8 : Int32) = nI 8 from rfl, pk_mul, nI_add, if_pos (ib_n (by omega) (by decide)), cl_n (by omega)] at e2
          exact rd_ h _ (by rw [e1, e3]; rfl) e2
        · rw [if_neg hlt] at e3
          rw [if_pos (n_le.mp hlt)] at e2
          exact rd_ h 0 (by rw [e1, e3]; rfl) e2
/-- what a list of calls tells, on both sides -/
theorem tl_ {c : Nat} {j what cnt : Int32} {g : Nat → Int32} {B : Nat} (h3 : M c 3 = cnt) (hB : ∀ i, i < 16 → M (c + 1) i = g (B + 3 * i) ∧ M (c + 2) i = g (B + 3 * i + 1) ∧ M (c + 3) i = g (B + 3 * i + 2)) :
    gn_3 c j what M = some (if j = -1 then cnt else if j < 0 ∨ 16 ≤ j then 0 else if ¬ j < cnt then 0 else if what < 0 ∨ 3 ≤ what then 0 else g (B + 3 * j.toNatClampNeg + what.toNatClampNeg), M) := by
  unfold gn_3
  rw [h3]
  by_cases h1 : j = -1
  · rw [if_pos h1, if_pos h1]
  · rw [if_neg h1, if_neg h1]
    rcases cx_ j 16 16 rfl (by decide) with hj | ⟨i, hi, rfl⟩
    · rw [if_o hj, if_pos hj]
    · have hno : ¬ (nI i < 0 ∨ (16 : Int32) ≤ nI i) := fun q => q.elim (nI_pos (by omega)) (n_ge hi (by decide) rfl)
      rw [if_n 16 hi (by decide) rfl, if_neg hno, cl_n (by omega)]
      by_cases h2 : nI i < cnt
      · rw [if_pos h2, if_neg (show ¬ ¬ nI i < cnt from fun q => q h2)]
        rcases cx_ what 3 3 rfl (by decide) with hw | ⟨q, hq, rfl⟩
        · have n0 : ¬ what = 0 := fun e => by subst e; rcases hw with hw | hw <;> exact absurd hw (by decide)
          have n1 : ¬ what = 1 := fun e => by subst e; rcases hw with hw | hw <;> exact absurd hw (by decide)
          have n2 : ¬ what = 2 := fun e => by subst e; rcases hw with hw | hw <;> exact absurd hw (by decide)
          rw [if_pos hw, if_neg n0, if_neg n1, if_neg n2]
        · have hwo : ¬ (nI q < 0 ∨ (3 : Int32) ≤ nI q) := fun z => z.elim (nI_pos (by omega)) (n_ge hq (by decide) rfl)
          rw [if_neg hwo, cl_n (by omega)]
          rcases st_3 hq with rfl | rfl | rfl
          · rw [if_pos (show nI 0 = 0 from rfl), if_pos (ib_n hi (by decide)), (hB i hi).1]
            rfl
          · rw [if_neg (show ¬ nI 1 = 0 by decide), if_pos (show nI 1 = 1 from rfl), if_pos (ib_n hi (by decide)), (hB i hi).2.1]
          · rw [if_neg (show ¬ nI 2 = 0 by decide), if_neg (show ¬ nI 2 = 1 by decide), if_pos (show nI 2 = 2 from rfl), if_pos (ib_n hi (by decide)), (hB i hi).2.2]
      · rw [if_neg h2, if_pos h2]
theorem pu_trace (h : Rl t M N) (a b : Int32) : lw_P1 Rl t M N (gn_90 a b) (gn_132 a b) := by
  have e1 := tl_ (c := 44) (j := a) (what := b) (cnt := N 0 30) (g := N 24) (B := 0) h.2.2.2.1.1.1 (fun i hi => by
    have := h.2.2.2.1.1.2 i hi
    simpa using this)
  refine rd_ h _ (by rw [gn_90, e1]; rfl) ?_
  unfold gn_132
  by_cases h1 : a = -1
  · rw [if_pos h1, if_pos h1]
  · rw [if_neg h1, if_neg h1]
    rcases cx_ a 16 16 rfl (by decide) with hj | ⟨i, hi, rfl⟩
    · rw [in_o 15 15 16 rfl rfl (by decide) hj, if_pos hj]
      rfl
    · have hno : ¬ (nI i < 0 ∨ (16 : Int32) ≤ nI i) := fun q => q.elim (nI_pos (by omega)) (n_ge hi (by decide) rfl)
      rw [in_n 15 15 rfl (by decide) (by omega), if_neg hno, cl_n (by omega)]
      simp only [Option.bind_some]
      rw [if_neg (by decide)]
      by_cases h2 : nI i < N 0 30
      · rw [if_neg (fun q => absurd h2 (n_le.mpr q)), if_neg (show ¬ ¬ nI i < N 0 30 from fun q => q h2)]
        rcases cx_ b 3 3 rfl (by decide) with hw | ⟨q, hq, rfl⟩
        · rw [in_o 2 2 3 rfl rfl (by decide) hw, if_pos hw]
          rfl
        · have hwo : ¬ (nI q < 0 ∨ (3 : Int32) ≤ nI q) := fun z => z.elim (nI_pos (by omega)) (n_ge hq (by decide) rfl)
          rw [in_n 2 2 rfl (by decide) (by omega), if_neg hwo, cl_n (by omega)]
          simp only [Option.bind_some]
          rw [if_neg (by decide), show (3 : Int32) = nI 3 from rfl, pk_mul, nI_add, if_pos (ib_n (by omega) (by decide)), cl_n (by omega), Nat.zero_add]
      · rw [if_pos (n_le.mp h2), if_pos h2]
theorem pu_call (h : Rl t M N) (a b c : Int32) : lw_P1 Rl t M N (gn_88 a b c) (gn_131 a b c) := by
  rcases cx_ a 3 3 rfl (by decide) with ha | ⟨k, hk, rfl⟩
  · exact rd_ h 0 (by rw [gn_88, if_o ha]) (by rw [gn_131, in_o 2 2 3 rfl rfl (by decide) ha]; rfl)
  · have hK := (h.2.2.2.2 k hk).1
    have e1 := tl_ (c := 15 + 10 * k + 1) (j := b) (what := c) (cnt := N 13 k) (g := N 14) (B := 48 * k) (by rw [show 15 + 10 * k + 1 = 16 + 10 * k by omega]; exact hK.2.2.2.2.2.2.2.2.1) (fun i hi => by
      have := hK.2.2.2.2.2.2.2.2.2.2.2.2.2 i hi
      rw [show 15 + 10 * k + 1 + 1 = 17 + 10 * k by omega, show 15 + 10 * k + 1 + 2 = 18 + 10 * k by omega, show 15 + 10 * k + 1 + 3 = 19 + 10 * k by omega]
      exact this)
    refine rd_ h _ (by rw [gn_88, if_n 3 hk (by decide) rfl, cl_n (by omega), e1]; rfl) ?_
    rw [gn_131, in_n 2 2 rfl (by decide) (by omega)]
    simp only [Option.bind_some]
    rw [if_neg (by decide), if_pos (ib_n hk (by decide)), cl_n (by omega)]
    simp only [if_pos (ib_n hk (by decide : 3 < 2 ^ 31))]
    by_cases h1 : b = -1
    · rw [if_pos h1, if_pos h1]
    · rw [if_neg h1, if_neg h1]
      rcases cx_ b 16 16 rfl (by decide) with hj | ⟨i, hi, rfl⟩
      · rw [in_o 15 15 16 rfl rfl (by decide) hj, if_pos hj]
        rfl
      · have hno : ¬ (nI i < 0 ∨ (16 : Int32) ≤ nI i) := fun q => q.elim (nI_pos (by omega)) (n_ge hi (by decide) rfl)
        rw [in_n 15 15 rfl (by decide) (by omega), if_neg hno, cl_n (by omega)]
        simp only [Option.bind_some]
        rw [if_neg (by decide)]
        by_cases h2 : nI i < N 13 k
        · rw [if_neg (fun q => absurd h2 (n_le.mpr q)), if_neg (show ¬ ¬ nI i < N 13 k from fun q => q h2)]
          rcases cx_ c 3 3 rfl (by decide) with hw | ⟨q, hq, rfl⟩
          · rw [in_o 2 2 3 rfl rfl (by decide) hw, if_pos hw]
            rfl
          · have hwo : ¬ (nI q < 0 ∨ (3 : Int32) ≤ nI q) := fun z => z.elim (nI_pos (by omega)) (n_ge hq (by decide) rfl)
            rw [in_n 2 2 rfl (by decide) (by omega), if_neg hwo, cl_n (by omega)]
            simp only [Option.bind_some]
            rw [if_neg (by decide), show (48 : Int32) = nI 48 from rfl, show (3 : Int32) = nI 3 from rfl, pk_mul, pk_mul, nI_add, nI_add, if_pos (ib_n (by omega) (by decide)), cl_n (by omega)]
        · rw [if_pos (n_le.mp h2), if_pos h2]
theorem pu_module (h : Rl t M N) (a : Int32) : lw_P1 Rl t M N (gn_78 a) (gn_105 a) := by
  obtain ⟨w, hw, ew⟩ := h.2.1.2
  by_cases h1 : a = -1
  · exact rd_ h (N 0 23) (by rw [gn_78, if_pos h1, gn_7, h.2.1.1.1]; rfl) (by rw [gn_105, if_pos h1])
  · have e1 : gn_78 a M = (gn_8 a M).bind fun b3 => some (b3.1, b3.2) := by rw [gn_78, if_neg h1]
    have e2 : gn_105 a N = ((gn_92 a (0 : Int32) (nI w - (1 : Int32)) N).bind fun b2 => if b2.1 = 0 then (some ((0 : Int32), b2.2)) else (if st_ib a 31 then (some ((b2.2 21 (a).toNatClampNeg), b2.2)) else none)) := by rw [gn_105, if_neg h1, ew]
    rcases cx_ a w (nI w) rfl (by omega) with ha | ⟨p, hp, rfl⟩
    · have hin : gn_92 a 0 (nI w - 1) N = some (0, N) := by
        refine in_f ?_
        rcases ha with ha | ha
        · exact Or.inl ha
        · refine Or.inr ?_
          rw [i_le, nI_toInt (by omega)] at ha
          rw [i_lt, show (1 : Int32) = nI 1 from rfl, pk_sub_toInt (by omega) (by decide)]
          omega
      refine rd_ h 0 ?_ (by rw [e2, hin]; rfl)
      rw [e1, gn_8, h.2.1.1.1, ew, if_o ha]
      rfl
    · have hin : gn_92 (nI p) 0 (nI w - 1) N = some (1, N) := by
        refine in_t (nI_pos (by omega)) ?_
        rw [i_lt, show (1 : Int32) = nI 1 from rfl, pk_sub_toInt (by omega) (by decide), nI_toInt (by omega)]
        omega
      refine rd_ h (N 21 p) ?_ ?_
      · rw [e1, gn_8, h.2.1.1.1, ew, if_n (nI w) hp (by omega) rfl, if_pos (ib_n (by omega) (by decide)), cl_n (by omega), h.2.1.1.2 p (by omega)]
        rfl
      · rw [e2, hin]
        simp only [Option.bind_some]
        rw [if_neg (by decide), if_pos (ib_n (by omega) (by decide)), cl_n (by omega)]
end RD
