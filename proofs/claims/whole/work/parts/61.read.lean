/-! the calls that only tell -/
section RD
variable {t : Nat} {M N : im_M}
theorem pu_state (h : Rl t M N) (a : Int32) : lw_P1 Rl t M N (gn_83 a) (gn_126 a) := by
  rcases cx_ (x := a) 3 3 rfl (by decide) with ha | ha | ⟨k, hk, rfl⟩
  · exact rd_ h (-1) (by rw [gn_83, if_pos ha]) (by rw [gn_126, in_o (n := 2) rfl rfl (by decide) (Or.inl ha)]; rfl)
  · exact rd_ h (-1) (by unfold gn_83; split <;> [rfl; rw [if_pos ha]]) (by rw [gn_126, in_o (n := 2) rfl rfl (by decide) (Or.inr ha)]; rfl)
  · refine rd_ h (N 2 k) ?_ ?_
    · rw [gn_83, if_neg (nI_pos (by omega)), if_neg (n_ge hk (by decide) rfl), cl_n (by omega), (h.2.2.2.2 k hk).1.2.2.2.1]
    · rw [gn_126, in_n (n := 2) (by omega) (by decide) rfl]
      simp only [Option.bind_some]
      rw [if_neg (by decide), if_pos (ib_n hk (by decide)), cl_n (by omega)]
theorem pu_pc (h : Rl t M N) (a : Int32) : lw_P1 Rl t M N (gn_84 a) (gn_127 a) := by
  rcases cx_ (x := a) 3 3 rfl (by decide) with ha | ha | ⟨k, hk, rfl⟩
  · exact rd_ h (-1) (by rw [gn_84, if_pos ha]) (by rw [gn_127, in_o (n := 2) rfl rfl (by decide) (Or.inl ha)]; rfl)
  · exact rd_ h (-1) (by unfold gn_84; split <;> [rfl; rw [if_pos ha]]) (by rw [gn_127, in_o (n := 2) rfl rfl (by decide) (Or.inr ha)]; rfl)
  · refine rd_ h (N 4 k) ?_ ?_
    · rw [gn_84, if_neg (nI_pos (by omega)), if_neg (n_ge hk (by decide) rfl), cl_n (by omega), (h.2.2.2.2 k hk).1.2.2.1]
    · rw [gn_127, in_n (n := 2) (by omega) (by decide) rfl]
      simp only [Option.bind_some]
      rw [if_neg (by decide), if_pos (ib_n hk (by decide)), cl_n (by omega)]
theorem pu_peek (h : Rl t M N) (a : Int32) : lw_P1 Rl t M N (gn_86 a) (gn_129 a) := by
  rcases cx_ (x := a) 256 256 rfl (by decide) with ha | ha | ⟨k, hk, rfl⟩
  · exact rd_ h 0 (by rw [gn_86, gn_32, if_pos ha]; rfl) (by rw [gn_129, in_o (n := 255) rfl rfl (by decide) (Or.inl ha)]; rfl)
  · exact rd_ h 0 (by unfold gn_86 gn_32; split <;> [rfl; (rw [if_pos ha]; rfl)]) (by rw [gn_129, in_o (n := 255) rfl rfl (by decide) (Or.inr ha)]; rfl)
  · refine rd_ h (N 1 k) ?_ ?_
    · rw [gn_86, gn_32, if_neg (nI_pos (by omega)), if_neg (n_ge hk (by decide) rfl), if_pos (ib_n hk (by decide)), cl_n (by omega), h.2.2.1.1.2.2 k hk]
      rfl
    · rw [gn_129, in_n (n := 255) (by omega) (by decide) rfl]
      simp only [Option.bind_some]
      rw [if_neg (by decide), if_pos (ib_n hk (by decide)), cl_n (by omega)]
theorem r_85 : gn_85_23 M = some (0, M) := rfl
theorem pu_register (h : Rl t M N) (a b : Int32) : lw_P1 Rl t M N (gn_85 a b) (gn_128 a b) := by
  rcases cx_ (x := a) 3 3 rfl (by decide) with ha | ha | ⟨k, hk, rfl⟩
  · exact rd_ h 0 (by rw [gn_85, if_pos ha]; rfl) (by rw [gn_128, in_o (n := 2) rfl rfl (by decide) (Or.inl ha)]; rfl)
  · exact rd_ h 0 (by unfold gn_85; split <;> [rfl; (rw [if_pos ha]; rfl)]) (by rw [gn_128, in_o (n := 2) rfl rfl (by decide) (Or.inr ha)]; rfl)
  · have e1 : ∀ x, gn_85 (nI k) x M = if x < 0 then (gn_85_23 M) else (if x < (8 : Int32) then (if st_ib x 8 then (some ((M (13 + 10 * k) (x).toNatClampNeg), M)) else none) else (gn_85_23 M)) := fun x => by
      rw [gn_85, if_neg (nI_pos (by omega)), if_neg (n_ge hk (by decide) rfl), cl_n (by omega)]
    have e2 : ∀ x, gn_128 (nI k) x N = ((gn_92 x (0 : Int32) (7 : Int32) N).bind fun b3 => if b3.1 = 0 then (some ((0 : Int32), b3.2)) else (if st_ib (((8 : Int32) * nI k) + x) 24 then (some ((b3.2 3 ((((8 : Int32) * nI k) + x)).toNatClampNeg), b3.2)) else none)) := fun x => by
      rw [gn_128, in_n (n := 2) (by omega) (by decide) rfl]
      simp only [Option.bind_some]
      rw [if_neg (by decide)]
    rcases cx_ (x := b) 8 8 rfl (by decide) with hb | hb | ⟨r, hr, rfl⟩
    · exact rd_ h 0 (by rw [e1, if_pos hb]; rfl) (by rw [e2, in_o (n := 7) rfl rfl (by decide) (Or.inl hb)]; rfl)
    · refine rd_ h 0 ?_ (by rw [e2, in_o (n := 7) rfl rfl (by decide) (Or.inr hb)]; rfl)
      rw [e1]
      split
      · rfl
      · rw [if_neg (by rw [i_le] at hb; rw [i_lt]; omega)]
        rfl
    · refine rd_ h (N 3 (8 * k + r)) ?_ ?_
      · rw [e1, if_neg (nI_pos (by omega)), if_pos (n_lt hr (by decide) rfl), if_pos (ib_n hr (by decide)), cl_n (by omega), (h.2.2.2.2 k hk).1.2.2.2.2.2.2.2.2.2.1 r hr]
      · rw [e2, in_n (n := 7) (by omega) (by decide) rfl]
        simp only [Option.bind_some]
        rw [if_neg (by decide), show (8 : Int32) = nI 8 from rfl, pk_mul, nI_add, if_pos (ib_n (by omega) (by decide)), cl_n (by omega)]
end RD
