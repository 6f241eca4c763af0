/-! verify -/
/-- the word behind place p, 0 if there is none -/
def nx_w (N : im_M) (w p : Nat) : Int32 := if p + 1 < w then N 21 (p + 1) else 0
/-- what the verifier asks of the word u at place p of w -/
def sf_ (w p : Nat) (u : Int32) : Prop := ¬ wd_o u = 15 ∧ (wd_o u = 10 ∨ wd_o u = 11 ∨ wd_o u = 12 → ∃ x, x < w ∧ nI p + 1 + wd_i u = nI x) ∧ (wd_o u = 13 → wd_a u = 7) ∧ (wd_o u = 14 → ∃ x, x < 7 ∧ wd_i u = nI x) ∧ (wd_o u = 8 ∨ wd_o u = 9 → wd_b u = 6 ∧ wd_i u = 0)
def sv_ (k w p : Nat) (N : im_M) : Prop := sf_ w p (N 21 p) ∧ rs_f (N 21 p) (nx_w N w p) 6 (nI (16 * k)) 15 ∧ rs_f (N 21 p) (nx_w N w p) 7 (nI (64 + 32 * k)) 31
theorem J_6 : ∀ k, k < 3 → wd_j 7 6 6 (nI (16 * k)) ≠ 0 := by decide +kernel
theorem J_7 : ∀ k, k < 3 → wd_j 7 7 7 (nI (64 + 32 * k)) ≠ 0 := by decide +kernel
section VF
variable {M N : im_M} {w p k : Nat}
theorem g8 (ec : M 7 1 = nI w) (hw : w ≤ 31) (hp : p < w) : gn_8 (nI p) M = some (M 8 p, M) := by
  rw [gn_8, ec, if_n (nI w) hp (by omega) rfl, if_pos (ib_n (show p < 31 by omega) (by decide)), cl_n (by omega)]
theorem g8n (ec : M 7 1 = nI w) (hw : w ≤ 31) (hp : p < w) (h8 : ∀ p, p < 31 → M 8 p = N 21 p) : gn_8 (nI p + 1) M = some (nx_w N w p, M) := by
  rw [nI_1, nx_w]
  by_cases h : p + 1 < w
  · rw [g8 ec hw h, if_pos h, h8 (p + 1) (by omega)]
  · rw [if_neg h, gn_8, ec, if_neg (nI_pos (by omega)), if_pos (nI_le (by omega) (by omega))]
/-- the first half of the test, alike on both sides -/
theorem g140 (ec : M 7 1 = nI w) (ew : N 0 23 = nI w) (hw : w ≤ 31) (hp : p < w) (h8 : ∀ p, p < 31 → M 8 p = N 21 p) : ∃ g : Int32, (g = 0 ∨ g = 1) ∧ gn_140 (nI p) M = some (g, M) ∧ gn_108 (nI p) (nI k) N = gn_108_143 (nI p) (nI k) g N ∧ (g = 1 ↔ sf_ w p (N 21 p)) := by
  have h31 := ib_n (n := 31) (show p < 31 by omega) (by decide)
  have e8 := g8 ec hw hp
  rw [h8 p (by omega)] at e8
  generalize N 21 p = u at e8
  have eN : gn_108 (nI p) (nI k) N = (if wd_o (N 21 p) = (15 : Int32) then (gn_108_31 (nI p) (nI k) (N 21 p) (wd_o (N 21 p)) (wd_i (N 21 p)) (0 : Int32) N) else (gn_108_31 (nI p) (nI k) (N 21 p) (wd_o (N 21 p)) (wd_i (N 21 p)) (1 : Int32) N)) := by
    rw [gn_108, if_pos h31, cl_n (by omega)]
  sorry
end VF
