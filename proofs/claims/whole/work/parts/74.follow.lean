/-! follow: the two followers side by side -/
def cq_ (q : Nat) : Nat := if q < 5 then q else q + 3
theorem cq_lo {q : Nat} (h : q < 5) : cq_ q = q := by unfold cq_; rw [if_pos h]
theorem cq_hi (y : Nat) : cq_ (5 + y) = 8 + y := by unfold cq_; rw [if_neg (by omega)]; omega
theorem cq_lt {q : Nat} (h : q < 21) : cq_ q < 24 := by unfold cq_; by_cases e : q < 5 <;> simp [e] <;> omega
theorem cq_inj {q q' : Nat} : cq_ q = cq_ q' ↔ q = q' := by
  unfold cq_
  by_cases e : q < 5 <;> by_cases e' : q' < 5 <;> simp [e, e'] <;> omega
/-- a place of the class (int v, label l) and of the reference (cell c, named n) -/
def ce_ (N0 : im_M) (v l c n : Int32) : Prop := (n = 0 ∧ l = -1 ∧ v = c) ∨ (n = 1 ∧ ∃ m, m < 8 ∧ l = nI m ∧ c = nI m ∧ N0 19 m = 1)
def TR (M0 N0 : im_M) (j : Nat) (M N : im_M) : Prop := (∀ c, c < 42 → M c = M0 c) ∧ (∀ a, 1 ≤ a → a ≤ 21 → N a = N0 a) ∧ (∀ i, i < 27 → N 0 i = N0 0 i) ∧ rl_T M N ∧ ∃ c, c ≤ j ∧ N 0 30 = nI c
def FI (N0 : im_M) (ln : Nat) (M N : im_M) : Prop := (∃ g, g ≤ 16 ∧ M 43 1 = nI g ∧ N 0 28 = nI g) ∧ (∃ g, g ≤ 12 ∧ M 43 2 = nI g ∧ N 0 29 = nI g) ∧ (∃ p, p ≤ ln ∧ M 42 3 = nI p ∧ N 0 27 = nI p) ∧ ∀ q, q < 21 → ce_ N0 (M 48 q) (M 49 q) (N 22 (cq_ q)) (N 23 (cq_ q))
theorem cg_T1 {M M' N N' : im_M} (h : rl_T M N) (hM : ∀ j, 44 ≤ j → j ≤ 47 → M' j = M j) (h0 : N' 0 30 = N 0 30) (hN : N' 24 = N 24) : rl_T M' N' := by
  unfold rl_T at *
  rw [hM 44 (by decide) (by decide), hM 45 (by decide) (by decide), hM 46 (by decide) (by decide), hM 47 (by decide) (by decide), h0, hN]
  exact h
section FO
variable {M0 N0 M N : im_M} {ln j : Nat}
theorem TR.le (h : TR M0 N0 j M N) {j' : Nat} (hj : j ≤ j') : TR M0 N0 j' M N := by
  obtain ⟨h1, h2, h3, h4, c, hc, e⟩ := h
  exact ⟨h1, h2, h3, h4, c, by omega, e⟩
theorem TR.cell (h : TR M0 N0 j M N) (q r : Nat) (v l c n : Int32) : TR M0 N0 j (im_u (im_u M 48 q v) 49 q l) (im_u (im_u N 22 r c) 23 r n) := by
  obtain ⟨h1, h2, h3, h4, h5⟩ := h
  refine ⟨fun a ha => by rw [u_j _ _ _ _ (by omega), u_j _ _ _ _ (by omega)]; exact h1 a ha, fun a h1 h2' => by rw [u_j _ _ _ _ (by omega), u_j _ _ _ _ (by omega)]; exact h2 a h1 h2', fun i hi => by rw [u_j _ _ _ _ (by decide), u_j _ _ _ _ (by decide)]; exact h3 i hi, ?_, ?_⟩
  · exact cg_T1 h4 (N' := im_u (im_u N 22 r c) 23 r n) (fun a h1 h2 => by rw [u_j _ _ _ _ (by omega), u_j _ _ _ _ (by omega)]) (by rw [u_j _ _ _ _ (by decide), u_j _ _ _ _ (by decide)]) (by rw [u_j _ _ _ _ (by decide), u_j _ _ _ _ (by decide)])
  · rw [u_j _ _ _ _ (by decide), u_j _ _ _ _ (by decide)]; exact h5
theorem FI.cell (h : FI N0 ln M N) {q : Nat} (hq : q < 21) {v l c n : Int32} (hc : ce_ N0 v l c n) : FI N0 ln (im_u (im_u M 48 q v) 49 q l) (im_u (im_u N 22 (cq_ q) c) 23 (cq_ q) n) := by
  obtain ⟨h1, h2, h3, h4⟩ := h
  refine ⟨?_, ?_, ?_, fun q' hq' => ?_⟩
  · rw [u_j _ _ _ _ (by decide), u_j _ _ _ _ (by decide), u_j _ _ _ _ (by decide), u_j _ _ _ _ (by decide)]; exact h1
  · rw [u_j _ _ _ _ (by decide), u_j _ _ _ _ (by decide), u_j _ _ _ _ (by decide), u_j _ _ _ _ (by decide)]; exact h2
  · rw [u_j _ _ _ _ (by decide), u_j _ _ _ _ (by decide), u_j _ _ _ _ (by decide), u_j _ _ _ _ (by decide)]; exact h3
  · rw [u_j _ 49 _ _ (by decide), u_i, u_i, u_j M 48 _ _ (by decide), u_j _ 23 _ _ (by decide), u_i, u_i, u_j N 22 _ _ (by decide)]
    by_cases e : q' = q
    · have e' : cq_ q' = cq_ q := cq_inj.mpr e
      rw [if_pos e, if_pos e, if_pos e', if_pos e']
      exact hc
    · have e' : ¬ cq_ q' = cq_ q := fun z => e (cq_inj.mp z)
      rw [if_neg e, if_neg e, if_neg e', if_neg e']
      exact h4 q' hq'
/-- a slot of the class's follower and one of the reference's -/
theorem TR.slot (h : TR M0 N0 j M N) {c i r : Nat} (hc : c = 42 ∨ c = 43) (hr : r = 27 ∨ r = 28 ∨ r = 29) (v v' : Int32) : TR M0 N0 j (im_u M c i v) (im_u N 0 r v') := by
  obtain ⟨h1, h2, h3, h4, h5⟩ := h
  refine ⟨fun a ha => by rw [u_j _ _ _ _ (by omega)]; exact h1 a ha, fun a h1 h2' => by rw [u_j _ _ _ _ (by omega)]; exact h2 a h1 h2', fun i hi => by rw [u_k _ _ _ _ (by omega)]; exact h3 i hi, ?_, ?_⟩
  · exact cg_T1 h4 (N' := im_u N 0 r v') (fun a h1 h2 => u_j _ _ _ _ (by omega)) (u_k _ _ _ _ (by omega)) (u_j _ _ _ _ (by decide))
  · rw [u_k _ _ _ _ (by omega)]; exact h5
theorem FI.place (h : FI N0 ln M N) {p : Nat} (hp : p ≤ ln) : FI N0 ln (im_u M 42 3 (nI p)) (im_u N 0 27 (nI p)) := by
  obtain ⟨h1, h2, h3, h4⟩ := h
  refine ⟨?_, ?_, ⟨p, hp, u_s _ _ _ _, u_s _ _ _ _⟩, fun q hq => ?_⟩
  · rw [u_j _ _ _ _ (by decide), u_k _ _ _ _ (by decide)]; exact h1
  · rw [u_j _ _ _ _ (by decide), u_k _ _ _ _ (by decide)]; exact h2
  · rw [u_j _ _ _ _ (by decide), u_j _ _ _ _ (by decide), u_j _ _ _ _ (by decide), u_j _ _ _ _ (by decide)]; exact h4 q hq
theorem FI.grown (h : FI N0 ln M N) {p : Nat} (hp : p ≤ 16) : FI N0 ln (im_u M 43 1 (nI p)) (im_u N 0 28 (nI p)) := by
  obtain ⟨h1, h2, h3, h4⟩ := h
  refine ⟨⟨p, hp, u_s _ _ _ _, u_s _ _ _ _⟩, ?_, ?_, fun q hq => ?_⟩
  · rw [u_k _ _ _ _ (by decide), u_k _ _ _ _ (by decide)]; exact h2
  · rw [u_j _ _ _ _ (by decide), u_k _ _ _ _ (by decide)]; exact h3
  · rw [u_j _ _ _ _ (by decide), u_j _ _ _ _ (by decide), u_j _ _ _ _ (by decide), u_j _ _ _ _ (by decide)]; exact h4 q hq
theorem FI.taken (h : FI N0 ln M N) {p : Nat} (hp : p ≤ 12) : FI N0 ln (im_u M 43 2 (nI p)) (im_u N 0 29 (nI p)) := by
  obtain ⟨h1, h2, h3, h4⟩ := h
  refine ⟨?_, ⟨p, hp, u_s _ _ _ _, u_s _ _ _ _⟩, ?_, fun q hq => ?_⟩
  · rw [u_k _ _ _ _ (by decide), u_k _ _ _ _ (by decide)]; exact h1
  · rw [u_j _ _ _ _ (by decide), u_k _ _ _ _ (by decide)]; exact h3
  · rw [u_j _ _ _ _ (by decide), u_j _ _ _ _ (by decide), u_j _ _ _ _ (by decide), u_j _ _ _ _ (by decide)]; exact h4 q hq
theorem ce_n {v l c n : Int32} (h : ce_ N0 v l c n) : n = 0 ∨ n = 1 := by
  rcases h with h | h
  · exact Or.inl h.1
  · exact Or.inr h.1
theorem ce_v {v l c n : Int32} (h : ce_ N0 v l c n) (e : n = 0) : v = c := by
  rcases h with h | h
  · exact h.2.2
  · exact absurd (e.symm.trans h.1) (by decide)
theorem ce_l {v l c n : Int32} (h : ce_ N0 v l c n) (e : ¬ n = 0) : n = 1 ∧ ∃ m, m < 8 ∧ l = nI m ∧ c = nI m ∧ N0 19 m = 1 := by
  rcases h with h | h
  · exact absurd h.1 e
  · exact h
/-- holdsLabel -/
theorem g23 (h : FI N0 ln M N) {q : Nat} (hq : q < 21) : gn_23 (nI q) M = some (N 23 (cq_ q), M) := by
  rw [gn_23, if_pos (ib_n hq (by decide)), cl_n (by omega)]
  rcases h.2.2.2 q hq with ⟨e1, e2, -⟩ | ⟨e1, m, hm, e2, -⟩
  · rw [e2, if_pos rfl, e1]
  · rw [e2, if_neg (n_m1 (by omega)), e1]
theorem g27 {q : Nat} (hq : q < 21) (v : Int32) (M : im_M) : gn_27 (nI q) v M = some (im_u (im_u M 48 q v) 49 q (-1)) := by
  have i := ib_n (n := 21) hq (by decide)
  rw [gn_27, if_pos i, cl_n (by omega)]
  simp only [if_pos i]
theorem g26 {q q' : Nat} (hq : q < 21) (hq' : q' < 21) (M : im_M) : gn_26 (nI q) (nI q') M = some (im_u (im_u M 48 q' (M 48 q)) 49 q' (M 49 q)) := by
  have i := ib_n (n := 21) hq (by decide)
  have i' := ib_n (n := 21) hq' (by decide)
  rw [gn_26, if_pos i, if_pos i', cl_n (show q < 2 ^ 31 by omega), cl_n (show q' < 2 ^ 31 by omega)]
  simp only [if_pos i, if_pos i', u_j M 48 q' (M 48 q) (show 49 ≠ 48 by decide)]
theorem g122 {r : Nat} (hr : r < 24) (v n : Int32) (N : im_M) : gn_122 (nI r) v n N = some (im_u (im_u N 22 r v) 23 r (n &&& 1)) := by
  have i := ib_n (n := 24) hr (by decide)
  rw [gn_122, if_pos i, cl_n (by omega)]
  simp only [if_pos i]
end FO
