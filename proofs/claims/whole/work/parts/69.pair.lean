/-! paired changes: a class cell and the reference's place for it -/
def Cor (k c i j r : Nat) : Prop := (c = 12 + 10 * k ∧ i = 4 ∧ j = 9 ∧ r = k) ∨ (c = 12 + 10 * k ∧ i = 5 ∧ j = 4 ∧ r = k) ∨ (c = 12 + 10 * k ∧ i = 6 ∧ j = 2 ∧ r = k) ∨ (c = 12 + 10 * k ∧ i = 9 ∧ j = 7 ∧ r = k) ∨ (c = 12 + 10 * k ∧ i = 10 ∧ j = 12 ∧ r = k) ∨
  (c = 15 + 10 * k ∧ i = 1 ∧ j = 5 ∧ r = k) ∨ (c = 15 + 10 * k ∧ i = 2 ∧ j = 10 ∧ r = k) ∨ (c = 16 + 10 * k ∧ i = 3 ∧ j = 13 ∧ r = k) ∨
  (c = 13 + 10 * k ∧ i < 8 ∧ j = 3 ∧ r = 8 * k + i) ∨ (c = 14 + 10 * k ∧ i < 12 ∧ j = 8 ∧ r = 12 * k + i) ∨ (c = 20 + 10 * k ∧ i < 4 ∧ j = 6 ∧ r = 4 * k + i) ∨ (c = 21 + 10 * k ∧ i < 8 ∧ j = 11 ∧ r = 8 * k + i) ∨
  (c = 17 + 10 * k ∧ i < 16 ∧ j = 14 ∧ r = 48 * k + 3 * i) ∨ (c = 18 + 10 * k ∧ i < 16 ∧ j = 14 ∧ r = 48 * k + 3 * i + 1) ∨ (c = 19 + 10 * k ∧ i < 16 ∧ j = 14 ∧ r = 48 * k + 3 * i + 2)
theorem crr_0 {k : Nat} : Cor k (12 + 10 * k) 4 9 k := Or.inl ⟨rfl, rfl, rfl, rfl⟩
theorem crr_1 {k : Nat} : Cor k (12 + 10 * k) 5 4 k := Or.inr (Or.inl ⟨rfl, rfl, rfl, rfl⟩)
theorem crr_2 {k : Nat} : Cor k (12 + 10 * k) 6 2 k := Or.inr (Or.inr (Or.inl ⟨rfl, rfl, rfl, rfl⟩))
theorem crr_3 {k : Nat} : Cor k (12 + 10 * k) 9 7 k := Or.inr (Or.inr (Or.inr (Or.inl ⟨rfl, rfl, rfl, rfl⟩)))
theorem crr_4 {k : Nat} : Cor k (12 + 10 * k) 10 12 k := Or.inr (Or.inr (Or.inr (Or.inr (Or.inl ⟨rfl, rfl, rfl, rfl⟩))))
theorem crr_5 {k : Nat} : Cor k (15 + 10 * k) 1 5 k := Or.inr (Or.inr (Or.inr (Or.inr (Or.inr (Or.inl ⟨rfl, rfl, rfl, rfl⟩)))))
theorem crr_6 {k : Nat} : Cor k (15 + 10 * k) 2 10 k := Or.inr (Or.inr (Or.inr (Or.inr (Or.inr (Or.inr (Or.inl ⟨rfl, rfl, rfl, rfl⟩))))))
theorem crr_7 {k : Nat} : Cor k (16 + 10 * k) 3 13 k := Or.inr (Or.inr (Or.inr (Or.inr (Or.inr (Or.inr (Or.inr (Or.inl ⟨rfl, rfl, rfl, rfl⟩)))))))
theorem crr_8 {k i : Nat} (h : i < 8) : Cor k (13 + 10 * k) i 3 (8 * k + i) := Or.inr (Or.inr (Or.inr (Or.inr (Or.inr (Or.inr (Or.inr (Or.inr (Or.inl ⟨rfl, h, rfl, rfl⟩))))))))
theorem crr_9 {k i : Nat} (h : i < 12) : Cor k (14 + 10 * k) i 8 (12 * k + i) := Or.inr (Or.inr (Or.inr (Or.inr (Or.inr (Or.inr (Or.inr (Or.inr (Or.inr (Or.inl ⟨rfl, h, rfl, rfl⟩)))))))))
theorem crr_10 {k i : Nat} (h : i < 4) : Cor k (20 + 10 * k) i 6 (4 * k + i) := Or.inr (Or.inr (Or.inr (Or.inr (Or.inr (Or.inr (Or.inr (Or.inr (Or.inr (Or.inr (Or.inl ⟨rfl, h, rfl, rfl⟩))))))))))
theorem crr_11 {k i : Nat} (h : i < 8) : Cor k (21 + 10 * k) i 11 (8 * k + i) := Or.inr (Or.inr (Or.inr (Or.inr (Or.inr (Or.inr (Or.inr (Or.inr (Or.inr (Or.inr (Or.inr (Or.inl ⟨rfl, h, rfl, rfl⟩)))))))))))
theorem crr_12 {k i : Nat} (h : i < 16) : Cor k (17 + 10 * k) i 14 (48 * k + 3 * i) := Or.inr (Or.inr (Or.inr (Or.inr (Or.inr (Or.inr (Or.inr (Or.inr (Or.inr (Or.inr (Or.inr (Or.inr (Or.inl ⟨rfl, h, rfl, rfl⟩))))))))))))
theorem crr_13 {k i : Nat} (h : i < 16) : Cor k (18 + 10 * k) i 14 (48 * k + 3 * i + 1) := Or.inr (Or.inr (Or.inr (Or.inr (Or.inr (Or.inr (Or.inr (Or.inr (Or.inr (Or.inr (Or.inr (Or.inr (Or.inr (Or.inl ⟨rfl, h, rfl, rfl⟩)))))))))))))
theorem crr_14 {k i : Nat} (h : i < 16) : Cor k (19 + 10 * k) i 14 (48 * k + 3 * i + 2) := Or.inr (Or.inr (Or.inr (Or.inr (Or.inr (Or.inr (Or.inr (Or.inr (Or.inr (Or.inr (Or.inr (Or.inr (Or.inr (Or.inr (⟨rfl, h, rfl, rfl⟩))))))))))))))
theorem cor_rl {M N : im_M} {k : Nat} (h : rl_K M N k) {c i j r : Nat} (hc : Cor k c i j r) : M c i = N j r := by
  obtain ⟨c0, c1, c2, c3, c4, c5, c6, c7, c8, c9, c10, c11, c12, c13⟩ := h
  rcases hc with ⟨rfl, rfl, rfl, rfl⟩ | ⟨rfl, rfl, rfl, rfl⟩ | ⟨rfl, rfl, rfl, rfl⟩ | ⟨rfl, rfl, rfl, rfl⟩ | ⟨rfl, rfl, rfl, rfl⟩ | ⟨rfl, rfl, rfl, rfl⟩ | ⟨rfl, rfl, rfl, rfl⟩ | ⟨rfl, rfl, rfl, rfl⟩ | ⟨rfl, hi, rfl, rfl⟩ | ⟨rfl, hi, rfl, rfl⟩ | ⟨rfl, hi, rfl, rfl⟩ | ⟨rfl, hi, rfl, rfl⟩ | ⟨rfl, hi, rfl, rfl⟩ | ⟨rfl, hi, rfl, rfl⟩ | ⟨rfl, hi, rfl, rfl⟩
  · exact c1
  · exact c2
  · exact c3
  · exact c4
  · exact c5
  · exact c6
  · exact c7
  · exact c8
  · exact c9 i hi
  · exact c10 i hi
  · exact c11 i hi
  · exact c12 i hi
  · exact (c13 i hi).1
  · exact (c13 i hi).2.1
  · exact (c13 i hi).2.2
theorem rl_cor {M N : im_M} {k : Nat} (h0 : M (12 + 10 * k) 0 = nI k) (h : ∀ c i j r, Cor k c i j r → M c i = N j r) : rl_K M N k := by
  exact ⟨h0, h _ _ _ _ crr_0, h _ _ _ _ crr_1, h _ _ _ _ crr_2, h _ _ _ _ crr_3, h _ _ _ _ crr_4, h _ _ _ _ crr_5, h _ _ _ _ crr_6, h _ _ _ _ crr_7, fun r hr => h _ _ _ _ (crr_8 hr), fun i hi => h _ _ _ _ (crr_9 hi), fun i hi => h _ _ _ _ (crr_10 hi), fun i hi => h _ _ _ _ (crr_11 hi), fun i hi => ⟨h _ _ _ _ (crr_12 hi), h _ _ _ _ (crr_13 hi), h _ _ _ _ (crr_14 hi)⟩⟩
theorem u_o (N : im_M) (j r : Nat) (v : Int32) {a b : Nat} (h : ¬ (a = j ∧ b = r)) : im_u N j r v a b = N a b := by
  unfold im_u
  by_cases ha : a = j
  · rw [if_pos ha, if_neg (fun e => h ⟨ha, e⟩)]
  · rw [if_neg ha]
theorem u_p (N : im_M) (j r : Nat) (v : Int32) {a b : Nat} (h : a = j ∧ b = r) : im_u N j r v a b = v := by
  rw [h.1, h.2, u_s]
theorem cor_inj {k k' c i j r c' i' j' r' : Nat} (hk : k < 3) (hk' : k' < 3) (h : Cor k c i j r) (h' : Cor k' c' i' j' r') : (c' = c ∧ i' = i) ↔ (j' = j ∧ r' = r) := by
  rcases h with h | h | h | h | h | h | h | h | h | h | h | h | h | h | h <;> rcases h' with h' | h' | h' | h' | h' | h' | h' | h' | h' | h' | h' | h' | h' | h' | h' <;> omega
theorem cor_c {k c i j r : Nat} (h : Cor k c i j r) : 12 + 10 * k ≤ c ∧ c < 22 + 10 * k ∧ 2 ≤ j ∧ j ≤ 14 := by
  rcases h with h | h | h | h | h | h | h | h | h | h | h | h | h | h | h <;> omega
/-- as RB, but nothing is said of sandbox k's fences -/
def RX (k B : Nat) (M N : im_M) : Prop := (rl_S M N ∧ ri_S N) ∧ (rl_C M N ∧ ri_C N) ∧ (rl_M M N ∧ ri_M N) ∧ (rl_T M N ∧ ri_T N) ∧ ∀ k', k' < 3 → rl_K M N k' ∧ ri_K B N k' ∧ (k' ≠ k → N 2 k' = 1 → rs_K N k')
theorem eqK_up {k k' c i j r : Nat} (hk : k < 3) (hk' : k' < 3) (hne : k' ≠ k) (hc : Cor k c i j r) (N : im_M) (v : Int32) : eq_K k' N (im_u N j r v) := by
  rcases hc with hc | hc | hc | hc | hc | hc | hc | hc | hc | hc | hc | hc | hc | hc | hc <;> exact ⟨⟨u_o _ _ _ _ (by omega), u_o _ _ _ _ (by omega), u_o _ _ _ _ (by omega), u_o _ _ _ _ (by omega), u_o _ _ _ _ (by omega), u_o _ _ _ _ (by omega), u_o _ _ _ _ (by omega), u_o _ _ _ _ (by omega)⟩, fun _ _ => u_o _ _ _ _ (by omega), fun _ _ => u_o _ _ _ _ (by omega), fun _ _ => u_o _ _ _ _ (by omega), fun _ _ => u_o _ _ _ _ (by omega), fun _ _ => u_o _ _ _ _ (by omega), fun _ _ _ => u_o _ _ _ _ (by omega)⟩
theorem ri_le {B B' : Nat} {N : im_M} {k : Nat} (h : ri_K B N k) (hB : B ≤ B') : ri_K B' N k := by
  obtain ⟨h1, h2, h3, h4, h5, x, hx, e⟩ := h
  exact ⟨h1, h2, h3, h4, h5, x, by omega, e⟩
theorem ri_eq {B : Nat} {N N' : im_M} {k : Nat} (h : ri_K B N k) (he : eq_K k N N') : ri_K B N' k := by
  obtain ⟨⟨a2, a4, a5, a7, a9, a10, a12, a13⟩, -⟩ := he
  unfold ri_K at *
  rw [a2, a5, a7, a9, a10, a13]
  exact h
/-- the same value at both places -/
theorem up_ {k B B' c i j r : Nat} {M N : im_M} (h : RX k B M N) (hk : k < 3) (hc : Cor k c i j r) (v : Int32) (hB : B ≤ B') (hri : ri_K B' (im_u N j r v) k) : RX k B' (im_u M c i v) (im_u N j r v) := by
  obtain ⟨q1, q2, q3, q4⟩ := cor_c hc
  refine ⟨cg_S h.1 (fun a _ _ => u_j _ _ _ _ (by omega)) (by rw [u_j _ _ _ _ (by omega)]) (fun a _ _ => u_j _ _ _ _ (by omega)), cg_C h.2.1 (by rw [u_j _ _ _ _ (by omega)]) (u_j _ _ _ _ (by omega)) (by rw [u_j _ _ _ _ (by omega)]) (u_j _ _ _ _ (by omega)), cg_M h.2.2.1 (u_j _ _ _ _ (by omega)) (u_j _ _ _ _ (by omega)) (by rw [u_j _ _ _ _ (by omega)]) (by rw [u_j _ _ _ _ (by omega)]) (u_j _ _ _ _ (by omega)), cg_T h.2.2.2.1 (fun a _ _ => u_j _ _ _ _ (by omega)) (by rw [u_j _ _ _ _ (by omega)]) (u_j _ _ _ _ (by omega)), fun k' hk' => ⟨?_, ?_, fun hne e => ?_⟩⟩
  · have hK := (h.2.2.2.2 k' hk').1
    refine rl_cor ?_ (fun c' i' j' r' hc' => ?_)
    · rw [u_o _ _ _ _ ?_]
      · exact hK.1
      · rcases hc with hc | hc | hc | hc | hc | hc | hc | hc | hc | hc | hc | hc | hc | hc | hc <;> omega
    · have hi := cor_inj hk hk' hc hc'
      by_cases e : c' = c ∧ i' = i
      · rw [u_p _ _ _ _ e, u_p _ _ _ _ (hi.mp e)]
      · rw [u_o _ _ _ _ e, u_o _ _ _ _ (fun z => e (hi.mpr z))]
        exact cor_rl hK hc'
  · by_cases hne : k' = k
    · subst hne; exact hri
    · exact ri_le (ri_eq (h.2.2.2.2 k' hk').2.1 (eqK_up hk hk' hne hc N v)) hB
  · have he := eqK_up hk hk' hne hc N v
    exact cg_Ks he ((h.2.2.2.2 k' hk').2.2 hne (he.1.1.symm.trans e))
theorem ri_free {B j r k : Nat} {N : im_M} {v : Int32} (h : ri_K B N k) (h2 : j ≠ 2) (h5 : j ≠ 5) (h7 : j ≠ 7) (h9 : j ≠ 9) (h10 : j ≠ 10) (h13 : j ≠ 13) : ri_K B (im_u N j r v) k := by
  unfold ri_K at *
  rw [u_j _ _ _ _ (Ne.symm h2), u_j _ _ _ _ (Ne.symm h5), u_j _ _ _ _ (Ne.symm h7), u_j _ _ _ _ (Ne.symm h9), u_j _ _ _ _ (Ne.symm h10), u_j _ _ _ _ (Ne.symm h13)]
  exact h
section UP
variable {k B : Nat} {M N : im_M}
theorem up_reg (h : RX k B M N) (hk : k < 3) {a : Nat} (ha : a < 8) (v : Int32) : RX k B (im_u M (13 + 10 * k) a v) (im_u N 3 (8 * k + a) v) :=
  up_ h hk (crr_8 ha) v (Nat.le_refl _) (ri_free (h.2.2.2.2 k hk).2.1 (by decide) (by decide) (by decide) (by decide) (by decide) (by decide))
theorem up_pc (h : RX k B M N) (hk : k < 3) (v : Int32) : RX k B (im_u M (12 + 10 * k) 5 v) (im_u N 4 k v) :=
  up_ h hk crr_1 v (Nat.le_refl _) (ri_free (h.2.2.2.2 k hk).2.1 (by decide) (by decide) (by decide) (by decide) (by decide) (by decide))
theorem up_st (h : RX k B M N) (hk : k < 3) {x : Nat} (hx : x < 4) (hx0 : x ≠ 0) : RX k B (im_u M (12 + 10 * k) 6 (nI x)) (im_u N 2 k (nI x)) := by
  refine up_ h hk crr_2 _ (Nat.le_refl _) ?_
  obtain ⟨d1, d2, d3, d4, d5, d6⟩ := (h.2.2.2.2 k hk).2.1
  exact ⟨⟨⟨x, hx, u_s _ _ _ _⟩, fun z => absurd ((u_s N 2 k (nI x)).symm.trans z) (fun e => hx0 ((nI_eq (by omega) (by decide)).mp (e.trans (show (0 : Int32) = nI 0 from rfl))))⟩, by rw [u_j _ _ _ _ (by decide)]; exact d2, by rw [u_j _ _ _ _ (by decide)]; exact d3, by rw [u_j _ _ _ _ (by decide)]; exact d4, by rw [u_j _ _ _ _ (by decide)]; exact d5, by rw [u_j _ _ _ _ (by decide)]; exact d6⟩
theorem up_ml (h : RX k B M N) (hk : k < 3) {x : Nat} (hx : x ≤ 4) : RX k B (im_u M (12 + 10 * k) 9 (nI x)) (im_u N 7 k (nI x)) := by
  refine up_ h hk crr_3 _ (Nat.le_refl _) ?_
  obtain ⟨d1, d2, d3, d4, d5, d6⟩ := (h.2.2.2.2 k hk).2.1
  exact ⟨by rw [u_j _ _ _ _ (by decide)]; exact d1, ⟨x, hx, u_s _ _ _ _⟩, by rw [u_j _ _ _ _ (by decide)]; exact d3, by rw [u_j _ _ _ _ (by decide)]; exact d4, by rw [u_j _ _ _ _ (by decide)]; exact d5, by rw [u_j _ _ _ _ (by decide)]; exact d6⟩
theorem up_tk (h : RX k B M N) (hk : k < 3) {x : Nat} (hx : x ≤ 12) : RX k B (im_u M (15 + 10 * k) 2 (nI x)) (im_u N 10 k (nI x)) := by
  refine up_ h hk crr_6 _ (Nat.le_refl _) ?_
  obtain ⟨d1, d2, d3, d4, d5, d6⟩ := (h.2.2.2.2 k hk).2.1
  exact ⟨by rw [u_j _ _ _ _ (by decide)]; exact d1, by rw [u_j _ _ _ _ (by decide)]; exact d2, by rw [u_j _ _ _ _ (by decide)]; exact d3, ⟨x, hx, u_s _ _ _ _⟩, by rw [u_j _ _ _ _ (by decide)]; exact d5, by rw [u_j _ _ _ _ (by decide)]; exact d6⟩
theorem up_gr (h : RX k B M N) (hk : k < 3) {x : Nat} (hx : x ≤ 16) : RX k B (im_u M (15 + 10 * k) 1 (nI x)) (im_u N 5 k (nI x)) := by
  refine up_ h hk crr_5 _ (Nat.le_refl _) ?_
  obtain ⟨d1, d2, d3, d4, d5, d6⟩ := (h.2.2.2.2 k hk).2.1
  exact ⟨by rw [u_j _ _ _ _ (by decide)]; exact d1, by rw [u_j _ _ _ _ (by decide)]; exact d2, by rw [u_j _ _ _ _ (by decide)]; exact d3, by rw [u_j _ _ _ _ (by decide)]; exact d4, ⟨x, hx, u_s _ _ _ _⟩, by rw [u_j _ _ _ _ (by decide)]; exact d6⟩
theorem up_cl (h : RX k B M N) (hk : k < 3) {x B' : Nat} (hB : B ≤ B') (hx : x ≤ B') : RX k B' (im_u M (16 + 10 * k) 3 (nI x)) (im_u N 13 k (nI x)) := by
  refine up_ h hk crr_7 _ hB ?_
  obtain ⟨d1, d2, d3, d4, d5, d6⟩ := (h.2.2.2.2 k hk).2.1
  exact ⟨by rw [u_j _ _ _ _ (by decide)]; exact d1, by rw [u_j _ _ _ _ (by decide)]; exact d2, by rw [u_j _ _ _ _ (by decide)]; exact d3, by rw [u_j _ _ _ _ (by decide)]; exact d4, by rw [u_j _ _ _ _ (by decide)]; exact d5, ⟨x, hx, u_s _ _ _ _⟩⟩
theorem up_oc (h : RX k B M N) (hk : k < 3) (v : Int32) : RX k B (im_u M (12 + 10 * k) 10 v) (im_u N 12 k v) :=
  up_ h hk crr_4 v (Nat.le_refl _) (ri_free (h.2.2.2.2 k hk).2.1 (by decide) (by decide) (by decide) (by decide) (by decide) (by decide))
theorem up_out (h : RX k B M N) (hk : k < 3) {i : Nat} (hi : i < 8) (v : Int32) : RX k B (im_u M (21 + 10 * k) i v) (im_u N 11 (8 * k + i) v) :=
  up_ h hk (crr_11 hi) v (Nat.le_refl _) (ri_free (h.2.2.2.2 k hk).2.1 (by decide) (by decide) (by decide) (by decide) (by decide) (by decide))
theorem up_mail (h : RX k B M N) (hk : k < 3) {i : Nat} (hi : i < 4) (v : Int32) : RX k B (im_u M (20 + 10 * k) i v) (im_u N 6 (4 * k + i) v) :=
  up_ h hk (crr_10 hi) v (Nat.le_refl _) (ri_free (h.2.2.2.2 k hk).2.1 (by decide) (by decide) (by decide) (by decide) (by decide) (by decide))
theorem up_c1 (h : RX k B M N) (hk : k < 3) {i : Nat} (hi : i < 16) (v : Int32) : RX k B (im_u M (17 + 10 * k) i v) (im_u N 14 (48 * k + 3 * i) v) :=
  up_ h hk (crr_12 hi) v (Nat.le_refl _) (ri_free (h.2.2.2.2 k hk).2.1 (by decide) (by decide) (by decide) (by decide) (by decide) (by decide))
theorem up_c2 (h : RX k B M N) (hk : k < 3) {i : Nat} (hi : i < 16) (v : Int32) : RX k B (im_u M (18 + 10 * k) i v) (im_u N 14 (48 * k + 3 * i + 1) v) :=
  up_ h hk (crr_13 hi) v (Nat.le_refl _) (ri_free (h.2.2.2.2 k hk).2.1 (by decide) (by decide) (by decide) (by decide) (by decide) (by decide))
theorem up_c3 (h : RX k B M N) (hk : k < 3) {i : Nat} (hi : i < 16) (v : Int32) : RX k B (im_u M (19 + 10 * k) i v) (im_u N 14 (48 * k + 3 * i + 2) v) :=
  up_ h hk (crr_14 hi) v (Nat.le_refl _) (ri_free (h.2.2.2.2 k hk).2.1 (by decide) (by decide) (by decide) (by decide) (by decide) (by decide))
theorem up_mem (h : RX k B M N) {a : Nat} (ha : a < 64) (v : Int32) : RX k B (im_u M 10 a v) (im_u N 1 a v) := by
  refine ⟨cg_S h.1 (fun b _ _ => u_j _ _ _ _ (by omega)) (by rw [u_j _ _ _ _ (by omega)]) (fun b _ _ => u_j _ _ _ _ (by omega)), cg_C h.2.1 (by rw [u_j _ _ _ _ (by omega)]) (u_j _ _ _ _ (by omega)) (by rw [u_j _ _ _ _ (by omega)]) (u_j _ _ _ _ (by omega)), ⟨⟨?_, ?_, fun b hb => ?_⟩, ?_⟩, cg_T h.2.2.2.1 (fun b _ _ => u_j _ _ _ _ (by omega)) (by rw [u_j _ _ _ _ (by omega)]) (u_j _ _ _ _ (by omega)), fun k' hk' => ?_⟩
  · rw [u_j _ _ _ _ (by decide), u_j _ _ _ _ (by decide)]; exact h.2.2.1.1.1
  · rw [u_j _ _ _ _ (by decide), u_j _ _ _ _ (by decide)]; exact h.2.2.1.1.2.1
  · rw [u_i, u_i, h.2.2.1.1.2.2 b hb]
  · have := h.2.2.1.2
    unfold ri_M at *
    rw [u_j _ _ _ _ (by decide)]
    exact this
  · have he : eq_K k' N (im_u N 1 a v) := ⟨⟨u_o _ _ _ _ (by omega), u_o _ _ _ _ (by omega), u_o _ _ _ _ (by omega), u_o _ _ _ _ (by omega), u_o _ _ _ _ (by omega), u_o _ _ _ _ (by omega), u_o _ _ _ _ (by omega), u_o _ _ _ _ (by omega)⟩, fun _ _ => u_o _ _ _ _ (by omega), fun _ _ => u_o _ _ _ _ (by omega), fun _ _ => u_o _ _ _ _ (by omega), fun _ _ => u_o _ _ _ _ (by omega), fun _ _ => u_o _ _ _ _ (by omega), fun _ _ _ => u_o _ _ _ _ (by omega)⟩
    obtain ⟨g1, g2, g3⟩ := h.2.2.2.2 k' hk'
    refine ⟨?_, ri_eq g2 he, fun hne e => cg_Ks he (g3 hne (he.1.1.symm.trans e))⟩
    refine rl_cor ?_ (fun c i j r hc => ?_)
    · rw [u_j _ _ _ _ (by omega)]; exact g1.1
    · obtain ⟨q1, q2, q3, q4⟩ := cor_c hc
      rw [u_j _ _ _ _ (by omega), u_j _ _ _ _ (by omega)]
      exact cor_rl g1 hc
theorem rx_of (h : RB B M N) (k : Nat) : RX k B M N := ⟨h.1, h.2.1, h.2.2.1, h.2.2.2.1, fun k' hk' => ⟨(h.2.2.2.2 k' hk').1, (h.2.2.2.2 k' hk').2.1, fun _ => (h.2.2.2.2 k' hk').2.2⟩⟩
theorem rx_to (h : RX k B M N) (hs : N 2 k = 1 → rs_K N k) : RB B M N := ⟨h.1, h.2.1, h.2.2.1, h.2.2.2.1, fun k' hk' => ⟨(h.2.2.2.2 k' hk').1, (h.2.2.2.2 k' hk').2.1, fun e => by
  by_cases hne : k' = k
  · subst hne; exact hs e
  · exact (h.2.2.2.2 k' hk').2.2 hne e⟩⟩
theorem rx_le (h : RX k B M N) {B' : Nat} (hB : B ≤ B') : RX k B' M N := ⟨h.1, h.2.1, h.2.2.1, h.2.2.2.1, fun k' hk' => ⟨(h.2.2.2.2 k' hk').1, ri_le (h.2.2.2.2 k' hk').2.1 hB, (h.2.2.2.2 k' hk').2.2⟩⟩
/-- a change of another sandbox's mail, seen from k -/
theorem rx_k {k' : Nat} (h : RX k B M N) (hs : k' ≠ k → N 2 k = 1 → rs_K N k) : RX k' B M N := ⟨h.1, h.2.1, h.2.2.1, h.2.2.2.1, fun q hq => ⟨(h.2.2.2.2 q hq).1, (h.2.2.2.2 q hq).2.1, fun hne e => by
  by_cases hk : q = k
  · subst hk; exact hs (Ne.symm hne) e
  · exact (h.2.2.2.2 q hq).2.2 hk e⟩⟩
end UP
