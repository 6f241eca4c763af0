/-! host calls -/
/-- what a host call's inner changes leave as it is -/
def sm_ (M N M1 N1 : im_M) : Prop := N1 0 = N 0 ∧ N1 1 = N 1 ∧ N1 2 = N 2 ∧ N1 3 = N 3 ∧ N1 4 = N 4 ∧ M1 9 = M 9
theorem sm_.rf {M N : im_M} : sm_ M N M N := ⟨rfl, rfl, rfl, rfl, rfl, rfl⟩
theorem sm_.tr {M N M1 N1 M2 N2 : im_M} (h : sm_ M N M1 N1) (h' : sm_ M1 N1 M2 N2) : sm_ M N M2 N2 := ⟨h'.1.trans h.1, h'.2.1.trans h.2.1, h'.2.2.1.trans h.2.2.1, h'.2.2.2.1.trans h.2.2.2.1, h'.2.2.2.2.1.trans h.2.2.2.2.1, h'.2.2.2.2.2.trans h.2.2.2.2.2⟩
theorem sm_.up {M N : im_M} {c i j r : Nat} {v v' : Int32} (hc : c ≠ 9) (hj : 5 ≤ j) : sm_ M N (im_u M c i v) (im_u N j r v') := ⟨u_j _ _ _ _ (by omega), u_j _ _ _ _ (by omega), u_j _ _ _ _ (by omega), u_j _ _ _ _ (by omega), u_j _ _ _ _ (by omega), u_j _ _ _ _ (Ne.symm hc)⟩
section HS
variable {k B : Nat} {M N : im_M}
/-- a change of another sandbox's mail -/
theorem up2 {k2 c i j r : Nat} (h : RX k B M N) (hk2 : k2 < 3) (hc : Cor k2 c i j r) (hj : j = 6 ∨ j = 7) (v : Int32) (hri : ri_K B (im_u N j r v) k2) : RX k B (im_u M c i v) (im_u N j r v) := by
  obtain ⟨q1, q2, q3, q4⟩ := cor_c hc
  refine ⟨cg_S h.1 (fun a _ _ => u_j _ _ _ _ (by omega)) (by rw [u_j _ _ _ _ (by omega)]) (fun a _ _ => u_j _ _ _ _ (by omega)), cg_C h.2.1 (by rw [u_j _ _ _ _ (by omega)]) (u_j _ _ _ _ (by omega)) (by rw [u_j _ _ _ _ (by omega)]) (u_j _ _ _ _ (by omega)), cg_M h.2.2.1 (u_j _ _ _ _ (by omega)) (u_j _ _ _ _ (by omega)) (by rw [u_j _ _ _ _ (by omega)]) (by rw [u_j _ _ _ _ (by omega)]) (u_j _ _ _ _ (by omega)), cg_T h.2.2.2.1 (fun a _ _ => u_j _ _ _ _ (by omega)) (by rw [u_j _ _ _ _ (by omega)]) (u_j _ _ _ _ (by omega)), fun k' hk' => ⟨?_, ?_, fun hne e => ?_⟩⟩
  · have hK := (h.2.2.2.2 k' hk').1
    refine rl_cor ?_ (fun c' i' j' r' hc' => ?_)
    · rw [u_o _ _ _ _ ?_]
      · exact hK.1
      · rcases hc with hc | hc | hc | hc | hc | hc | hc | hc | hc | hc | hc | hc | hc | hc | hc <;> omega
    · have hi := cor_inj hk2 hk' hc hc'
      by_cases e : c' = c ∧ i' = i
      · rw [u_p _ _ _ _ e, u_p _ _ _ _ (hi.mp e)]
      · rw [u_o _ _ _ _ e, u_o _ _ _ _ (fun z => e (hi.mpr z))]
        exact cor_rl hK hc'
  · by_cases hne : k' = k2
    · subst hne; exact hri
    · exact ri_eq (h.2.2.2.2 k' hk').2.1 (eqK_up hk2 hk' hne hc N v)
  · have n1 : 1 ≠ j := by omega
    have n2 : 2 ≠ j := by omega
    have n3 : 3 ≠ j := by omega
    have n4 : 4 ≠ j := by omega
    rw [u_j N j r v n2] at e
    have := (h.2.2.2.2 k' hk').2.2 hne e
    unfold rs_K at this ⊢
    rw [u_j N j r v n1, u_j N j r v n4, u_j N j r v n3]
    exact this
/-- CallList.note and note -/
theorem nt_ (h : RX k B M N) (hk : k < 3) (hB : B < 2 ^ 30) (num x y : Int32) : ∃ M1 N1, gn_2 (16 + 10 * k) num x y M = some M1 ∧ gn_113 (nI k) num x y N = some N1 ∧ RX k (B + 1) M1 N1 ∧ sm_ M N M1 N1 := by
  obtain ⟨hK, hI, -⟩ := h.2.2.2.2 k hk
  obtain ⟨c, hc, ec⟩ := hI.2.2.2.2.2
  have em : M (16 + 10 * k) 3 = nI c := hK.2.2.2.2.2.2.2.2.1.trans ec
  have i3 := ib_n (n := 3) hk (by decide)
  have e55 : ∀ X : im_M, X 13 k = nI c → gn_113_55 (nI k) X = some (im_u X 13 k (nI (c + 1))) := fun X hX => by
    rw [gn_113_55, if_pos i3, cl_n (by omega), hX, nI_1]
  have e46 : ∀ X : im_M, X (16 + 10 * k) 3 = nI c → gn_2_46 (16 + 10 * k) X = some (im_u X (16 + 10 * k) 3 (nI (c + 1))) := fun X hX => by
    rw [gn_2_46, hX, nI_1]
  by_cases h16 : c < 16
  · have ic := ib_n (n := 16) h16 (by decide)
    refine ⟨im_u (im_u (im_u (im_u M (17 + 10 * k) c num) (18 + 10 * k) c x) (19 + 10 * k) c y) (16 + 10 * k) 3 (nI (c + 1)), im_u (im_u (im_u (im_u N 14 (48 * k + 3 * c) num) 14 (48 * k + 3 * c + 1) x) 14 (48 * k + 3 * c + 2) y) 13 k (nI (c + 1)), ?_, ?_, up_cl (up_c3 (up_c2 (up_c1 h hk h16 num) hk h16 x) hk h16 y) hk (by omega) (by omega), (((sm_.up (by omega) (by decide)).tr (sm_.up (by omega) (by decide))).tr (sm_.up (by omega) (by decide))).tr (sm_.up (by omega) (by decide))⟩
    · have r1 : ∀ (X : im_M) (j : Nat) (v : Int32), j ≠ 16 + 10 * k → im_u X j c v (16 + 10 * k) 3 = X (16 + 10 * k) 3 := fun X j v hj => by rw [u_j _ _ _ _ (Ne.symm hj)]
      rw [gn_2, em, if_n 16 h16 (by decide) rfl, if_pos ic, cl_n (by omega), show 16 + 10 * k + 1 = 17 + 10 * k by omega, show 16 + 10 * k + 2 = 18 + 10 * k by omega, show 16 + 10 * k + 3 = 19 + 10 * k by omega]
      simp only [r1 _ (17 + 10 * k) _ (by omega), r1 _ (18 + 10 * k) _ (by omega), em, if_pos ic, cl_n (show c < 2 ^ 31 by omega)]
      exact e46 _ (by rw [r1 _ _ _ (by omega), r1 _ _ _ (by omega), r1 _ _ _ (by omega)]; exact em)
    · rw [gn_113, if_pos i3, cl_n (by omega), ec, if_neg (n_ge (c := 16) h16 (by decide) rfl)]
      have a48 : (48 : Int32) * nI k + (3 : Int32) * nI c = nI (48 * k + 3 * c) := by
        rw [show (48 : Int32) * nI k = nI (48 * k) from pk_mul 48 k, show (3 : Int32) * nI c = nI (3 * c) from pk_mul 3 c, nI_add]
      simp only [a48, nI_1, show ∀ a, nI a + (2 : Int32) = nI (a + 2) from fun a => nI_add a 2, if_pos (ib_n (n := 144) (show 48 * k + 3 * c < 144 by omega) (by decide)), if_pos (ib_n (n := 144) (show 48 * k + 3 * c + 1 < 144 by omega) (by decide)), if_pos (ib_n (n := 144) (show 48 * k + 3 * c + 2 < 144 by omega) (by decide)), cl_n (show 48 * k + 3 * c < 2 ^ 31 by omega), cl_n (show 48 * k + 3 * c + 1 < 2 ^ 31 by omega), cl_n (show 48 * k + 3 * c + 2 < 2 ^ 31 by omega)]
      exact e55 _ (by rw [u_j _ _ _ _ (by decide), u_j _ _ _ _ (by decide), u_j _ _ _ _ (by decide)]; exact ec)
  · refine ⟨im_u M (16 + 10 * k) 3 (nI (c + 1)), im_u N 13 k (nI (c + 1)), ?_, ?_, up_cl h hk (by omega) (by omega), sm_.up (by omega) (by decide)⟩
    · rw [gn_2, em, if_neg (nI_pos (by omega)), if_pos (show (16 : Int32) ≤ nI c from nI_le (a := 16) (b := c) (by omega) (by omega))]
      exact e46 M em
    · rw [gn_113, if_pos i3, cl_n (by omega), ec, if_pos (show (16 : Int32) ≤ nI c from nI_le (a := 16) (b := c) (by omega) (by omega))]
      exact e55 N ec
/-- putOut and put -/
theorem po_ (h : RX k B M N) (hk : k < 3) (v : Int32) : ∃ M1 N1, gn_53 k v M = some M1 ∧ gn_112 (nI k) v N = some N1 ∧ RX k B M1 N1 ∧ sm_ M N M1 N1 := by
  obtain ⟨hK, hI, -⟩ := h.2.2.2.2 k hk
  have em : M (12 + 10 * k) 10 = N 12 k := hK.2.2.2.2.2.1
  obtain ⟨j, hj, ej⟩ := pk_andE (N 12 k) (m := 7) 3 rfl
  have i3 := ib_n (n := 3) hk (by decide)
  refine ⟨im_u (im_u M (21 + 10 * k) j v) (12 + 10 * k) 10 (N 12 k + 1), im_u (im_u N 11 (8 * k + j) v) 12 k (N 12 k + 1), ?_, ?_, up_oc (up_out h hk hj v) hk _, (sm_.up (by omega) (by decide)).tr (sm_.up (by omega) (by decide))⟩
  · rw [gn_53, em, ej, if_pos (ib_n (n := 8) hj (by decide)), cl_n (by omega)]
    simp only [u_j M (21 + 10 * k) j v (show 12 + 10 * k ≠ 21 + 10 * k by omega), em]
  · rw [gn_112, if_pos i3, cl_n (by omega), ej, show (8 : Int32) * nI k = nI (8 * k) from pk_mul 8 k, nI_add, if_pos (ib_n (n := 24) (show 8 * k + j < 24 by omega) (by decide)), cl_n (by omega)]
    simp only [u_j N 11 (8 * k + j) v (show 12 ≠ 11 by decide)]
/-- r1 is set -/
theorem r1_ (h : RX k B M N) (hk : k < 3) (v : Int32) : gn_114_380 (nI k) v N = some (im_u N 3 (8 * k + 1) v) ∧ RX k B (im_u M (13 + 10 * k) 1 v) (im_u N 3 (8 * k + 1) v) := by
  refine ⟨?_, up_reg h hk (by decide) v⟩
  rw [gn_114_380, show (8 : Int32) * nI k = nI (8 * k) from pk_mul 8 k, nI_1, if_pos (ib_n (n := 24) (show 8 * k + 1 < 24 by omega) (by decide)), cl_n (by omega)]
/-- print's loop -/
theorem pr_ (hk : k < 3) {x y : Nat} (hxy : x + y ≤ 16) : ∀ (n p : Nat) (M N : im_M), p ≤ y → y < p + n → RX k B M N → ∃ M1 N1, gn_42_13 k n (nI x) (nI y) (nI p) M = some (nI y, M1) ∧ gn_114_196 n (nI k) (nI x) (nI y) (nI p) N = gn_114_380 (nI k) (nI y) N1 ∧ RX k B M1 N1 ∧ sm_ M N M1 N1
  | 0, p, M, N, h1, h2, _ => absurd h2 (by omega)
  | n + 1, p, M, N, h1, h2, h => by
    rw [gn_42_13, gn_114_196]
    by_cases hp : p = y
    · subst hp
      have hle : nI p ≤ nI p := nI_le (Nat.le_refl _) (by omega)
      exact ⟨M, N, by rw [if_pos hle], by rw [if_pos hle], h, sm_.rf⟩
    have hlt : p < y := by omega
    have hK := (h.2.2.2.2 k hk).1
    obtain ⟨M1, N1, a1, b1, i1, s1⟩ := po_ h hk (N 1 (16 * k + x + p))
    obtain ⟨M2, N2, a2, b2, i2, s2⟩ := pr_ hk hxy n (p + 1) M1 N1 (by omega) (by omega) i1
    refine ⟨M2, N2, ?_, ?_, i2, s1.tr s2⟩
    · have h32 : gn_32 (nI (16 * k + x + p)) M = some (N 1 (16 * k + x + p), M) := by
        rw [gn_32, if_n 256 (show 16 * k + x + p < 256 by omega) (by decide) rfl, if_pos (ib_n (show 16 * k + x + p < 256 by omega) (by decide)), cl_n (by omega), h.2.2.1.1.2.2 _ (by omega)]
      rw [if_neg (nI_ge hlt (by omega)), gn_46, hK.1, a16]
      simp only [Option.bind_some, nI_add, h32, a1, nI_1]
      exact a2
    · rw [if_neg (nI_ge hlt (by omega)), a16, nI_add, nI_add, if_pos (ib_n (n := 256) (show 16 * k + x + p < 256 by omega) (by decide)), cl_n (by omega), b1]
      simp only [Option.bind_some, nI_1]
      exact b2
end HS
