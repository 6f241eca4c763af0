/-! follow: host calls -/
section AK
variable {M0 N0 M N : im_M} {ln j k p : Nat}
/-- what ask does behind its note -/
def ak_ (y1 y2 y5 y6 y7 : Int32) (M1 : im_M) : Option (Int32 × im_M) :=
  if y2 = 0 then (some ((1 : Int32), M1)) else (if y2 = (1 : Int32) then (gn_125_326 (0 : Int32) M1) else (if y2 = (2 : Int32) then (if st_ib y1 3 then (if (M1 2 (y1).toNatClampNeg) = 0 then (gn_125_276 y2 y5 y6 y7 (-1 : Int32) M1) else (if st_ib y1 3 then (if (M1 9 (y1).toNatClampNeg) ≤ (M1 0 29) then (gn_125_276 y2 y5 y6 y7 (-1 : Int32) M1) else (if st_ib (((12 : Int32) * y1) + (M1 0 29)) 36 then (let v10 : Int32 := (M1 8 ((((12 : Int32) * y1) + (M1 0 29))).toNatClampNeg); let M11 : im_M := im_u M1 0 29 ((M1 0 29) + (1 : Int32)); gn_125_326 v10 M11) else none)) else none)) else none) else (gn_125_276 y2 y5 y6 y7 (-1 : Int32) M1)))
theorem g190 (y1 y2 y5 y6 y7 : Int32) (N : im_M) : gn_125_190 y1 y2 y5 y6 y7 N = ak_ y1 y2 y5 y6 y7 (im_u N 0 30 (N 0 30 + 1)) := rfl
theorem g14f {v : Nat} (hv : v < 7) (a b : Int32) (M : im_M) : gn_14 43 (nI v) a b M = gn_2 44 (nI v) (hx_ v a) (hy_ v b) M := by
  have hb : ∀ o : Option im_M, (o.bind fun b1 => some b1) = o := fun o => by cases o <;> rfl
  have e : 43 + 1 = 44 := rfl
  rcases c7_ hv with rfl | rfl | rfl | rfl | rfl | rfl | rfl <;> simp (decide := true) only [gn_14, gn_11, gn_14_22, gn_14_33, Option.bind_some, if_true, if_false, e, hb, hx_, hy_]
/-- the note of a call -/
theorem nfo_ (hT : TR M0 N0 j M N) (hi : FI N0 ln M N) (hj : j < 300) (num x y : Int32) : ∃ M1 N1, gn_2 44 num x y M = some M1 ∧ (∀ y1 y7, gn_125_139 y1 num x y y7 N = ak_ y1 num x y y7 N1) ∧ TR M0 N0 (j + 1) M1 N1 ∧ FI N0 ln M1 N1 ∧ N1 0 27 = N 0 27 ∧ M1 48 = M 48 := by
  obtain ⟨h1, h2, h3, h4, c, hc, ec⟩ := hT
  have em : M 44 3 = nI c := h4.1.trans ec
  obtain ⟨f1, f2, f3, f4⟩ := hi
  by_cases h16 : c < 16
  · have ic := ib_n (n := 16) h16 (by decide)
    refine ⟨im_u (im_u (im_u (im_u M 45 c num) 46 c x) 47 c y) 44 3 (nI (c + 1)), im_u (im_u (im_u (im_u N 24 (3 * c) num) 24 (3 * c + 1) x) 24 (3 * c + 2) y) 0 30 (nI (c + 1)), ?_, fun y1 y7 => ?_, ?_, ?_, ?_, ?_⟩
    · have r1 : ∀ (X : im_M) (a : Nat) (v : Int32), a ≠ 44 → im_u X a c v 44 3 = X 44 3 := fun X a v ha => by rw [u_j _ _ _ _ (Ne.symm ha)]
      rw [gn_2, em, if_n 16 h16 (by decide) rfl, if_pos ic, cl_n (by omega), show 44 + 1 = 45 from rfl, show 44 + 2 = 46 from rfl, show 44 + 3 = 47 from rfl]
      simp only [r1 _ 45 _ (by decide), r1 _ 46 _ (by decide), em, if_pos ic, cl_n (show c < 2 ^ 31 by omega)]
      rw [gn_2_46, r1 _ 47 _ (by decide), r1 _ 46 _ (by decide), r1 _ 45 _ (by decide), em, nI_1]
    · have r0 : ∀ (X : im_M) (a : Nat) (v : Int32), im_u X 24 a v 0 30 = X 0 30 := fun X a v => by rw [u_j _ _ _ _ (by decide)]
      have a3 : (3 : Int32) * nI c = nI (3 * c) := pk_mul 3 c
      rw [gn_125_139, ec, if_neg (n_ge (c := 16) h16 (by decide) rfl)]
      simp only [r0, ec, a3, nI_1, show ∀ a, nI a + (2 : Int32) = nI (a + 2) from fun a => nI_add a 2, if_pos (ib_n (n := 48) (show 3 * c < 48 by omega) (by decide)), if_pos (ib_n (n := 48) (show 3 * c + 1 < 48 by omega) (by decide)), if_pos (ib_n (n := 48) (show 3 * c + 2 < 48 by omega) (by decide)), cl_n (show 3 * c < 2 ^ 31 by omega), cl_n (show 3 * c + 1 < 2 ^ 31 by omega), cl_n (show 3 * c + 2 < 2 ^ 31 by omega), g190]
    · refine ⟨fun a ha => by rw [u_j _ _ _ _ (by omega), u_j _ _ _ _ (by omega), u_j _ _ _ _ (by omega), u_j _ _ _ _ (by omega)]; exact h1 a ha, fun a ha hb => by rw [u_j _ _ _ _ (by omega), u_j _ _ _ _ (by omega), u_j _ _ _ _ (by omega), u_j _ _ _ _ (by omega)]; exact h2 a ha hb, fun i hi => by rw [u_k _ _ _ _ (by omega), u_j _ _ _ _ (by decide), u_j _ _ _ _ (by decide), u_j _ _ _ _ (by decide)]; exact h3 i hi, ⟨by rw [u_s, u_s], fun i hi => ?_⟩, c + 1, by omega, u_s _ _ _ _⟩
      obtain ⟨g1, g2, g3⟩ := h4.2 i hi
      refine ⟨?_, ?_, ?_⟩
      · rw [u_j _ 44 _ _ (by decide), u_j _ 47 _ _ (by decide), u_j _ 46 _ _ (by decide), u_i, u_j _ 0 _ _ (by decide), u_k _ _ _ _ (by omega), u_k _ _ _ _ (by omega), u_i, g1]
        by_cases e : i = c
        · rw [if_pos e, if_pos (by omega)]
        · rw [if_neg e, if_neg (by omega)]
      · rw [u_j _ 44 _ _ (by decide), u_j _ 47 _ _ (by decide), u_i, u_j _ 45 _ _ (by decide), u_j _ 0 _ _ (by decide), u_k _ _ _ _ (by omega), u_i, u_k _ _ _ _ (by omega), g2]
        by_cases e : i = c
        · rw [if_pos e, if_pos (by omega)]
        · rw [if_neg e, if_neg (by omega)]
      · rw [u_j _ 44 _ _ (by decide), u_i, u_j _ 46 _ _ (by decide), u_j _ 45 _ _ (by decide), u_j _ 0 _ _ (by decide), u_i, u_k _ _ _ _ (by omega), u_k _ _ _ _ (by omega), g3]
        by_cases e : i = c
        · rw [if_pos e, if_pos (by omega)]
        · rw [if_neg e, if_neg (by omega)]
    · have oM : ∀ a, a ≠ 44 → a ≠ 45 → a ≠ 46 → a ≠ 47 → im_u (im_u (im_u (im_u M 45 c num) 46 c x) 47 c y) 44 3 (nI (c + 1)) a = M a := fun a q1 q2 q3 q4 => by rw [u_j _ _ _ _ q1, u_j _ _ _ _ q4, u_j _ _ _ _ q3, u_j _ _ _ _ q2]
      have oN : ∀ i, i ≠ 30 → im_u (im_u (im_u (im_u N 24 (3 * c) num) 24 (3 * c + 1) x) 24 (3 * c + 2) y) 0 30 (nI (c + 1)) 0 i = N 0 i := fun i q => by rw [u_k _ _ _ _ q, u_j _ _ _ _ (by decide), u_j _ _ _ _ (by decide), u_j _ _ _ _ (by decide)]
      have oP : ∀ a, a ≠ 0 → a ≠ 24 → im_u (im_u (im_u (im_u N 24 (3 * c) num) 24 (3 * c + 1) x) 24 (3 * c + 2) y) 0 30 (nI (c + 1)) a = N a := fun a q1 q2 => by rw [u_j _ _ _ _ q1, u_j _ _ _ _ q2, u_j _ _ _ _ q2, u_j _ _ _ _ q2]
      exact ⟨by rw [oM 43 (by decide) (by decide) (by decide) (by decide), oN 28 (by decide)]; exact f1, by rw [oM 43 (by decide) (by decide) (by decide) (by decide), oN 29 (by decide)]; exact f2, by rw [oM 42 (by decide) (by decide) (by decide) (by decide), oN 27 (by decide)]; exact f3, by rw [oM 48 (by decide) (by decide) (by decide) (by decide), oM 49 (by decide) (by decide) (by decide) (by decide), oP 22 (by decide) (by decide), oP 23 (by decide) (by decide)]; exact f4⟩
    · rw [u_k _ _ _ _ (by decide), u_j _ _ _ _ (by decide), u_j _ _ _ _ (by decide), u_j _ _ _ _ (by decide)]
    · rw [u_j _ _ _ _ (by decide), u_j _ _ _ _ (by decide), u_j _ _ _ _ (by decide), u_j _ _ _ _ (by decide)]
  · have hge : (16 : Int32) ≤ nI c := nI_le (a := 16) (b := c) (by omega) (by omega)
    refine ⟨im_u M 44 3 (nI (c + 1)), im_u N 0 30 (nI (c + 1)), ?_, fun y1 y7 => ?_, ?_, ?_, u_k _ _ _ _ (by decide), u_j _ _ _ _ (by decide)⟩
    · rw [gn_2, em, if_neg (nI_pos (by omega)), if_pos hge, gn_2_46, em, nI_1]
    · rw [gn_125_139, ec, if_pos hge, g190, ec, nI_1]
    · exact ⟨fun a ha => by rw [u_j _ _ _ _ (by omega)]; exact h1 a ha, fun a ha hb => by rw [u_j _ _ _ _ (by omega)]; exact h2 a ha hb, fun i hi => by rw [u_k _ _ _ _ (by omega)]; exact h3 i hi, ⟨by rw [u_s, u_s], by rw [u_j _ _ _ _ (by decide), u_j _ _ _ _ (by decide), u_j _ _ _ _ (by decide), u_j _ _ _ _ (by decide)]; exact h4.2⟩, c + 1, by omega, u_s _ _ _ _⟩
    · exact ⟨by rw [u_j _ _ _ _ (by decide), u_k _ _ _ _ (by decide)]; exact f1, by rw [u_j _ _ _ _ (by decide), u_k _ _ _ _ (by decide)]; exact f2, by rw [u_j _ _ _ _ (by decide), u_k _ _ _ _ (by decide)]; exact f3, by rw [u_j _ _ _ _ (by decide), u_j _ _ _ _ (by decide), u_j _ _ _ _ (by decide), u_j _ _ _ _ (by decide)]; exact f4⟩
/-- r1 is an int, and on to the next line -/
theorem f326 (hT : TR M0 N0 j M N) (hi : FI N0 ln M N) (ep : N 0 27 = nI p) (hp : p + 1 ≤ ln) (z : Int32) : ∃ N2, gn_125_326 z N = some (0, N2) ∧ TR M0 N0 j (im_u (im_u (im_u M 48 1 z) 49 1 (-1)) 42 3 (nI (p + 1))) N2 ∧ FI N0 ln (im_u (im_u (im_u M 48 1 z) 49 1 (-1)) 42 3 (nI (p + 1))) N2 := by
  have c1 : cq_ 1 = 1 := rfl
  have hi' := FI.cell hi (q := 1) (by decide) (v := z) (l := -1) (c := z) (n := 0) (Or.inl ⟨rfl, rfl, rfl⟩)
  have hT' := TR.cell hT 1 1 z (-1) z 0
  rw [c1] at hi'
  refine ⟨_, ?_, TR.slot hT' (Or.inl rfl) (Or.inl rfl) _ (nI (p + 1)), FI.place hi' hp⟩
  rw [gn_125_326, show gn_122 1 z 0 N = some (im_u (im_u N 22 1 z) 23 1 0) from g122 (r := 1) (by decide) z 0 N]
  simp only [Option.bind_some]
  rw [u_j _ _ _ _ (by decide), u_j _ _ _ _ (by decide), ep, nI_1]
/-- a range of the memory that print takes -/
theorem pr12 (x y : Int32) : ∃ t : Int32, (∀ X, gn_12 x y X = some (t, X)) ∧ (∀ Y, gn_115 x y Y = some (t, Y)) ∧ (t = 0 ∨ t = 1 ∧ ∃ p q, p + q ≤ 16 ∧ x = nI p ∧ y = nI q) := by
  by_cases hin : ∃ p q, p + q ≤ 16 ∧ x = nI p ∧ y = nI q
  · obtain ⟨p, q, hpq, rfl, rfl⟩ := hin
    refine ⟨1, fun X => ?_, fun Y => ?_, Or.inr ⟨rfl, p, q, hpq, rfl, rfl⟩⟩
    · rw [gn_12, if_neg (nI_pos (by omega)), if_neg (show ¬ (16 : Int32) < nI p from nI_nlt (a := 16) (b := p) (by omega) (by decide)), if_neg (nI_pos (by omega)), show (16 : Int32) - nI p = nI (16 - p) from pk_sub (a := 16) (b := p) (by omega), if_neg (nI_nlt (by omega) (by omega))]
    · rw [gn_115, in_n 16 16 rfl (by decide) (by omega)]
      simp (decide := true) only [Option.bind_some, if_false]
      rw [in_n 16 16 rfl (by decide) (by omega)]
      simp (decide := true) only [Option.bind_some, if_false]
      rw [nI_add, if_neg (show ¬ (16 : Int32) < nI (p + q) from nI_nlt (a := 16) (b := p + q) hpq (by decide))]
  · refine ⟨0, fun X => ?_, fun Y => ?_, Or.inl rfl⟩
    · rw [gn_12]
      by_cases c1 : x < 0
      · rw [if_pos c1]
      rw [if_neg c1]
      by_cases c2 : (16 : Int32) < x
      · rw [if_pos c2]
      rw [if_neg c2]
      by_cases c3 : y < 0
      · rw [if_pos c3]
      rw [if_neg c3]
      obtain ⟨p, hp, ep⟩ := nI_of2 (M := 16) (n := 16) rfl c1 (n_le.mp c2)
      rw [ep, show (16 : Int32) - nI p = nI (16 - p) from pk_sub (a := 16) (b := p) hp, if_pos]
      by_cases c4 : nI (16 - p) < y
      · exact c4
      · exfalso
        obtain ⟨q, hq, eq⟩ := nI_of2 (M := nI (16 - p)) (n := 16 - p) (nI_toInt (by omega)) c3 (n_le.mp c4)
        exact hin ⟨p, q, by omega, ep, eq⟩
    · rw [gn_115]
      rcases cx_ x 17 17 rfl (by decide) with ho | ⟨p, hp, ep⟩
      · rw [in_o 16 16 17 rfl rfl (by decide) ho]; rfl
      rw [ep, in_n 16 16 rfl (by decide) (by omega)]
      simp (decide := true) only [Option.bind_some, if_false]
      rcases cx_ y 17 17 rfl (by decide) with ho | ⟨q, hq, eq⟩
      · rw [in_o 16 16 17 rfl rfl (by decide) ho]; rfl
      rw [eq, in_n 16 16 rfl (by decide) (by omega)]
      simp (decide := true) only [Option.bind_some, if_false]
      rw [nI_add, if_pos (show (16 : Int32) < nI (p + q) from nI_lt (a := 16) (b := p + q) (by
        by_cases c : p + q ≤ 16
        · exact absurd ⟨p, q, c, ep, eq⟩ hin
        · omega) (by omega))]
/-- anyNamed, once found -/
theorem an_1 {x y : Nat} (hxy : x + y ≤ 16) : ∀ (n s : Nat), s ≤ y → y < s + n → gn_121_5 n (nI (8 + x + y)) 1 (nI (8 + x + s)) N = some (1, N)
  | 0, s, h1, h2 => absurd h2 (by omega)
  | n + 1, s, h1, h2 => by
    rw [gn_121_5]
    by_cases e : s = y
    · subst e
      rw [if_pos (nI_le (Nat.le_refl _) (by omega)), if_pos (by decide)]
    · rw [if_neg (nI_ge (show 8 + x + s < 8 + x + y by omega) (by omega)), if_neg (by decide), gn_121_25, gn_121_30]
      simp only [nI_1]
      exact an_1 hxy n (s + 1) (by omega) (by omega)
/-- wouldPrintLabel's loop and anyNamed -/
theorem an_ (hi : FI N0 ln M N) {x y : Nat} (hxy : x + y ≤ 16) : ∀ (n s : Nat), s ≤ y → y < s + n → ∃ t : Int32, (t = 0 ∨ t = 1) ∧ gn_22_12 n (nI x) (nI y) (nI s) M = some (t, M) ∧ gn_121_5 n (nI (8 + x + y)) 0 (nI (8 + x + s)) N = some (t, N)
  | 0, s, h1, h2 => absurd h2 (by omega)
  | n + 1, s, h1, h2 => by
    rw [gn_22_12, gn_121_5]
    by_cases e : s = y
    · subst e
      exact ⟨0, Or.inl rfl, by rw [if_pos (nI_le (Nat.le_refl _) (by omega))], by rw [if_pos (nI_le (Nat.le_refl _) (by omega)), if_pos (by decide)]⟩
    have hq : 5 + (x + s) < 21 := by omega
    have a5 : (5 : Int32) + nI x + nI s = nI (5 + (x + s)) := by
      rw [show (5 : Int32) + nI x = nI (5 + x) from nI_add 5 x, nI_add, Nat.add_assoc]
    rw [if_neg (nI_ge (show s < y by omega) (by omega)), if_neg (nI_ge (show 8 + x + s < 8 + x + y by omega) (by omega)), if_pos rfl, if_pos (ib_n (n := 24) (show 8 + x + s < 24 by omega) (by decide)), cl_n (show 8 + x + s < 2 ^ 31 by omega), a5, g23 hi hq, cq_hi, show 8 + (x + s) = 8 + x + s by omega]
    simp only [Option.bind_some, nI_1]
    by_cases c : N 23 (8 + x + s) = 0
    · rw [if_pos c, if_pos c, gn_121_30]
      simp only [nI_1]
      exact an_ hi hxy n (s + 1) (by omega) (by omega)
    · rw [if_neg c, if_neg c, gn_121_25, gn_121_30]
      simp only [nI_1]
      exact ⟨1, Or.inr rfl, rfl, an_1 hxy n (s + 1) (by omega) (by omega)⟩
end AK
