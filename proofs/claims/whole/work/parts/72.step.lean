/-! a step -/
theorem u_comm (N : im_M) {j j' : Nat} (hj : j ≠ j') (r r' : Nat) (v v' : Int32) : im_u (im_u N j r v) j' r' v' = im_u (im_u N j' r' v') j r v := by
  funext a b
  unfold im_u
  by_cases h1 : a = j
  · subst h1
    rw [if_neg hj, if_pos rfl]
    by_cases h2 : b = r
    · rw [if_pos h2, if_pos rfl, if_pos h2]
    · rw [if_neg h2, if_pos rfl, if_neg h2, if_neg hj]
  · rw [if_neg h1]
    by_cases h2 : a = j'
    · rw [if_pos h2, if_neg h1]
    · rw [if_neg h2, if_neg h1]
theorem u_u (N : im_M) (j r : Nat) (v v' : Int32) : im_u (im_u N j r v) j r v' = im_u N j r v' := by
  funext a b
  unfold im_u
  by_cases h1 : a = j
  · subst h1
    rw [if_pos rfl, if_pos rfl]
    by_cases h2 : b = r
    · simp [h2]
    · simp [h2]
  · rw [if_neg h1, if_neg h1, if_neg h1]
/-- a note, with its count known -/
theorem nt_c {k c : Nat} (hk : k < 3) (hc : c < 2 ^ 30) (num x y : Int32) (N : im_M) (ec : N 13 k = nI c) (v : Int32) : ∃ N1, gn_113 (nI k) num x y N = some N1 ∧ gn_113 (nI k) num x y (im_u N 4 k v) = some (im_u N1 4 k v) ∧ N1 4 = N 4 := by
  have i3 := ib_n (n := 3) hk (by decide)
  have e55 : ∀ X : im_M, X 13 k = nI c → gn_113_55 (nI k) X = some (im_u X 13 k (nI (c + 1))) := fun X hX => by
    rw [gn_113_55, if_pos i3, cl_n (by omega), hX, nI_1]
  have all : ∀ X : im_M, X 13 k = nI c → gn_113 (nI k) num x y X = some (if c < 16 then im_u (im_u (im_u (im_u X 14 (48 * k + 3 * c) num) 14 (48 * k + 3 * c + 1) x) 14 (48 * k + 3 * c + 2) y) 13 k (nI (c + 1)) else im_u X 13 k (nI (c + 1))) := fun X hX => by
    rw [gn_113, if_pos i3, cl_n (by omega), hX]
    by_cases h16 : c < 16
    · rw [if_neg (n_ge (c := 16) h16 (by decide) rfl), if_pos h16]
      have a48 : (48 : Int32) * nI k + (3 : Int32) * nI c = nI (48 * k + 3 * c) := by
        rw [show (48 : Int32) * nI k = nI (48 * k) from pk_mul 48 k, show (3 : Int32) * nI c = nI (3 * c) from pk_mul 3 c, nI_add]
      simp only [a48, nI_1, show ∀ a, nI a + (2 : Int32) = nI (a + 2) from fun a => nI_add a 2, if_pos (ib_n (n := 144) (show 48 * k + 3 * c < 144 by omega) (by decide)), if_pos (ib_n (n := 144) (show 48 * k + 3 * c + 1 < 144 by omega) (by decide)), if_pos (ib_n (n := 144) (show 48 * k + 3 * c + 2 < 144 by omega) (by decide)), cl_n (show 48 * k + 3 * c < 2 ^ 31 by omega), cl_n (show 48 * k + 3 * c + 1 < 2 ^ 31 by omega), cl_n (show 48 * k + 3 * c + 2 < 2 ^ 31 by omega)]
      exact e55 _ (by rw [u_j _ _ _ _ (by decide), u_j _ _ _ _ (by decide), u_j _ _ _ _ (by decide)]; exact hX)
    · rw [if_pos (show (16 : Int32) ≤ nI c from nI_le (a := 16) (b := c) (by omega) (by omega)), if_neg h16]
      exact e55 X hX
  refine ⟨_, all N ec, ?_, ?_⟩
  · rw [all _ (by rw [u_j _ _ _ _ (by decide)]; exact ec)]
    by_cases h16 : c < 16
    · rw [if_pos h16, if_pos h16, u_comm N (show 4 ≠ 14 by decide), u_comm _ (show 4 ≠ 14 by decide), u_comm _ (show 4 ≠ 14 by decide), u_comm _ (show 4 ≠ 13 by decide)]
    · rw [if_neg h16, if_neg h16, u_comm N (show 4 ≠ 13 by decide)]
  · by_cases h16 : c < 16
    · rw [if_pos h16, u_j _ _ _ _ (by decide), u_j _ _ _ _ (by decide), u_j _ _ _ _ (by decide), u_j _ _ _ _ (by decide)]
    · rw [if_neg h16, u_j _ _ _ _ (by decide)]
theorem ch7 {α : Type} {x : Nat} (h1 : 1 ≤ x) (h7 : x ≤ 7) (A Z : α) : (if nI x = 1 then A else if nI x = 2 then A else if nI x = 3 then A else if nI x = 4 then A else if nI x = 5 then A else if nI x = 6 then A else if nI x = 7 then A else Z) = A := by
  have hx : x = 1 ∨ x = 2 ∨ x = 3 ∨ x = 4 ∨ x = 5 ∨ x = 6 ∨ x = 7 := by omega
  rcases hx with rfl | rfl | rfl | rfl | rfl | rfl | rfl <;> simp (decide := true) only [if_true, if_false]
theorem jf6 : ∀ k, k < 3 → wd_o (wd_j 7 6 6 (nI (16 * k))) = 7 ∧ wd_a (wd_j 7 6 6 (nI (16 * k))) = 6 ∧ wd_b (wd_j 7 6 6 (nI (16 * k))) = 6 ∧ wd_i (wd_j 7 6 6 (nI (16 * k))) = nI (16 * k) := by decide +kernel
theorem jf7 : ∀ k, k < 3 → wd_o (wd_j 7 7 7 (nI (64 + 32 * k))) = 7 ∧ wd_a (wd_j 7 7 7 (nI (64 + 32 * k))) = 7 ∧ wd_b (wd_j 7 7 7 (nI (64 + 32 * k))) = 7 ∧ wd_i (wd_j 7 7 7 (nI (64 + 32 * k))) = nI (64 + 32 * k) := by decide +kernel
theorem or6 : ∀ k, k < 3 → ∀ y, y < 16 → nI (16 * k + y) ||| nI (16 * k) = nI (16 * k + y) ∧ nI y ||| nI (16 * k) = nI (16 * k + y) := by decide +kernel
theorem or7 : ∀ k, k < 3 → ∀ y, y < 32 → nI (64 + 32 * k + y) ||| nI (64 + 32 * k) = nI (64 + 32 * k + y) ∧ nI y ||| nI (64 + 32 * k) = nI (64 + 32 * k + y) := by decide +kernel
/-- what the plain operations put into ra -/
def vl_ (x : Nat) (ra rb i : Int32) : Int32 := if x = 1 then i else if x = 2 then rb + i else if x = 3 then ra + rb else if x = 4 then ra - rb else if x = 5 then ra ^^^ rb else if x = 6 then rb &&& i else rb ||| i
theorem g148 {x : Nat} (h1 : 1 ≤ x) (h7 : x ≤ 7) (ra rb i : Int32) (X Y : im_M) : gn_148 (nI x) ra rb i X = some (vl_ x ra rb i, X) ∧ gn_118 (nI x) ra rb i Y = some (vl_ x ra rb i, Y) := by
  have hx : x = 1 ∨ x = 2 ∨ x = 3 ∨ x = 4 ∨ x = 5 ∨ x = 6 ∨ x = 7 := by omega
  rcases hx with rfl | rfl | rfl | rfl | rfl | rfl | rfl <;> constructor <;> simp (decide := true) only [gn_148, gn_118, vl_, if_true, if_false]
theorem g149 {x : Nat} (hx : x = 10 ∨ x = 11 ∨ x = 12) (ra rb : Int32) (X Y : im_M) : ∃ g : Int32, gn_149 (nI x) ra rb X = some (g, X) ∧ gn_117 (nI x) ra rb Y = some (g, Y) := by
  rcases hx with rfl | rfl | rfl
  · by_cases e : ra = rb
    · exact ⟨1, by simp (decide := true) only [gn_149, gn_149_28, if_true, if_false, e], by simp (decide := true) only [gn_117, gn_117_25, if_true, if_false, e]⟩
    · exact ⟨0, by simp (decide := true) only [gn_149, gn_149_17, if_true, if_false, e], by simp (decide := true) only [gn_117, if_true, if_false, e]⟩
  · by_cases e : rb ≤ ra
    · exact ⟨0, by simp (decide := true) only [gn_149, gn_149_17, if_true, if_false, e], by simp (decide := true) only [gn_117, if_true, if_false, e]⟩
    · exact ⟨1, by simp (decide := true) only [gn_149, gn_149_17, gn_149_28, if_true, if_false, e], by simp (decide := true) only [gn_117, gn_117_25, if_true, if_false, e]⟩
  · exact ⟨1, by simp (decide := true) only [gn_149, gn_149_28, if_true, if_false], by simp (decide := true) only [gn_117, gn_117_25, if_true, if_false]⟩
set_option maxHeartbeats 8000000 in
theorem st_ {k B : Nat} {M N : im_M} (h : RB B M N) (hk : k < 3) (hB : B < 2 ^ 30) (e1 : N 2 k = 1) : ∃ M1 N1, gn_40 k M = some M1 ∧ gn_116 (nI k) N = some N1 ∧ RB (B + 1) M1 N1 ∧ N1 0 = N 0 ∧ M1 9 = M 9 := by
  obtain ⟨hK, hI, hs⟩ := h.2.2.2.2 k hk
  obtain ⟨q1, q2, p, hp, ep, q4, q5⟩ := hs e1
  have hX := rx_of h k
  have i3 := ib_n (n := 3) hk (by decide)
  have hpc : 64 + 32 * k + p < 256 := by omega
  have em : M (12 + 10 * k) 5 = nI (64 + 32 * k + p) := hK.2.2.1.trans ep
  have h32 : gn_32 (nI (64 + 32 * k + p)) M = some (N 1 (64 + 32 * k + p), M) := by
    rw [gn_32, if_n 256 hpc (by decide) rfl, if_pos (ib_n hpc (by decide)), cl_n (by omega), h.2.2.1.1.2.2 _ hpc]
  have a8 : (8 : Int32) * nI k = nI (8 * k) := pk_mul 8 k
  have hX7 := up_pc hX hk (nI (64 + 32 * k + p + 1))
  rw [gn_40, em]
  simp only [h32, Option.bind_some, gn_143, gn_144, gn_145, gn_146, nI_1]
  rw [gn_116, if_pos i3, cl_n (show k < 2 ^ 31 by omega), ep]
  simp only [if_pos (ib_n (n := 256) hpc (by decide)), cl_n (show 64 + 32 * k + p < 2 ^ 31 by omega)]
  -- what the word is
  have hW : p < 31 → rs_w k p (N 1 (64 + 32 * k + p)) (N 1 (64 + 32 * k + p + 1)) := fun hp31 => q1 p hp31
  have hlast : p = 31 → N 1 (64 + 32 * k + p) = 0 := fun e => by rw [e]; exact q2
  generalize hu : N 1 (64 + 32 * k + p) = u at *
  obtain ⟨x, hx, eo⟩ := pk_andE u (m := 15) 4 rfl
  obtain ⟨a, ha, ea⟩ := pk_andE (u >>> ((4 : Int32) &&& 31)) (m := 7) 3 rfl
  obtain ⟨b, hb, eb⟩ := pk_andE (u >>> ((7 : Int32) &&& 31)) (m := 7) 3 rfl
  have hx16 : x < 16 := hx
  have ha8 : a < 8 := ha
  have hb8 : b < 8 := hb
  generalize hi : u >>> ((10 : Int32) &&& 31) = i at *
  rw [eo, ea, eb]
  simp only [a8, nI_add]
  -- the registers
  have ra : im_u M (12 + 10 * k) 5 (nI (64 + 32 * k + p + 1)) (13 + 10 * k) a = N 3 (8 * k + a) := by rw [u_j _ _ _ _ (by omega)]; exact hK.2.2.2.2.2.2.2.2.2.1 a ha8
  have rb : im_u M (12 + 10 * k) 5 (nI (64 + 32 * k + p + 1)) (13 + 10 * k) b = N 3 (8 * k + b) := by rw [u_j _ _ _ _ (by omega)]; exact hK.2.2.2.2.2.2.2.2.2.1 b hb8
  have ia := ib_n (n := 8) ha8 (by decide)
  have ib := ib_n (n := 8) hb8 (by decide)
  have ia24 := ib_n (n := 24) (show 8 * k + a < 24 by omega) (by decide)
  have ib24 := ib_n (n := 24) (show 8 * k + b < 24 by omega) (by decide)
  have ca := cl_n (show a < 2 ^ 31 by omega)
  have cb := cl_n (show b < 2 ^ 31 by omega)
  have ca8 := cl_n (show 8 * k + a < 2 ^ 31 by omega)
  have cb8 := cl_n (show 8 * k + b < 2 ^ 31 by omega)
  -- the fences stand unless the word is the one that sets them up
  have r6 : ¬ (x = 7 ∧ a = 6) → ∃ y, y < 16 ∧ N 3 (8 * k + 6) = nI (16 * k + y) := fun hne => by
    rcases q4 with h6 | ⟨_, e⟩
    · exact h6
    · exfalso
      obtain ⟨f1, f2, f3, f4⟩ := jf6 k hk
      rw [← e] at f1 f2
      exact hne ⟨(nI_eq (by omega) (by decide)).mp (eo.symm.trans f1), (nI_eq (by omega) (by decide)).mp (ea.symm.trans f2)⟩
  have r7 : ¬ (x = 7 ∧ a = 7) → ∃ y, y < 32 ∧ N 3 (8 * k + 7) = nI (64 + 32 * k + y) := fun hne => by
    rcases q5 with h6 | ⟨_, e⟩
    · exact h6
    · exfalso
      obtain ⟨f1, f2, f3, f4⟩ := jf7 k hk
      rw [← e] at f1 f2
      exact hne ⟨(nI_eq (by omega) (by decide)).mp (eo.symm.trans f1), (nI_eq (by omega) (by decide)).mp (ea.symm.trans f2)⟩
  by_cases hx0 : x = 0
  · subst hx0
    have hX9 := up_pc (up_st hX7 hk (show 3 < 4 by decide) (by decide)) hk (nI (64 + 32 * k + p))
    have eqN : im_u (im_u (im_u N 4 k (nI (64 + 32 * k + p + 1))) 2 k (nI 3)) 4 k (nI (64 + 32 * k + p)) = im_u N 2 k 3 := by
      rw [u_comm N (show 4 ≠ 2 by decide), u_u, ← ep]
      exact (u_comm N (show 2 ≠ 4 by decide) _ _ _ _).trans (by rw [u_id]; rfl)
    rw [eqN] at hX9
    refine ⟨_, _, by simp (decide := true) only [if_true, gn_40_222, gn_49, Option.bind_some]; rfl, by simp (decide := true) only [if_true, if_false, gn_116_70, gn_116_85, gn_116_100, if_pos i3, cl_n (show k < 2 ^ 31 by omega)], rx_to (rx_le hX9 (Nat.le_succ _)) (fun e => absurd (show (3 : Int32) = 1 from (u_s N 2 k 3).symm.trans e) (by decide)), u_j _ _ _ _ (by decide), ?_⟩
    show im_u (im_u (im_u M _ _ _) _ _ _) _ _ _ 9 = M 9
    rw [u_j _ _ _ _ (by omega), u_j _ _ _ _ (by omega), u_j _ _ _ _ (by omega)]
  have hp31 : p < 31 := by
    by_cases e : p = 31
    · exfalso
      have := hlast e
      rw [this] at eo
      exact hx0 ((nI_eq (by omega) (by decide)).mp (eo.symm.trans (show (0 : Int32) &&& 15 = nI 0 by decide)))
    · omega
  obtain ⟨w1, w2, w3, w4, w5, w6, w7⟩ := hW hp31
  simp only [wd_o, wd_a, wd_b, wd_i] at w1 w2 w3 w4 w5
  rw [eo] at w1 w2 w3 w4 w5
  rw [ea] at w3
  rw [eb] at w5
  rw [hi] at w2 w4 w5
  have nx : ∀ c : Nat, c < 16 → x ≠ c → ¬ nI x = nI c := fun c hc hne e => hne ((nI_eq (by omega) (by omega)).mp e)
  -- the safe state behind a step, from the relation and the three things
  have fin : ∀ (M1 N1 : im_M) (B' p' : Nat), RX k B' M1 N1 → B' ≤ B + 1 → p' < 32 → N1 4 k = nI (64 + 32 * k + p') → (∀ a, 64 + 32 * k ≤ a → a < 96 + 32 * k → N1 1 a = N 1 a) → ((∃ x, x < 16 ∧ N1 3 (8 * k + 6) = nI (16 * k + x)) ∨ (∃ x, x < 16 ∧ N1 3 (8 * k + 6) = nI x) ∧ N 1 (64 + 32 * k + p') = wd_j 7 6 6 (nI (16 * k))) → ((∃ x, x < 32 ∧ N1 3 (8 * k + 7) = nI (64 + 32 * k + x)) ∨ (∃ x, x < 32 ∧ N1 3 (8 * k + 7) = nI x) ∧ N 1 (64 + 32 * k + p') = wd_j 7 7 7 (nI (64 + 32 * k))) → RB (B + 1) M1 N1 := fun M1 N1 B' p' g1 g2 g3 g4 g5 g6 g7 => rx_to (rx_le g1 g2) (fun _ => ⟨fun q hq => by rw [g5 _ (by omega) (by omega), g5 _ (by omega) (by omega)]; exact q1 q hq, by rw [g5 _ (by omega) (by omega)]; exact q2, p', g3, g4, by rw [g5 _ (by omega) (by omega)]; exact g6, by rw [g5 _ (by omega) (by omega)]; exact g7⟩)
  have n0 : ¬ nI x = (0 : Int32) := nx 0 (by decide) hx0
  have o1 : 1 ≤ x := by omega
  have lt1 : ¬ nI x < (1 : Int32) := nI_nlt (a := x) (b := 1) o1 (by omega)
  have e7 : N 1 (64 + 32 * k + (p + 1)) = N 1 (64 + 32 * k + p + 1) := rfl
  have c4 : ∀ (j r : Nat) (v : Int32), j ≠ 4 → im_u (im_u N 4 k (nI (64 + 32 * k + p + 1))) j r v 4 k = nI (64 + 32 * k + (p + 1)) := fun j r v hj => by rw [u_j _ _ _ _ (Ne.symm hj), u_s]; rfl
  have z0 : ∀ (j r : Nat) (v : Int32), j ≠ 0 → im_u (im_u N 4 k (nI (64 + 32 * k + p + 1))) j r v 0 = N 0 := fun j r v hj => by rw [u_j _ _ _ _ (Ne.symm hj), u_j _ _ _ _ (by decide)]
  have z9 : ∀ (j r : Nat) (v : Int32), j ≠ 9 → im_u (im_u M (12 + 10 * k) 5 (nI (64 + 32 * k + p + 1))) j r v 9 = M 9 := fun j r v hj => by rw [u_j _ _ _ _ (Ne.symm hj), u_j _ _ _ _ (by omega)]
  by_cases hx7 : x ≤ 7
  · have n14 : ¬ nI x = (14 : Int32) := nx 14 (by decide) (by omega)
    have n8 : ¬ nI x = (8 : Int32) := nx 8 (by decide) (by omega)
    have n9 : ¬ nI x = (9 : Int32) := nx 9 (by decide) (by omega)
    have n13 : ¬ nI x = (13 : Int32) := nx 13 (by decide) (by omega)
    have le9 : nI x ≤ (9 : Int32) := nI_le (a := x) (b := 9) (by omega) (by decide)
    have lt8 : ¬ (8 : Int32) < nI x := nI_nlt (a := 8) (b := x) (by omega) (by decide)
    have u3 : ∀ q, im_u N 4 k (nI (64 + 32 * k + p + 1)) 3 q = N 3 q := fun q => by rw [u_j _ _ _ _ (by decide)]
    simp only [if_neg n0, ch7 o1 hx7, gn_40_231, if_pos ia, if_pos ib, ca, cb, ra, rb, (g148 o1 hx7 _ _ _ _ N).1, Option.bind_some, if_neg n14, gn_116_102, if_pos i3, if_neg n8, if_neg n9, if_neg n13, if_pos le9, if_pos ia24, if_pos ib24, ca8, cb8, nI_1, cl_n (show k < 2 ^ 31 by omega), u3, (g148 o1 hx7 _ _ _ N _).2]
    refine ⟨_, _, rfl, rfl, fin _ _ B (p + 1) (up_reg hX7 hk ha8 _) (Nat.le_succ _) (by omega) (c4 _ _ _ (by decide)) (fun q _ _ => by rw [u_j _ _ _ _ (by decide), u_j _ _ _ _ (by decide)]) ?_ ?_, z0 _ _ _ (by decide), z9 _ _ _ (by omega)⟩
    · by_cases a6 : a = 6
      · subst a6
        rw [u_s]
        rcases w6 (by rw [show wd_o u = nI x from eo]; exact lt1) (by rw [show wd_o u = nI x from eo]; exact lt8) ea with e | ⟨e1, e2, e3⟩
        · left
          obtain ⟨f1, f2, f3, f4⟩ := jf6 k hk
          rw [← e] at f1 f3 f4
          have ex : x = 7 := (nI_eq (by omega) (by decide)).mp (eo.symm.trans f1)
          have eb6 : b = 6 := (nI_eq (by omega) (by decide)).mp (eb.symm.trans f3)
          have ei : i = nI (16 * k) := hi.symm.trans f4
          subst ex eb6
          rw [ei]
          show ∃ x, x < 16 ∧ N 3 (8 * k + 6) ||| nI (16 * k) = nI (16 * k + x)
          rcases q4 with ⟨y, hy, ey⟩ | ⟨⟨y, hy, ey⟩, -⟩
          · exact ⟨y, hy, by rw [ey]; exact (or6 k hk y hy).1⟩
          · exact ⟨y, hy, by rw [ey]; exact (or6 k hk y hy).2⟩
        · right
          have ex : x = 6 := (nI_eq (by omega) (by decide)).mp (eo.symm.trans e1)
          have ei : i = 15 := hi.symm.trans e2
          subst ex
          obtain ⟨y, hy, ey⟩ := pk_andE (N 3 (8 * k + b)) (m := 15) 4 rfl
          exact ⟨⟨y, hy, by rw [ei]; exact ey⟩, e3⟩
      · left
        rw [u_k _ _ _ _ (by omega), u3]
        exact r6 (fun z => a6 z.2)
    · by_cases a7 : a = 7
      · subst a7
        rw [u_s]
        rcases w7 (by rw [show wd_o u = nI x from eo]; exact lt1) (by rw [show wd_o u = nI x from eo]; exact lt8) ea with e | ⟨e1, e2, e3⟩
        · left
          obtain ⟨f1, f2, f3, f4⟩ := jf7 k hk
          rw [← e] at f1 f3 f4
          have ex : x = 7 := (nI_eq (by omega) (by decide)).mp (eo.symm.trans f1)
          have eb7 : b = 7 := (nI_eq (by omega) (by decide)).mp (eb.symm.trans f3)
          have ei : i = nI (64 + 32 * k) := hi.symm.trans f4
          subst ex eb7
          rw [ei]
          show ∃ x, x < 32 ∧ N 3 (8 * k + 7) ||| nI (64 + 32 * k) = nI (64 + 32 * k + x)
          rcases q5 with ⟨y, hy, ey⟩ | ⟨⟨y, hy, ey⟩, -⟩
          · exact ⟨y, hy, by rw [ey]; exact (or7 k hk y hy).1⟩
          · exact ⟨y, hy, by rw [ey]; exact (or7 k hk y hy).2⟩
        · right
          have ex : x = 6 := (nI_eq (by omega) (by decide)).mp (eo.symm.trans e1)
          have ei : i = 31 := hi.symm.trans e2
          subst ex
          obtain ⟨y, hy, ey⟩ := pk_andE (N 3 (8 * k + b)) (m := 31) 5 rfl
          exact ⟨⟨y, hy, by rw [ei]; exact ey⟩, e3⟩
      · left
        rw [u_k _ _ _ _ (by omega), u3]
        exact r7 (fun z => a7 z.2)
  obtain ⟨y6, hy6, ey6⟩ := r6 (by omega)
  obtain ⟨y7, hy7, ey7⟩ := r7 (by omega)
  have u3 : ∀ q, im_u N 4 k (nI (64 + 32 * k + p + 1)) 3 q = N 3 q := fun q => by rw [u_j _ _ _ _ (by decide)]
  have u1 : ∀ q, im_u N 4 k (nI (64 + 32 * k + p + 1)) 1 q = N 1 q := fun q => by rw [u_j _ _ _ _ (by decide)]
  have hcase : x = 8 ∨ x = 9 ∨ (x = 10 ∨ x = 11 ∨ x = 12) ∨ x = 13 ∨ x = 14 ∨ x = 15 := by omega
  rcases hcase with rfl | rfl | hj | rfl | rfl | rfl
  · -- LOAD
    obtain ⟨b6, i0⟩ := w5 (Or.inl rfl)
    have eb6 : b = 6 := (nI_eq (by omega) (by decide)).mp b6
    subst eb6 i0
    have na6 : a ≠ 6 := fun e => by
      subst e
      rcases w6 (by rw [show wd_o u = nI 8 from eo]; decide) (by rw [show wd_o u = nI 8 from eo]; decide) ea with e | ⟨e1, -⟩
      · have f1 := (jf6 k hk).1
        rw [← e] at f1
        exact absurd (eo.symm.trans f1) (by decide)
      · exact absurd (eo.symm.trans e1) (by decide)
    have na7 : a ≠ 7 := fun e => by
      subst e
      rcases w7 (by rw [show wd_o u = nI 8 from eo]; decide) (by rw [show wd_o u = nI 8 from eo]; decide) ea with e | ⟨e1, -⟩
      · have f1 := (jf7 k hk).1
        rw [← e] at f1
        exact absurd (eo.symm.trans f1) (by decide)
      · exact absurd (eo.symm.trans e1) (by decide)
    have h32' : gn_32 (nI (16 * k + y6)) (im_u M (12 + 10 * k) 5 (nI (64 + 32 * k + p + 1))) = some (N 1 (16 * k + y6), im_u M (12 + 10 * k) 5 (nI (64 + 32 * k + p + 1))) := by
      rw [gn_32, if_n 256 (show 16 * k + y6 < 256 by omega) (by decide) rfl, if_pos (ib_n (show 16 * k + y6 < 256 by omega) (by decide)), cl_n (by omega), u_j _ _ _ _ (by omega), h.2.2.1.1.2.2 _ (by omega)]
    have ib256 : st_ib (nI (16 * k + y6)) 256 := ib_n (by omega) (by decide)
    simp (decide := true) only [if_true, if_false, if_pos ia, if_pos ib, ca, cb, rb, ey6, h32', Option.bind_some, gn_116_102, if_pos i3, cl_n (show k < 2 ^ 31 by omega), nI_1, if_pos ia24, if_pos ib24, ca8, cb8, u3, Int32.add_zero, if_pos ib256, cl_n (show 16 * k + y6 < 2 ^ 31 by omega), u1]
    refine ⟨_, _, rfl, rfl, fin _ _ B (p + 1) (up_reg hX7 hk ha8 _) (Nat.le_succ _) (by omega) (c4 _ _ _ (by decide)) (fun q _ _ => by rw [u_j _ _ _ _ (by decide), u_j _ _ _ _ (by decide)]) (Or.inl ⟨y6, hy6, ?_⟩) (Or.inl ⟨y7, hy7, ?_⟩), z0 _ _ _ (by decide), z9 _ _ _ (by omega)⟩
    · rw [u_k _ _ _ _ (by omega), u3]; exact ey6
    · rw [u_k _ _ _ _ (by omega), u3]; exact ey7
  · -- STORE
    obtain ⟨b6, i0⟩ := w5 (Or.inr rfl)
    have eb6 : b = 6 := (nI_eq (by omega) (by decide)).mp b6
    subst eb6 i0
    have h33' : gn_33 (nI (16 * k + y6)) (N 3 (8 * k + a)) (im_u M (12 + 10 * k) 5 (nI (64 + 32 * k + p + 1))) = some (im_u (im_u M (12 + 10 * k) 5 (nI (64 + 32 * k + p + 1))) 10 (16 * k + y6) (N 3 (8 * k + a))) := by
      rw [gn_33, if_n 256 (show 16 * k + y6 < 256 by omega) (by decide) rfl, if_pos (ib_n (show 16 * k + y6 < 256 by omega) (by decide)), cl_n (by omega)]
    have ib256 : st_ib (nI (16 * k + y6)) 256 := ib_n (by omega) (by decide)
    simp (decide := true) only [if_true, if_false, if_pos ia, if_pos ib, ca, cb, rb, ra, ey6, h33', Option.bind_some, gn_116_102, if_pos i3, cl_n (show k < 2 ^ 31 by omega), nI_1, if_pos ia24, if_pos ib24, ca8, cb8, u3, Int32.add_zero, if_pos ib256, cl_n (show 16 * k + y6 < 2 ^ 31 by omega), u1]
    refine ⟨_, _, rfl, rfl, fin _ _ B (p + 1) (up_mem hX7 (by omega) _) (Nat.le_succ _) (by omega) (c4 _ _ _ (by decide)) (fun q _ _ => by rw [u_k _ _ _ _ (by omega), u_j _ _ _ _ (by decide)]) (Or.inl ⟨y6, hy6, ?_⟩) (Or.inl ⟨y7, hy7, ?_⟩), z0 _ _ _ (by decide), z9 _ _ _ (by omega)⟩
    · rw [u_j _ _ _ _ (by decide), u3]; exact ey6
    · rw [u_j _ _ _ _ (by decide), u3]; exact ey7
  · -- a jump
    obtain ⟨y, hy, ey⟩ := w2 (hj.elim (fun e => Or.inl (by rw [e]; rfl)) (fun e => e.elim (fun e => Or.inr (Or.inl (by rw [e]; rfl))) (fun e => Or.inr (Or.inr (by rw [e]; rfl)))))
    have et : nI (64 + 32 * k + p + 1) + i = nI (64 + 32 * k + y) := by
      rw [← nI_add (64 + 32 * k) y, ← ey, show 64 + 32 * k + p + 1 = (64 + 32 * k) + (p + 1) by omega, ← nI_add, ← nI_1, Int32.add_assoc]
    obtain ⟨g, g1, g2⟩ := g149 hj (N 3 (8 * k + a)) (N 3 (8 * k + b)) (im_u M (12 + 10 * k) 5 (nI (64 + 32 * k + p + 1))) (im_u N 4 k (nI (64 + 32 * k + p + 1)))
    have c40 : gn_40_168 k (nI (64 + 32 * k + p)) (nI x) (nI a) (nI b) i (im_u M (12 + 10 * k) 5 (nI (64 + 32 * k + p + 1))) = some (if g = 0 then im_u M (12 + 10 * k) 5 (nI (64 + 32 * k + p + 1)) else im_u (im_u M (12 + 10 * k) 5 (nI (64 + 32 * k + p + 1))) (12 + 10 * k) 5 (nI (64 + 32 * k + y))) := by
      simp only [gn_40_168, if_pos ia, if_pos ib, ca, cb, ra, rb, g1, Option.bind_some, nI_1, et]
      by_cases hg : g = 0
      · rw [if_pos hg, if_pos hg]
      · rw [if_neg hg, if_neg hg]
    have c116 : gn_116_102 (nI k) (nI (64 + 32 * k + p)) (nI x) i (nI (8 * k + a)) (nI (8 * k + b)) N = some (if g = 0 then im_u N 4 k (nI (64 + 32 * k + p + 1)) else im_u (im_u N 4 k (nI (64 + 32 * k + p + 1))) 4 k (nI (64 + 32 * k + y))) := by
      have n14 : ¬ nI x = (14 : Int32) := nx 14 (by decide) (by omega)
      have n8 : ¬ nI x = (8 : Int32) := nx 8 (by decide) (by omega)
      have n9 : ¬ nI x = (9 : Int32) := nx 9 (by decide) (by omega)
      have n13 : ¬ nI x = (13 : Int32) := nx 13 (by decide) (by omega)
      have le9 : ¬ nI x ≤ (9 : Int32) := nI_ge (a := 9) (b := x) (by omega) (by omega)
      simp only [gn_116_102, if_pos i3, nI_1, cl_n (show k < 2 ^ 31 by omega), if_neg n14, if_neg n8, if_neg n9, if_neg n13, if_neg le9, if_pos ia24, if_pos ib24, ca8, cb8, u3, g2, Option.bind_some, gn_116_261, et, u_u]
      by_cases hg : g = 0
      · rw [if_pos hg, if_pos hg]
      · rw [if_neg hg, if_neg hg]
    have both : ∃ M1 N1, gn_40_168 k (nI (64 + 32 * k + p)) (nI x) (nI a) (nI b) i (im_u M (12 + 10 * k) 5 (nI (64 + 32 * k + p + 1))) = some M1 ∧ gn_116_102 (nI k) (nI (64 + 32 * k + p)) (nI x) i (nI (8 * k + a)) (nI (8 * k + b)) N = some N1 ∧ RB (B + 1) M1 N1 ∧ N1 0 = N 0 ∧ M1 9 = M 9 := by
      refine ⟨_, _, c40, c116, ?_⟩
      by_cases hg : g = 0
      · rw [if_pos hg, if_pos hg]
        refine ⟨fin _ _ B (p + 1) hX7 (Nat.le_succ _) (by omega) (u_s _ _ _ _) (fun q _ _ => u1 q) (Or.inl ⟨y6, hy6, ?_⟩) (Or.inl ⟨y7, hy7, ?_⟩), u_j _ _ _ _ (by decide), u_j _ _ _ _ (by omega)⟩
        · rw [u3]; exact ey6
        · rw [u3]; exact ey7
      · rw [if_neg hg, if_neg hg]
        refine ⟨fin _ _ B y (up_pc hX7 hk _) (Nat.le_succ _) hy (u_s _ _ _ _) (fun q _ _ => by rw [u_j _ _ _ _ (by decide), u1 q]) (Or.inl ⟨y6, hy6, ?_⟩) (Or.inl ⟨y7, hy7, ?_⟩), z0 _ _ _ (by decide), z9 _ _ _ (by omega)⟩
        · rw [u_j _ _ _ _ (by decide), u3]; exact ey6
        · rw [u_j _ _ _ _ (by decide), u3]; exact ey7
    rcases hj with rfl | rfl | rfl <;> simp (decide := true) only [if_true, if_false] <;> exact both
  · -- JUMPR
    have a7 : a = 7 := (nI_eq (by omega) (by decide)).mp (w3 rfl)
    subst a7
    simp (decide := true) only [if_true, if_false, if_pos ia, ca, ra, gn_116_102, if_pos i3, cl_n (show k < 2 ^ 31 by omega), nI_1, if_pos ia24, ca8, u3, ey7]
    refine ⟨_, _, rfl, rfl, fin _ _ B y7 (up_pc hX7 hk _) (Nat.le_succ _) hy7 (u_s _ _ _ _) (fun q _ _ => by rw [u_j _ _ _ _ (by decide), u1 q]) (Or.inl ⟨y6, hy6, ?_⟩) (Or.inl ⟨y7, hy7, ?_⟩), z0 _ _ _ (by decide), z9 _ _ _ (by omega)⟩
    · rw [u_j _ _ _ _ (by decide), u3]; exact ey6
    · rw [u_j _ _ _ _ (by decide), u3]; exact ey7
  · -- HOST
    obtain ⟨v, hv, ev⟩ := w4 rfl
    subst ev
    simp (decide := true) only [if_true, if_false]
    by_cases hv0 : v = 0
    · subst hv0
      obtain ⟨c, hc, ec⟩ := hI.2.2.2.2.2
      obtain ⟨N1, d1, d2, d3⟩ := nt_c hk (show c < 2 ^ 30 by omega) 0 0 0 N ec (nI (64 + 32 * k + p + 1))
      obtain ⟨Ma, Na, f1, f2, f3, f4⟩ := nt_ hX7 hk hB 0 0 0
      rw [d2] at f2
      obtain rfl := Option.some.inj f2
      have hX9 := up_pc (up_st f3 hk (show 2 < 4 by decide) (by decide)) hk (nI (64 + 32 * k + p))
      have eqN : im_u (im_u (im_u N1 4 k (nI (64 + 32 * k + p + 1))) 2 k (nI 2)) 4 k (nI (64 + 32 * k + p)) = im_u N1 2 k 2 := by
        rw [u_comm N1 (show 4 ≠ 2 by decide), u_u, ← ep, ← d3]
        exact (u_comm N1 (show 2 ≠ 4 by decide) _ _ _ _).trans (by rw [u_id]; rfl)
      rw [eqN] at hX9
      have c41 : gn_41 k (nI 0) (nI (64 + 32 * k + p)) (im_u M (12 + 10 * k) 5 (nI (64 + 32 * k + p + 1))) = some (im_u (im_u Ma (12 + 10 * k) 6 (nI 2)) (12 + 10 * k) 5 (nI (64 + 32 * k + p))) := by
        rw [gn_41, g14 (by decide)]
        rw [show gn_2 (16 + 10 * k) (nI 0) (hx_ 0 _) (hy_ 0 _) (im_u M (12 + 10 * k) 5 (nI (64 + 32 * k + p + 1))) = some Ma from f1]
        rfl
      have c116 : gn_116_70 (nI k) (nI 14) N = some (im_u N1 2 k 2) := by
        simp (decide := true) only [gn_116_70, if_true, if_false, d1, Option.bind_some, gn_116_85, gn_116_100, if_pos i3, cl_n (show k < 2 ^ 31 by omega)]
      rw [c41]
      refine ⟨_, _, rfl, by rw [if_pos (show nI 0 = 0 from rfl)]; exact c116, rx_to hX9 (fun e => absurd (show (2 : Int32) = 1 from (u_s N1 2 k 2).symm.trans e) (by decide)), ?_, ?_⟩
      · rw [u_j _ _ _ _ (by decide)]
        have := f4.1
        rw [u_j _ _ _ _ (by decide), u_j _ _ _ _ (by decide)] at this
        exact this
      · rw [u_j _ _ _ _ (by omega), u_j _ _ _ _ (by omega)]
        have := f4.2.2.2.2.2
        rw [u_j _ _ _ _ (by omega)] at this
        exact this
    · have nv : ¬ nI v = (0 : Int32) := fun e => hv0 ((nI_eq (by omega) (by decide)).mp e)
      obtain ⟨Ma, Na, f1, f2, f3, f4⟩ := ho_ hX7 hk hB hv hv0 (nI (64 + 32 * k + p))
      have c116 : gn_116_102 (nI k) (nI (64 + 32 * k + p)) (nI 14) (nI v) (nI (8 * k + a)) (nI (8 * k + b)) N = some Na := by
        simp (decide := true) only [gn_116_102, if_pos i3, nI_1, cl_n (show k < 2 ^ 31 by omega), if_true, f2, Option.bind_some]
      rw [f1, if_neg nv]
      obtain ⟨k0, k1, k2, k4, k9, k3⟩ := f4
      refine ⟨Ma, Na, rfl, c116, fin _ _ (B + 1) (p + 1) f3 (Nat.le_refl _) (by omega) (by rw [k4, u_s]; rfl) (fun q _ _ => by rw [k1, u1 q]) (Or.inl ⟨y6, hy6, ?_⟩) (Or.inl ⟨y7, hy7, ?_⟩), ?_, ?_⟩
      · rw [k3 _ (by omega), u3]; exact ey6
      · rw [k3 _ (by omega), u3]; exact ey7
      · rw [k0, u_j _ _ _ _ (by decide)]
      · rw [k9, u_j _ _ _ _ (by omega)]
  · exact absurd (show nI 15 = 15 from rfl) w1
