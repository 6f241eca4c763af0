/-! the two worlds behind the constructors stand in the relation; the eighteen pairs together -/
theorem rz_ {M N : im_M} (hO : ∀ j, j < 50 → (st_KC j).1 = 0 → ∀ k, k < 11 → M j k = st_mz j k) (hA : ∀ j, j < 50 → ∀ k, k < (st_KC j).2 → (st_KC j).1 = 1 → M j k = st_mz j k) (hR : ∀ j, j < 25 → ∀ k, k < (st_KR j).2 → (st_KR j).1 ≠ 0 → N j k = 0) (hR0 : ∀ k, k < 32 → N 0 k = 0) : Rl 0 M N := by
  have o : ∀ (j k : Nat) (v : Int32), j < 50 → (st_KC j).1 = 0 → k < 11 → st_mz j k = v → M j k = v := fun j k v h1 h2 h3 h4 => (hO j h1 h2 k h3).trans h4
  have a : ∀ j n k, j < 50 → st_KC j = (1, n) → (j ≠ 6 ∧ j ≠ 22 ∧ j ≠ 32) → k < n → M j k = 0 := fun j n k h1 h2 h3 h4 => by
    rw [hA j h1 k (by rw [h2]; exact h4) (by rw [h2]), st_mz, if_neg h3.1, if_neg h3.2.1, if_neg h3.2.2]
    by_cases c : k = 0
    · rw [if_pos c]
    · rw [if_neg c]
  have r : ∀ j n k, j < 25 → (st_KR j).2 = n → (st_KR j).1 ≠ 0 → k < n → N j k = 0 := fun j n k h1 h2 h3 h4 => hR j h1 k (by rw [h2]; exact h4) h3
  have z : (0 : Int32) = nI 0 := rfl
  refine ⟨⟨⟨?_, fun p hp => ⟨?_, ?_, ?_, ?_⟩, fun n hn => ?_⟩, 0, Nat.zero_le _, ?_, fun p hp => absurd hp (Nat.not_lt_zero _), fun n hn => Or.inl (r 19 8 n (by decide) rfl (by decide) hn)⟩, ⟨⟨?_, fun p hp => ?_⟩, 0, Nat.zero_le _, ?_⟩, ⟨⟨?_, ?_, fun p hp => ?_⟩, ⟨0, by decide, ?_⟩, 0, by decide, ?_⟩, ⟨⟨?_, fun i hi => ⟨?_, ?_, ?_⟩⟩, 0, Nat.zero_le _, ?_⟩, fun k hk => ⟨?_, ⟨⟨⟨0, by decide, ?_⟩, fun _ => ?_⟩, ⟨0, Nat.zero_le _, ?_⟩, ⟨0, Nat.zero_le _, ?_⟩, ⟨0, Nat.zero_le _, ?_⟩, ⟨0, Nat.zero_le _, ?_⟩, 0, Nat.zero_le _, ?_⟩, fun h => ?_⟩⟩
  · rw [o 1 5 0 (by decide) rfl (by decide) rfl, hR0 16 (by decide)]
  · rw [a 2 24 p (by decide) rfl (by decide) hp, r 15 24 p (by decide) rfl (by decide) hp]
  · rw [a 3 24 p (by decide) rfl (by decide) hp, r 16 24 p (by decide) rfl (by decide) hp]
  · rw [a 4 24 p (by decide) rfl (by decide) hp, r 17 24 p (by decide) rfl (by decide) hp]
  · rw [a 5 24 p (by decide) rfl (by decide) hp, r 18 24 p (by decide) rfl (by decide) hp]
  · rw [r 19 8 n (by decide) rfl (by decide) hn, if_pos rfl, hA 6 (by decide) n hn rfl, st_mz, if_pos rfl]
  · rw [hR0 16 (by decide)]
    exact z
  · rw [o 7 1 0 (by decide) rfl (by decide) rfl, hR0 23 (by decide)]
  · rw [a 8 31 p (by decide) rfl (by decide) hp, r 21 31 p (by decide) rfl (by decide) hp]
  · rw [hR0 23 (by decide)]
    exact z
  · rw [o 9 2 0 (by decide) rfl (by decide) rfl, hR0 14 (by decide)]
  · rw [o 9 3 0 (by decide) rfl (by decide) rfl, hR0 15 (by decide)]
  · rw [a 10 256 p (by decide) rfl (by decide) hp, r 1 256 p (by decide) rfl (by decide) hp]
  · rw [hR0 14 (by decide)]
    exact z
  · rw [hR0 15 (by decide)]
    exact z
  · rw [o 44 3 0 (by decide) rfl (by decide) rfl, hR0 30 (by decide)]
  · rw [a 45 16 i (by decide) rfl (by decide) hi, r 24 48 _ (by decide) rfl (by decide) (by omega)]
  · rw [a 46 16 i (by decide) rfl (by decide) hi, r 24 48 _ (by decide) rfl (by decide) (by omega)]
  · rw [a 47 16 i (by decide) rfl (by decide) hi, r 24 48 _ (by decide) rfl (by decide) (by omega)]
  · rw [hR0 30 (by decide)]
    exact z
  · rcases (by omega : k = 0 ∨ k = 1 ∨ k = 2) with rfl | rfl | rfl
    · refine ⟨o (12 + 10 * 0) 0 (nI 0) (by decide) rfl (by decide) rfl, ?_, ?_, ?_, ?_, ?_, ?_, ?_, ?_, fun i hi => ?_, fun i hi => ?_, fun i hi => ?_, fun i hi => ?_, fun i hi => ⟨?_, ?_, ?_⟩⟩
      · rw [o (12 + 10 * 0) 4 0 (by decide) rfl (by decide) rfl, r 9 3 0 (by decide) rfl (by decide) (by decide)]
      · rw [o (12 + 10 * 0) 5 0 (by decide) rfl (by decide) rfl, r 4 3 0 (by decide) rfl (by decide) (by decide)]
      · rw [o (12 + 10 * 0) 6 0 (by decide) rfl (by decide) rfl, r 2 3 0 (by decide) rfl (by decide) (by decide)]
      · rw [o (12 + 10 * 0) 9 0 (by decide) rfl (by decide) rfl, r 7 3 0 (by decide) rfl (by decide) (by decide)]
      · rw [o (12 + 10 * 0) 10 0 (by decide) rfl (by decide) rfl, r 12 3 0 (by decide) rfl (by decide) (by decide)]
      · rw [o (15 + 10 * 0) 1 0 (by decide) rfl (by decide) rfl, r 5 3 0 (by decide) rfl (by decide) (by decide)]
      · rw [o (15 + 10 * 0) 2 0 (by decide) rfl (by decide) rfl, r 10 3 0 (by decide) rfl (by decide) (by decide)]
      · rw [o (16 + 10 * 0) 3 0 (by decide) rfl (by decide) rfl, r 13 3 0 (by decide) rfl (by decide) (by decide)]
      · rw [a (13 + 10 * 0) 8 i (by decide) rfl (by decide) hi, r 3 24 _ (by decide) rfl (by decide) (by omega)]
      · rw [a (14 + 10 * 0) 12 i (by decide) rfl (by decide) hi, r 8 36 _ (by decide) rfl (by decide) (by omega)]
      · rw [a (20 + 10 * 0) 4 i (by decide) rfl (by decide) hi, r 6 12 _ (by decide) rfl (by decide) (by omega)]
      · rw [a (21 + 10 * 0) 8 i (by decide) rfl (by decide) hi, r 11 24 _ (by decide) rfl (by decide) (by omega)]
      · rw [a (17 + 10 * 0) 16 i (by decide) rfl (by decide) hi, r 14 144 _ (by decide) rfl (by decide) (by omega)]
      · rw [a (18 + 10 * 0) 16 i (by decide) rfl (by decide) hi, r 14 144 _ (by decide) rfl (by decide) (by omega)]
      · rw [a (19 + 10 * 0) 16 i (by decide) rfl (by decide) hi, r 14 144 _ (by decide) rfl (by decide) (by omega)]
    · refine ⟨o (12 + 10 * 1) 0 (nI 1) (by decide) rfl (by decide) rfl, ?_, ?_, ?_, ?_, ?_, ?_, ?_, ?_, fun i hi => ?_, fun i hi => ?_, fun i hi => ?_, fun i hi => ?_, fun i hi => ⟨?_, ?_, ?_⟩⟩
      · rw [o (12 + 10 * 1) 4 0 (by decide) rfl (by decide) rfl, r 9 3 1 (by decide) rfl (by decide) (by decide)]
      · rw [o (12 + 10 * 1) 5 0 (by decide) rfl (by decide) rfl, r 4 3 1 (by decide) rfl (by decide) (by decide)]
      · rw [o (12 + 10 * 1) 6 0 (by decide) rfl (by decide) rfl, r 2 3 1 (by decide) rfl (by decide) (by decide)]
      · rw [o (12 + 10 * 1) 9 0 (by decide) rfl (by decide) rfl, r 7 3 1 (by decide) rfl (by decide) (by decide)]
      · rw [o (12 + 10 * 1) 10 0 (by decide) rfl (by decide) rfl, r 12 3 1 (by decide) rfl (by decide) (by decide)]
      · rw [o (15 + 10 * 1) 1 0 (by decide) rfl (by decide) rfl, r 5 3 1 (by decide) rfl (by decide) (by decide)]
      · rw [o (15 + 10 * 1) 2 0 (by decide) rfl (by decide) rfl, r 10 3 1 (by decide) rfl (by decide) (by decide)]
      · rw [o (16 + 10 * 1) 3 0 (by decide) rfl (by decide) rfl, r 13 3 1 (by decide) rfl (by decide) (by decide)]
      · rw [a (13 + 10 * 1) 8 i (by decide) rfl (by decide) hi, r 3 24 _ (by decide) rfl (by decide) (by omega)]
      · rw [a (14 + 10 * 1) 12 i (by decide) rfl (by decide) hi, r 8 36 _ (by decide) rfl (by decide) (by omega)]
      · rw [a (20 + 10 * 1) 4 i (by decide) rfl (by decide) hi, r 6 12 _ (by decide) rfl (by decide) (by omega)]
      · rw [a (21 + 10 * 1) 8 i (by decide) rfl (by decide) hi, r 11 24 _ (by decide) rfl (by decide) (by omega)]
      · rw [a (17 + 10 * 1) 16 i (by decide) rfl (by decide) hi, r 14 144 _ (by decide) rfl (by decide) (by omega)]
      · rw [a (18 + 10 * 1) 16 i (by decide) rfl (by decide) hi, r 14 144 _ (by decide) rfl (by decide) (by omega)]
      · rw [a (19 + 10 * 1) 16 i (by decide) rfl (by decide) hi, r 14 144 _ (by decide) rfl (by decide) (by omega)]
    · refine ⟨o (12 + 10 * 2) 0 (nI 2) (by decide) rfl (by decide) rfl, ?_, ?_, ?_, ?_, ?_, ?_, ?_, ?_, fun i hi => ?_, fun i hi => ?_, fun i hi => ?_, fun i hi => ?_, fun i hi => ⟨?_, ?_, ?_⟩⟩
      · rw [o (12 + 10 * 2) 4 0 (by decide) rfl (by decide) rfl, r 9 3 2 (by decide) rfl (by decide) (by decide)]
      · rw [o (12 + 10 * 2) 5 0 (by decide) rfl (by decide) rfl, r 4 3 2 (by decide) rfl (by decide) (by decide)]
      · rw [o (12 + 10 * 2) 6 0 (by decide) rfl (by decide) rfl, r 2 3 2 (by decide) rfl (by decide) (by decide)]
      · rw [o (12 + 10 * 2) 9 0 (by decide) rfl (by decide) rfl, r 7 3 2 (by decide) rfl (by decide) (by decide)]
      · rw [o (12 + 10 * 2) 10 0 (by decide) rfl (by decide) rfl, r 12 3 2 (by decide) rfl (by decide) (by decide)]
      · rw [o (15 + 10 * 2) 1 0 (by decide) rfl (by decide) rfl, r 5 3 2 (by decide) rfl (by decide) (by decide)]
      · rw [o (15 + 10 * 2) 2 0 (by decide) rfl (by decide) rfl, r 10 3 2 (by decide) rfl (by decide) (by decide)]
      · rw [o (16 + 10 * 2) 3 0 (by decide) rfl (by decide) rfl, r 13 3 2 (by decide) rfl (by decide) (by decide)]
      · rw [a (13 + 10 * 2) 8 i (by decide) rfl (by decide) hi, r 3 24 _ (by decide) rfl (by decide) (by omega)]
      · rw [a (14 + 10 * 2) 12 i (by decide) rfl (by decide) hi, r 8 36 _ (by decide) rfl (by decide) (by omega)]
      · rw [a (20 + 10 * 2) 4 i (by decide) rfl (by decide) hi, r 6 12 _ (by decide) rfl (by decide) (by omega)]
      · rw [a (21 + 10 * 2) 8 i (by decide) rfl (by decide) hi, r 11 24 _ (by decide) rfl (by decide) (by omega)]
      · rw [a (17 + 10 * 2) 16 i (by decide) rfl (by decide) hi, r 14 144 _ (by decide) rfl (by decide) (by omega)]
      · rw [a (18 + 10 * 2) 16 i (by decide) rfl (by decide) hi, r 14 144 _ (by decide) rfl (by decide) (by omega)]
      · rw [a (19 + 10 * 2) 16 i (by decide) rfl (by decide) hi, r 14 144 _ (by decide) rfl (by decide) (by omega)]
  · rw [r 2 3 k (by decide) rfl (by decide) hk]
    exact z
  · rw [r 9 3 k (by decide) rfl (by decide) hk]
  · rw [r 7 3 k (by decide) rfl (by decide) hk]
    exact z
  · rw [r 9 3 k (by decide) rfl (by decide) hk]
    exact z
  · rw [r 10 3 k (by decide) rfl (by decide) hk]
    exact z
  · rw [r 5 3 k (by decide) rfl (by decide) hk]
    exact z
  · rw [r 13 3 k (by decide) rfl (by decide) hk]
    exact z
  · rw [r 2 3 k (by decide) rfl (by decide) hk] at h
    exact absurd h (by decide)
theorem rz0 : Rl 0 st_c1.2.2.2 st_r1.2.2.2 := rz_ st_ck.2.2.2.2 (fun j hj k hk h1 => (st_ck.2.2.2.1 j hj).2.2 k hk h1) (fun j hj k hk h1 => (st_rk.2.2.2.1 j hj).2.2 k hk h1) st_rk.2.2.2.2
theorem pu_all : lw_Pure Rl := fun t M N ht h a b c d => ⟨pu_line h a b c d, pu_mark h a, pu_clear h, pu_rewrite h a, pu_word h a, pu_module h a, pu_verify h a, pu_load h a, pu_feed h a b, pu_run ht h a, pu_state h a, pu_pc h a, pu_register h a b, pu_peek h a, pu_output h a b, pu_call h a b c, pu_follow h a b, pu_trace h a b, rl_up h⟩
