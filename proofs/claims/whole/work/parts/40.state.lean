/-! the two worlds as they stand behind the constructors (by wip/whole/mk_state.py) -/
def st_KC : Nat → Nat × Nat := fun j => match j with
  | 0 => (0, 7)
  | 1 => (0, 6)
  | 2 => (1, 24)
  | 3 => (1, 24)
  | 4 => (1, 24)
  | 5 => (1, 24)
  | 6 => (1, 8)
  | 7 => (0, 1)
  | 8 => (1, 31)
  | 9 => (0, 4)
  | 10 => (1, 256)
  | 11 => (3, 3)
  | 12 => (0, 5)
  | 13 => (1, 8)
  | 14 => (1, 12)
  | 15 => (0, 2)
  | 16 => (0, 0)
  | 17 => (1, 16)
  | 18 => (1, 16)
  | 19 => (1, 16)
  | 20 => (1, 4)
  | 21 => (1, 8)
  | 22 => (0, 5)
  | 23 => (1, 8)
  | 24 => (1, 12)
  | 25 => (0, 2)
  | 26 => (0, 0)
  | 27 => (1, 16)
  | 28 => (1, 16)
  | 29 => (1, 16)
  | 30 => (1, 4)
  | 31 => (1, 8)
  | 32 => (0, 5)
  | 33 => (1, 8)
  | 34 => (1, 12)
  | 35 => (0, 2)
  | 36 => (0, 0)
  | 37 => (1, 16)
  | 38 => (1, 16)
  | 39 => (1, 16)
  | 40 => (1, 4)
  | 41 => (1, 8)
  | 42 => (0, 3)
  | 43 => (0, 2)
  | 44 => (0, 0)
  | 45 => (1, 16)
  | 46 => (1, 16)
  | 47 => (1, 16)
  | 48 => (1, 21)
  | 49 => (1, 21)
  | _ => (9, 0)
def st_RC : Nat → Nat → Option Nat := fun j k => match j, k with
  | 0, 0 => some 1
  | 0, 1 => some 7
  | 0, 2 => some 9
  | 0, 3 => some 42
  | 1, 0 => some 2
  | 1, 1 => some 3
  | 1, 2 => some 4
  | 1, 3 => some 5
  | 1, 4 => some 6
  | 7, 0 => some 8
  | 9, 0 => some 10
  | 9, 1 => some 11
  | 11, 0 => some 12
  | 11, 1 => some 22
  | 11, 2 => some 32
  | 12, 1 => some 13
  | 12, 2 => some 14
  | 12, 3 => some 15
  | 12, 7 => some 20
  | 12, 8 => some 21
  | 15, 0 => some 16
  | 16, 0 => some 17
  | 16, 1 => some 18
  | 16, 2 => some 19
  | 22, 1 => some 23
  | 22, 2 => some 24
  | 22, 3 => some 25
  | 22, 7 => some 30
  | 22, 8 => some 31
  | 25, 0 => some 26
  | 26, 0 => some 27
  | 26, 1 => some 28
  | 26, 2 => some 29
  | 32, 1 => some 33
  | 32, 2 => some 34
  | 32, 3 => some 35
  | 32, 7 => some 40
  | 32, 8 => some 41
  | 35, 0 => some 36
  | 36, 0 => some 37
  | 36, 1 => some 38
  | 36, 2 => some 39
  | 42, 0 => some 43
  | 42, 1 => some 48
  | 42, 2 => some 49
  | 43, 0 => some 44
  | 44, 0 => some 45
  | 44, 1 => some 46
  | 44, 2 => some 47
  | _, _ => none
def st_KR : Nat → Nat × Nat := fun j => match j with
  | 0 => (0, 8)
  | 1 => (1, 256)
  | 2 => (1, 3)
  | 3 => (1, 24)
  | 4 => (1, 3)
  | 5 => (1, 3)
  | 6 => (1, 12)
  | 7 => (1, 3)
  | 8 => (1, 36)
  | 9 => (1, 3)
  | 10 => (1, 3)
  | 11 => (1, 24)
  | 12 => (1, 3)
  | 13 => (1, 3)
  | 14 => (1, 144)
  | 15 => (1, 24)
  | 16 => (1, 24)
  | 17 => (1, 24)
  | 18 => (1, 24)
  | 19 => (2, 8)
  | 20 => (1, 8)
  | 21 => (1, 31)
  | 22 => (1, 24)
  | 23 => (2, 24)
  | 24 => (1, 48)
  | _ => (9, 0)
def st_RR : Nat → Nat → Option Nat := fun j k => match j, k with
  | 0, 0 => some 1
  | 0, 1 => some 2
  | 0, 2 => some 3
  | 0, 3 => some 4
  | 0, 4 => some 5
  | 0, 5 => some 6
  | 0, 6 => some 7
  | 0, 7 => some 8
  | 0, 8 => some 9
  | 0, 9 => some 10
  | 0, 10 => some 11
  | 0, 11 => some 12
  | 0, 12 => some 13
  | 0, 13 => some 14
  | 0, 17 => some 15
  | 0, 18 => some 16
  | 0, 19 => some 17
  | 0, 20 => some 18
  | 0, 21 => some 19
  | 0, 22 => some 20
  | 0, 24 => some 21
  | 0, 25 => some 22
  | 0, 26 => some 23
  | 0, 31 => some 24
  | _, _ => none
def st_h0 : im_H := ((0, 0), (fun _ => (9, 0)), (fun _ _ => none), (fun _ _ => 0))
def st_c0 : im_H := im_nw st_h0 (0, 7) 4
def st_r0 : im_H := im_nw st_h0 (0, 8) 32
def st_c1 : im_H := (fn_72 0 st_c0).getD st_h0
def st_r1 : im_H := (fn_91 0 st_r0).getD st_h0
/-- what the class's constructor leaves in int cells -/
def st_mz (j k : Nat) : Int32 := if j = 6 then -1 else if k = 0 then (if j = 22 then 1 else if j = 32 then 2 else 0) else 0
set_option maxRecDepth 100000 in
theorem st_ck : (fn_72 0 st_c0).isSome = true ∧ st_c1.1.1 = 50 ∧ st_c1.1.2 ≤ 5000 ∧ (∀ j, j < 50 → st_c1.2.1 j = st_KC j ∧ (∀ k, k < 32 → st_c1.2.2.1 j k = st_RC j k) ∧ ∀ k, k < (st_KC j).2 → (st_KC j).1 = 1 → st_c1.2.2.2 j k = st_mz j k) ∧ ∀ j, j < 50 → (st_KC j).1 = 0 → ∀ k, k < 11 → st_c1.2.2.2 j k = st_mz j k := by decide +kernel
set_option maxRecDepth 100000 in
theorem st_rk : (fn_91 0 st_r0).isSome = true ∧ st_r1.1.1 = 25 ∧ st_r1.1.2 ≤ 5000 ∧ (∀ j, j < 25 → st_r1.2.1 j = st_KR j ∧ (∀ k, k < 32 → st_r1.2.2.1 j k = st_RR j k) ∧ ∀ k, k < (st_KR j).2 → (st_KR j).1 ≠ 0 → st_r1.2.2.2 j k = 0) ∧ ∀ k, k < 32 → st_r1.2.2.2 0 k = 0 := by decide +kernel
def st_hC (M : Nat → Nat → Int32) : im_H := (st_c1.1, st_KC, st_RC, M)
def st_hR (N : Nat → Nat → Int32) : im_H := (st_r1.1, st_KR, st_RR, N)
theorem st_KC9 : ∀ j, 50 ≤ j → (st_KC j).1 = 9 := by
  intro j hj
  unfold st_KC
  split <;> first | rfl | omega
theorem st_KR9 : ∀ j, 25 ≤ j → (st_KR j).1 = 9 := by
  intro j hj
  unfold st_KR
  split <;> first | rfl | omega
theorem st_ra {ad : Nat → Nat} {r r' : Nat → Option Nat} (h : ∀ k, k < 32 → r k = r' k) : im_ra ad r = im_ra ad r' := by
  funext i
  unfold im_ra
  by_cases hi : i < 32
  · rw [if_pos hi, if_pos hi, h i hi]
  · rw [if_neg hi, if_neg hi]
theorem st_e {cs : ClassId × ClassId × ClassId} {ad : Nat → Nat} {kd : Nat × Nat} {r r' : Nat → Option Nat} {f : Nat → Int32} (h : ∀ k, k < 32 → r k = r' k) : im_e cs ad kd r f = im_e cs ad kd r' f := by
  have hf : im_fs ad kd.2 r f = im_fs ad kd.2 r' f := by
    unfold im_fs
    apply List.map_congr_left
    intro k hk
    rw [h k (Nat.lt_of_lt_of_le (List.mem_range.mp hk) (im_N_le _))]
  unfold im_e
  rw [hf, st_ra h]
theorem st_cW (cs : ClassId × ClassId × ClassId) (ad : Nat → Nat) : im_W cs ad st_c1 = im_W cs ad (st_hC st_c1.2.2.2) := by
  unfold im_W
  apply List.map_congr_left
  intro j hj
  have hj : j < 50 := by have := List.mem_range.mp hj; rwa [st_ck.2.1] at this
  show (ad j, im_e cs ad (st_c1.2.1 j) (st_c1.2.2.1 j) (st_c1.2.2.2 j)) = (ad j, im_e cs ad (st_KC j) (st_RC j) (st_c1.2.2.2 j))
  rw [(st_ck.2.2.2.1 j hj).1, st_e (st_ck.2.2.2.1 j hj).2.1]
theorem st_rW (cs : ClassId × ClassId × ClassId) (ad : Nat → Nat) : im_W cs ad st_r1 = im_W cs ad (st_hR st_r1.2.2.2) := by
  unfold im_W
  apply List.map_congr_left
  intro j hj
  have hj : j < 25 := by have := List.mem_range.mp hj; rwa [st_rk.2.1] at this
  show (ad j, im_e cs ad (st_r1.2.1 j) (st_r1.2.2.1 j) (st_r1.2.2.2 j)) = (ad j, im_e cs ad (st_KR j) (st_RR j) (st_r1.2.2.2 j))
  rw [(st_rk.2.2.2.1 j hj).1, st_e (st_rk.2.2.2.1 j hj).2.1]
theorem st_cf : fn_72 0 st_c0 = some st_c1 := by
  obtain ⟨x, hx⟩ := Option.isSome_iff_exists.mp st_ck.1
  rw [st_c1, hx]
  rfl
theorem st_rf : fn_91 0 st_r0 = some st_r1 := by
  obtain ⟨x, hx⟩ := Option.isSome_iff_exists.mp st_rk.1
  rw [st_r1, hx]
  rfl
