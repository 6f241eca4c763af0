/-! the relation between the class's world M and the reference's world N, behind t calls -/
def rl_S (M N : im_M) : Prop := M 1 5 = N 0 16 ∧ (∀ p, p < 24 → M 2 p = N 15 p ∧ M 3 p = N 16 p ∧ M 4 p = N 17 p ∧ M 5 p = N 18 p) ∧ ∀ n, n < 8 → M 6 n = if N 19 n = 0 then -1 else N 20 n
def rl_C (M N : im_M) : Prop := M 7 1 = N 0 23 ∧ ∀ p, p < 31 → M 8 p = N 21 p
def rl_M (M N : im_M) : Prop := M 9 2 = N 0 14 ∧ M 9 3 = N 0 15 ∧ ∀ a, a < 256 → M 10 a = N 1 a
def rl_K (M N : im_M) (k : Nat) : Prop := M (12 + 10 * k) 0 = nI k ∧ M (12 + 10 * k) 4 = N 9 k ∧ M (12 + 10 * k) 5 = N 4 k ∧ M (12 + 10 * k) 6 = N 2 k ∧ M (12 + 10 * k) 9 = N 7 k ∧ M (12 + 10 * k) 10 = N 12 k ∧ M (15 + 10 * k) 1 = N 5 k ∧ M (15 + 10 * k) 2 = N 10 k ∧ M (16 + 10 * k) 3 = N 13 k ∧
  (∀ r, r < 8 → M (13 + 10 * k) r = N 3 (8 * k + r)) ∧ (∀ i, i < 12 → M (14 + 10 * k) i = N 8 (12 * k + i)) ∧ (∀ i, i < 4 → M (20 + 10 * k) i = N 6 (4 * k + i)) ∧ (∀ i, i < 8 → M (21 + 10 * k) i = N 11 (8 * k + i)) ∧ ∀ i, i < 16 → M (17 + 10 * k) i = N 14 (48 * k + 3 * i) ∧ M (18 + 10 * k) i = N 14 (48 * k + 3 * i + 1) ∧ M (19 + 10 * k) i = N 14 (48 * k + 3 * i + 2)
def rl_T (M N : im_M) : Prop := M 44 3 = N 0 30 ∧ ∀ i, i < 16 → M 45 i = N 24 (3 * i) ∧ M 46 i = N 24 (3 * i + 1) ∧ M 47 i = N 24 (3 * i + 2)
def ri_S (N : im_M) : Prop := ∃ ln, ln ≤ 24 ∧ N 0 16 = nI ln ∧ (∀ p, p < ln → (∃ x, x < 16 ∧ N 15 p = nI x) ∧ (∃ x, x < 8 ∧ N 16 p = nI x) ∧ (∃ x, x < 8 ∧ N 17 p = nI x) ∧ -2097152 ≤ (N 18 p).toInt ∧ (N 18 p).toInt ≤ 2097151) ∧ ∀ n, n < 8 → N 19 n = 0 ∨ N 19 n = 1 ∧ ∃ q, q ≤ ln ∧ N 20 n = nI q
def ri_C (N : im_M) : Prop := ∃ w, w ≤ 31 ∧ N 0 23 = nI w
def ri_M (N : im_M) : Prop := (∃ x, x < 3 ∧ N 0 14 = nI x) ∧ ∃ x, x < 3 ∧ N 0 15 = nI x
def ri_T (N : im_M) : Prop := ∃ x, x ≤ 300 ∧ N 0 30 = nI x
def ri_K (B : Nat) (N : im_M) (k : Nat) : Prop := ((∃ x, x < 4 ∧ N 2 k = nI x) ∧ (N 2 k = 0 → N 9 k = 0)) ∧ (∃ x, x ≤ 4 ∧ N 7 k = nI x) ∧ (∃ x, x ≤ 12 ∧ N 9 k = nI x) ∧ (∃ x, x ≤ 12 ∧ N 10 k = nI x) ∧ (∃ x, x ≤ 16 ∧ N 5 k = nI x) ∧ ∃ x, x ≤ B ∧ N 13 k = nI x
abbrev wd_o (w : Int32) : Int32 := w &&& (15 : Int32)
abbrev wd_a (w : Int32) : Int32 := (w >>> ((4 : Int32) &&& 31)) &&& (7 : Int32)
abbrev wd_b (w : Int32) : Int32 := (w >>> ((7 : Int32) &&& 31)) &&& (7 : Int32)
abbrev wd_i (w : Int32) : Int32 := w >>> ((10 : Int32) &&& 31)
abbrev wd_j (o a b i : Int32) : Int32 := (((o ||| (a <<< ((4 : Int32) &&& 31))) ||| (b <<< ((7 : Int32) &&& 31))) ||| (i <<< ((10 : Int32) &&& 31)))
/-- a write of the register r is fenced: the word w, the one behind it v -/
def rs_f (w v r base mask : Int32) : Prop := ¬ wd_o w < 1 → ¬ 8 < wd_o w → wd_a w = r → w = wd_j 7 r r base ∨ (wd_o w = 6 ∧ wd_i w = mask ∧ v = wd_j 7 r r base)
/-- the word at place p of a sandbox k's code, with the one behind it, as the verifier lets it pass -/
def rs_w (k p : Nat) (w v : Int32) : Prop := ¬ wd_o w = 15 ∧
  (wd_o w = 10 ∨ wd_o w = 11 ∨ wd_o w = 12 → ∃ x, x < 32 ∧ nI p + 1 + wd_i w = nI x) ∧
  (wd_o w = 13 → wd_a w = 7) ∧ (wd_o w = 14 → ∃ x, x < 7 ∧ wd_i w = nI x) ∧
  (wd_o w = 8 ∨ wd_o w = 9 → wd_b w = 6 ∧ wd_i w = 0) ∧ rs_f w v 6 (nI (16 * k)) 15 ∧ rs_f w v 7 (nI (64 + 32 * k)) 31
/-- a running sandbox: its code is safe, its counter stands in it, its two registers are fenced -/
def rs_K (N : im_M) (k : Nat) : Prop := (∀ p, p < 31 → rs_w k p (N 1 (64 + 32 * k + p)) (N 1 (64 + 32 * k + p + 1))) ∧ N 1 (64 + 32 * k + 31) = 0 ∧
  ∃ p, p < 32 ∧ N 4 k = nI (64 + 32 * k + p) ∧
    ((∃ x, x < 16 ∧ N 3 (8 * k + 6) = nI (16 * k + x)) ∨ (∃ x, x < 16 ∧ N 3 (8 * k + 6) = nI x) ∧ N 1 (64 + 32 * k + p) = wd_j 7 6 6 (nI (16 * k))) ∧
    ((∃ x, x < 32 ∧ N 3 (8 * k + 7) = nI (64 + 32 * k + x)) ∨ (∃ x, x < 32 ∧ N 3 (8 * k + 7) = nI x) ∧ N 1 (64 + 32 * k + p) = wd_j 7 7 7 (nI (64 + 32 * k)))
def RB (B : Nat) (M N : im_M) : Prop := (rl_S M N ∧ ri_S N) ∧ (rl_C M N ∧ ri_C N) ∧ (rl_M M N ∧ ri_M N) ∧ (rl_T M N ∧ ri_T N) ∧ ∀ k, k < 3 → rl_K M N k ∧ ri_K B N k ∧ (N 2 k = 1 → rs_K N k)
def Rl (t : Nat) (M N : im_M) : Prop := RB (500 * t) M N
theorem ri_K.up {t : Nat} {N : im_M} {k : Nat} (h : ri_K (500 * t) N k) : ri_K (500 * (t + 1)) N k := by
  obtain ⟨h1, h2, h3, h4, h5, x, hx, e⟩ := h
  exact ⟨h1, h2, h3, h4, h5, x, by omega, e⟩
theorem rl_up {t : Nat} {M N : im_M} (h : Rl t M N) : Rl (t + 1) M N := ⟨h.1, h.2.1, h.2.2.1, h.2.2.2.1, fun k hk => ⟨(h.2.2.2.2 k hk).1, (h.2.2.2.2 k hk).2.1.up, (h.2.2.2.2 k hk).2.2⟩⟩
theorem i_lt {x y : Int32} : x < y ↔ x.toInt < y.toInt := Int32.lt_iff_toInt_lt
theorem i_le {x y : Int32} : x ≤ y ↔ x.toInt ≤ y.toInt := Int32.le_iff_toInt_le
theorem cx_ (x : Int32) (n : Nat) (c : Int32) (hc : nI n = c) (hn : n < 2 ^ 31) : (x < 0 ∨ c ≤ x) ∨ ∃ k, k < n ∧ x = nI k := by
  subst hc
  rcases pk_ix x hn with h | h | h
  · exact Or.inl (Or.inl h)
  · exact Or.inl (Or.inr h)
  · exact Or.inr h
theorem if_o {α : Type} {x c : Int32} {A B : α} (h : x < 0 ∨ c ≤ x) : (if x < 0 then A else (if c ≤ x then A else B)) = A := by
  by_cases h0 : x < 0
  · rw [if_pos h0]
  · rw [if_neg h0, if_pos (h.resolve_left h0)]
theorem if_n {α : Type} (c : Int32) {k n : Nat} {A A' B : α} (hk : k < n) (hn : n < 2 ^ 31) (e : nI n = c) : (if nI k < 0 then A else (if c ≤ nI k then A' else B)) = B := by
  subst e
  rw [if_neg (nI_pos (by omega)), if_neg (nI_ge hk hn)]
theorem in_f {x lo hi : Int32} {N : im_M} (h : x < lo ∨ hi < x) : gn_92 x lo hi N = some (0, N) := by
  unfold gn_92
  rcases h with h | h
  · rw [if_pos h]
  · by_cases h0 : x < lo
    · rw [if_pos h0]
    · rw [if_neg h0, if_pos h]
theorem in_t {x lo hi : Int32} {N : im_M} (h1 : ¬ x < lo) (h2 : ¬ hi < x) : gn_92 x lo hi N = some (1, N) := by
  unfold gn_92
  rw [if_neg h1, if_neg h2]
/-- in(x, 0, hi) at a small number -/
theorem in_n (n : Nat) (hi : Int32) {k : Nat} {N : im_M} (e : nI n = hi) (hn : n < 2 ^ 31) (hk : k ≤ n) : gn_92 (nI k) 0 hi N = some (1, N) := by
  subst e
  exact in_t (nI_pos (by omega)) (nI_nlt hk hn)
/-- in(x, 0, hi) at a number that is none of them -/
theorem in_o (n : Nat) (hi c : Int32) {x : Int32} {N : im_M} (e : nI n = hi) (e2 : nI (n + 1) = c) (hn : n + 1 < 2 ^ 31) (h : x < 0 ∨ c ≤ x) : gn_92 x 0 hi N = some (0, N) := by
  subst e
  subst e2
  refine in_f ?_
  rcases h with h | h
  · exact Or.inl h
  · refine Or.inr ?_
    rw [i_lt, nI_toInt (by omega)]
    rw [i_le, nI_toInt hn] at h
    omega
theorem ib_n {k n : Nat} (hk : k < n) (hn : n < 2 ^ 31) : st_ib (nI k) n := by
  have := nI_toInt (n := k) (by omega)
  exact ⟨by omega, by omega⟩
theorem cl_n {k : Nat} (hk : k < 2 ^ 31) : (nI k).toNatClampNeg = k := nI_clamp hk
theorem n_ge {k n : Nat} {c : Int32} (hk : k < n) (hn : n < 2 ^ 31) (e : nI n = c) : ¬ c ≤ nI k := by
  subst e
  exact nI_ge hk hn
theorem n_lt {k n : Nat} {c : Int32} (hk : k < n) (hn : n < 2 ^ 31) (e : nI n = c) : nI k < c := by
  subst e
  exact nI_lt hk hn
theorem n_m1 {k : Nat} (hk : k < 2 ^ 31) : ¬ nI k = -1 := by
  intro h
  have := congrArg Int32.toInt h
  rw [nI_toInt hk] at this
  have e : (-1 : Int32).toInt = -1 := rfl
  omega
/-- a call that changes nothing -/
theorem rd_ {t : Nat} {M N : im_M} {f g : im_M → Option (Int32 × im_M)} (h : Rl t M N) (r : Int32) (hf : f M = some (r, M)) (hg : g N = some (r, N)) : lw_P1 Rl t M N f g := ⟨r, M, N, hf, hg, rl_up h⟩
