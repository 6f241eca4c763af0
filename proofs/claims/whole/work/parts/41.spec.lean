/-! the two worlds' cells, and the rows over them -/
abbrev im_M : Type := Nat → Nat → Int32
def zC_I (a : Int32 × im_M) : im_rs := (some (.inl a.1), st_hC a.2)
def zC_R (a : Option Nat × im_M) : im_rs := (some (.inr a.1), st_hC a.2)
def zC_V (a : im_M) : im_rs := (none, st_hC a)
def zR_I (a : Int32 × im_M) : im_rs := (some (.inl a.1), st_hR a.2)
def zR_V (a : im_M) : im_rs := (none, st_hR a)
abbrev st_ib (i : Int32) (n : Nat) : Prop := 0 ≤ i.toInt ∧ i.toInt < (n : Int)
theorem mk_in {h : im_H} {kd q len : Nat} {i : Int32} (hk : h.2.1 q = (kd, len)) (hi : st_ib i len) : im_in h kd q i := ⟨by rw [hk], hi.1, by rw [hk]; exact hi.2⟩
def st_isD (d : Nat) : Prop := d = 43 ∨ ∃ k, k < 3 ∧ d = 15 + 10 * k
def st_isL (c : Nat) : Prop := c = 44 ∨ ∃ k, k < 3 ∧ c = 16 + 10 * k
theorem st_3 {k : Nat} (h : k < 3) : k = 0 ∨ k = 1 ∨ k = 2 := by omega
theorem dk_F : st_isD 43 := Or.inl rfl
theorem lk_F : st_isL 44 := Or.inl rfl
theorem dk_S {k : Nat} (h : k < 3) : st_isD (15 + 10 * k) := Or.inr ⟨k, h, rfl⟩
theorem lk_D {d : Nat} (h : st_isD d) : st_isL (d + 1) := by
  rcases h with rfl | ⟨k, hk, rfl⟩
  · exact Or.inl rfl
  · exact Or.inr ⟨k, hk, by omega⟩
theorem kc_S0 {k : Nat} (h : k < 3) : st_KC (12 + 10 * k) = (0, 5) := by
  rcases st_3 h with rfl | rfl | rfl <;> rfl
theorem kc_S1 {k : Nat} (h : k < 3) : st_KC (13 + 10 * k) = (1, 8) := by
  rcases st_3 h with rfl | rfl | rfl <;> rfl
theorem rc_S1 {k : Nat} (h : k < 3) : st_RC (12 + 10 * k) 1 = some (13 + 10 * k) := by
  rcases st_3 h with rfl | rfl | rfl <;> rfl
theorem kc_S2 {k : Nat} (h : k < 3) : st_KC (14 + 10 * k) = (1, 12) := by
  rcases st_3 h with rfl | rfl | rfl <;> rfl
theorem rc_S2 {k : Nat} (h : k < 3) : st_RC (12 + 10 * k) 2 = some (14 + 10 * k) := by
  rcases st_3 h with rfl | rfl | rfl <;> rfl
theorem kc_S7 {k : Nat} (h : k < 3) : st_KC (20 + 10 * k) = (1, 4) := by
  rcases st_3 h with rfl | rfl | rfl <;> rfl
theorem rc_S7 {k : Nat} (h : k < 3) : st_RC (12 + 10 * k) 7 = some (20 + 10 * k) := by
  rcases st_3 h with rfl | rfl | rfl <;> rfl
theorem kc_S8 {k : Nat} (h : k < 3) : st_KC (21 + 10 * k) = (1, 8) := by
  rcases st_3 h with rfl | rfl | rfl <;> rfl
theorem rc_S8 {k : Nat} (h : k < 3) : st_RC (12 + 10 * k) 8 = some (21 + 10 * k) := by
  rcases st_3 h with rfl | rfl | rfl <;> rfl
theorem rc_S3 {k : Nat} (h : k < 3) : st_RC (12 + 10 * k) 3 = some (15 + 10 * k) := by
  rcases st_3 h with rfl | rfl | rfl <;> rfl
theorem kc_D {d : Nat} (h : st_isD d) : st_KC d = (0, 2) := by
  rcases h with rfl | ⟨k, hk, rfl⟩
  · rfl
  · rcases st_3 hk with rfl | rfl | rfl <;> rfl
theorem rc_D {d : Nat} (h : st_isD d) : st_RC d 0 = some (d + 1) := by
  rcases h with rfl | ⟨k, hk, rfl⟩
  · rfl
  · rcases st_3 hk with rfl | rfl | rfl <;> rfl
theorem kc_L {c : Nat} (h : st_isL c) : st_KC c = (0, 0) := by
  rcases h with rfl | ⟨k, hk, rfl⟩
  · rfl
  · rcases st_3 hk with rfl | rfl | rfl <;> rfl
theorem kc_L1 {c : Nat} (h : st_isL c) : st_KC (c + 1) = (1, 16) := by
  rcases h with rfl | ⟨k, hk, rfl⟩
  · rfl
  · rcases st_3 hk with rfl | rfl | rfl <;> rfl
theorem rc_L0 {c : Nat} (h : st_isL c) : st_RC c 0 = some (c + 1) := by
  rcases h with rfl | ⟨k, hk, rfl⟩
  · rfl
  · rcases st_3 hk with rfl | rfl | rfl <;> rfl
theorem kc_L2 {c : Nat} (h : st_isL c) : st_KC (c + 2) = (1, 16) := by
  rcases h with rfl | ⟨k, hk, rfl⟩
  · rfl
  · rcases st_3 hk with rfl | rfl | rfl <;> rfl
theorem rc_L1 {c : Nat} (h : st_isL c) : st_RC c 1 = some (c + 2) := by
  rcases h with rfl | ⟨k, hk, rfl⟩
  · rfl
  · rcases st_3 hk with rfl | rfl | rfl <;> rfl
theorem kc_L3 {c : Nat} (h : st_isL c) : st_KC (c + 3) = (1, 16) := by
  rcases h with rfl | ⟨k, hk, rfl⟩
  · rfl
  · rcases st_3 hk with rfl | rfl | rfl <;> rfl
theorem rc_L2 {c : Nat} (h : st_isL c) : st_RC c 2 = some (c + 3) := by
  rcases h with rfl | ⟨k, hk, rfl⟩
  · rfl
  · rcases st_3 hk with rfl | rfl | rfl <;> rfl
/-- a reference that is a sandbox -/
def st_sb (o : Option Nat) : Option Nat := if o = some 12 then some 0 else if o = some 22 then some 1 else if o = some 32 then some 2 else none
theorem st_sb_s {o : Option Nat} {k : Nat} (h : st_sb o = some k) : k < 3 ∧ o = some (12 + 10 * k) := by
  unfold st_sb at h
  split at h
  · rename_i e; cases h; exact ⟨by decide, e⟩
  · split at h
    · rename_i e; cases h; exact ⟨by decide, e⟩
    · split at h
      · rename_i e; cases h; exact ⟨by decide, e⟩
      · cases h
theorem st_sb_lt {o : Option Nat} {k : Nat} (h : st_sb o = some k) : k < 3 := (st_sb_s h).1
theorem st_sb_eq {o : Option Nat} {k : Nat} (h : st_sb o = some k) : o = some (12 + 10 * k) := (st_sb_s h).2
theorem st_ix3 {x : Int32} (h1 : ¬ x < 0) (h2 : ¬ 3 ≤ x) : x.toNatClampNeg < 3 := by
  rw [Int32.lt_iff_toInt_lt] at h1
  rw [Int32.le_iff_toInt_le] at h2
  have e1 : (0 : Int32).toInt = 0 := rfl
  have e2 : (3 : Int32).toInt = 3 := rfl
  show x.toInt.toNat < 3
  omega
section XZ
variable {α : Type} {z : α → im_rs} {d d' : Nat} {F F' : im_F} {pc : Nat} {lv : im_L} {st as rest : List im_V} {h : im_H} {t : Option α} {M : im_M} {y : MethodName} {na : Nat}
theorem x_getRC {idx j ci k q : Nat} {o : Option Nat} {fin : Bool} (hd : decode F.2.2.2.2.1 pc = .ok (.getfield idx, 3)) (hf : im_fl F.1 idx ci k fin) (hi : im_r ci k = true) (ho : o = some j) (hK : h.2.1 j = (0, ci)) (hR : h.2.2.1 j k = some q) (kk : im_Go z d F (pc + 3) lv (.inr (some q) :: st) h t) : im_Go z d F pc lv (.inr o :: st) h t := by
  refine x_getR hd hf hi ho hK ?_
  rw [show im_gR h j k = some q from hR]
  exact kk
theorem x_putIC {idx j ci k : Nat} {o : Option Nat} {x : Int32} (hd : decode F.2.2.2.2.1 pc = .ok (.putfield idx, 3)) (hf : im_fl F.1 idx ci k false) (hi : im_i ci k = true) (ho : o = some j) (hK : st_KC j = (0, ci)) (kk : im_Go z d F (pc + 3) lv st (st_hC (im_u M j k x)) t) : im_Go z d F pc lv (.inl x :: .inr o :: st) (st_hC M) t := x_putI hd hf hi ho hK kk
theorem x_putIR {idx j ci k : Nat} {o : Option Nat} {x : Int32} (hd : decode F.2.2.2.2.1 pc = .ok (.putfield idx, 3)) (hf : im_fl F.1 idx ci k false) (hi : im_i ci k = true) (ho : o = some j) (hK : st_KR j = (0, ci)) (kk : im_Go z d F (pc + 3) lv st (st_hR (im_u M j k x)) t) : im_Go z d F pc lv (.inl x :: .inr o :: st) (st_hR M) t := x_putI hd hf hi ho hK kk
theorem x_ialoadX {j : Nat} {o : Option Nat} {i : Int32} (n : Nat) (hn : i.toNatClampNeg = n) (hd : decode F.2.2.2.2.1 pc = .ok (.iaload, 1)) (ho : o = some j) (hb : im_in h 1 j i) (kk : im_Go z d F (pc + 1) lv (.inl (h.2.2.2 j n) :: st) h t) : im_Go z d F pc lv (.inl i :: .inr o :: st) h t := by
  subst hn
  exact x_iaload hd ho hb kk
theorem x_baloadX {j : Nat} {o : Option Nat} {i : Int32} (n : Nat) (hn : i.toNatClampNeg = n) (hd : decode F.2.2.2.2.1 pc = .ok (.baload, 1)) (ho : o = some j) (hb : im_in h 2 j i) (kk : im_Go z d F (pc + 1) lv (.inl (h.2.2.2 j n) :: st) h t) : im_Go z d F pc lv (.inl i :: .inr o :: st) h t := by
  subst hn
  exact x_baload hd ho hb kk
theorem x_iastoreC {j : Nat} {o : Option Nat} {i x : Int32} (n : Nat) (hn : i.toNatClampNeg = n) (hd : decode F.2.2.2.2.1 pc = .ok (.iastore, 1)) (ho : o = some j) (hb : im_in (st_hC M) 1 j i) (kk : im_Go z d F (pc + 1) lv st (st_hC (im_u M j n x)) t) : im_Go z d F pc lv (.inl x :: .inl i :: .inr o :: st) (st_hC M) t := by
  subst hn
  exact x_iastore hd ho hb kk
theorem x_iastoreR {j : Nat} {o : Option Nat} {i x : Int32} (n : Nat) (hn : i.toNatClampNeg = n) (hd : decode F.2.2.2.2.1 pc = .ok (.iastore, 1)) (ho : o = some j) (hb : im_in (st_hR M) 1 j i) (kk : im_Go z d F (pc + 1) lv st (st_hR (im_u M j n x)) t) : im_Go z d F pc lv (.inl x :: .inl i :: .inr o :: st) (st_hR M) t := by
  subst hn
  exact x_iastore hd ho hb kk
theorem x_bastoreR {j : Nat} {o : Option Nat} {i x : Int32} (n : Nat) (hn : i.toNatClampNeg = n) (hd : decode F.2.2.2.2.1 pc = .ok (.bastore, 1)) (ho : o = some j) (hb : im_in (st_hR M) 2 j i) (kk : im_Go z d F (pc + 1) lv st (st_hR (im_u M j n (x &&& 1))) t) : im_Go z d F pc lv (.inl x :: .inl i :: .inr o :: st) (st_hR M) t := by
  subst hn
  exact x_bastore hd ho hb kk
theorem x_alenX {j ln : Nat} {o : Option Nat} (hd : decode F.2.2.2.2.1 pc = .ok (.arraylength, 1)) (ho : o = some j) (hb : h.2.1 j = (1, ln)) (kk : im_Go z d F (pc + 1) lv (.inl (Int32.ofNat ln) :: st) h t) : im_Go z d F pc lv (.inr o :: st) h t := x_alen (Int32.ofNat ln) hd ho (by rw [hb]) (by rw [hb]) kk
theorem x_ifnull_n {off : Int} (tgt : Nat) (hd : decode F.2.2.2.2.1 pc = .ok (.ifnull off, 3)) (ht : (pc : Int) + off = (tgt : Int)) (k : im_Go z d F tgt lv st h t) : im_Go z d F pc lv (.inr none :: st) h t := by
  have := x_ifnull (o := none) (t := t) (u := none) tgt hd ht (fun _ => k) (fun h => absurd rfl h)
  rwa [if_pos rfl] at this
theorem x_ifnull_s {off : Int} {q : Nat} (tgt : Nat) (hd : decode F.2.2.2.2.1 pc = .ok (.ifnull off, 3)) (ht : (pc : Int) + off = (tgt : Int)) (k : im_Go z d F (pc + 3) lv st h t) : im_Go z d F pc lv (.inr (some q) :: st) h t := by
  have := x_ifnull (o := some q) (t := none) (u := t) tgt hd ht (fun h => by cases h) (fun _ => k)
  rwa [if_neg (by simp)] at this
theorem x_ifnonnull_n {off : Int} (tgt : Nat) (hd : decode F.2.2.2.2.1 pc = .ok (.ifnonnull off, 3)) (ht : (pc : Int) + off = (tgt : Int)) (k : im_Go z d F (pc + 3) lv st h t) : im_Go z d F pc lv (.inr none :: st) h t := by
  have := x_ifnonnull (o := none) (t := t) (u := none) tgt hd ht (fun _ => k) (fun h => absurd rfl h)
  rwa [if_pos rfl] at this
theorem x_ifnonnull_s {off : Int} {q : Nat} (tgt : Nat) (hd : decode F.2.2.2.2.1 pc = .ok (.ifnonnull off, 3)) (ht : (pc : Int) + off = (tgt : Int)) (k : im_Go z d F tgt lv st h t) : im_Go z d F pc lv (.inr (some q) :: st) h t := by
  have := x_ifnonnull (o := some q) (t := none) (u := t) tgt hd ht (fun h => by cases h) (fun _ => k)
  rwa [if_neg (by simp)] at this
theorem x_iretC {v : Int32} (hd : decode F.2.2.2.2.1 pc = .ok (.ireturn, 1)) (hr : F.2.2.2.1 = some .int) : im_Go zC_I d F pc lv [.inl v] (st_hC M) (some (v, M)) := fun a ha => by cases ha; exact x_ireturn hd hr _ rfl
theorem x_iretR {v : Int32} (hd : decode F.2.2.2.2.1 pc = .ok (.ireturn, 1)) (hr : F.2.2.2.1 = some .int) : im_Go zR_I d F pc lv [.inl v] (st_hR M) (some (v, M)) := fun a ha => by cases ha; exact x_ireturn hd hr _ rfl
theorem x_zretC {v : Int32} (hd : decode F.2.2.2.2.1 pc = .ok (.ireturn, 1)) (hr : F.2.2.2.1 = some .boolean) (hv : v &&& 1 = v) : im_Go zC_I d F pc lv [.inl v] (st_hC M) (some (v, M)) := fun a ha => by cases ha; exact x_zreturn hd hr hv _ rfl
theorem x_zretR {v : Int32} (hd : decode F.2.2.2.2.1 pc = .ok (.ireturn, 1)) (hr : F.2.2.2.1 = some .boolean) (hv : v &&& 1 = v) : im_Go zR_I d F pc lv [.inl v] (st_hR M) (some (v, M)) := fun a ha => by cases ha; exact x_zreturn hd hr hv _ rfl
theorem x_vretC (hd : decode F.2.2.2.2.1 pc = .ok (.return_, 1)) (hr : F.2.2.2.1 = none) : im_Go zC_V d F pc lv [] (st_hC M) (some M) := fun a ha => by cases ha; exact x_return hd hr _ rfl
theorem x_vretR (hd : decode F.2.2.2.2.1 pc = .ok (.return_, 1)) (hr : F.2.2.2.1 = none) : im_Go zR_V d F pc lv [] (st_hR M) (some M) := fun a ha => by cases ha; exact x_return hd hr _ rfl
theorem x_aretC {v : Option Nat} {n : String} (hd : decode F.2.2.2.2.1 pc = .ok (.areturn, 1)) (hr : F.2.2.2.1 = some (.object n)) : im_Go zC_R d F pc lv [.inr v] (st_hC M) (some (v, M)) := fun a ha => by cases ha; exact x_areturn hd hr _ rfl
theorem im_callCI {tb : Option (Int32 × im_M)} {k : Int32 × im_M → Option α} (hm : im_mf y na F') (ha : as.length = na) (hE : im_Go zC_I d' F' 0 (im_en 0 as) [] h tb) (hrun : im_Run F d pc st h y d' F' as rest) (hal : F'.2.2.1 = false) (kk : ∀ b, tb = some b → im_Go z d F (pc + 3) lv (.inl b.1 :: rest) (st_hC b.2) (k b)) : im_Go z d F pc lv st h (tb.bind k) := im_call hm ha hE hrun (Or.inl hal) kk
theorem im_callCR {tb : Option (Option Nat × im_M)} {k : Option Nat × im_M → Option α} (hm : im_mf y na F') (ha : as.length = na) (hE : im_Go zC_R d' F' 0 (im_en 0 as) [] h tb) (hrun : im_Run F d pc st h y d' F' as rest) (hal : F'.2.2.1 = false) (kk : ∀ b, tb = some b → im_Go z d F (pc + 3) lv (.inr b.1 :: rest) (st_hC b.2) (k b)) : im_Go z d F pc lv st h (tb.bind k) := im_call hm ha hE hrun (Or.inl hal) kk
theorem im_callCV {tb : Option im_M} {k : im_M → Option α} (hm : im_mf y na F') (ha : as.length = na) (hE : im_Go zC_V d' F' 0 (im_en 0 as) [] h tb) (hrun : im_Run F d pc st h y d' F' as rest) (hal : F'.2.2.1 = false) (kk : ∀ b, tb = some b → im_Go z d F (pc + 3) lv rest (st_hC b) (k b)) : im_Go z d F pc lv st h (tb.bind k) := im_call hm ha hE hrun (Or.inl hal) kk
theorem im_callRI {tb : Option (Int32 × im_M)} {k : Int32 × im_M → Option α} (hm : im_mf y na F') (ha : as.length = na) (hE : im_Go zR_I d' F' 0 (im_en 0 as) [] h tb) (hrun : im_Run F d pc st h y d' F' as rest) (hal : F'.2.2.1 = false) (kk : ∀ b, tb = some b → im_Go z d F (pc + 3) lv (.inl b.1 :: rest) (st_hR b.2) (k b)) : im_Go z d F pc lv st h (tb.bind k) := im_call hm ha hE hrun (Or.inl hal) kk
theorem im_callRV {tb : Option im_M} {k : im_M → Option α} (hm : im_mf y na F') (ha : as.length = na) (hE : im_Go zR_V d' F' 0 (im_en 0 as) [] h tb) (hrun : im_Run F d pc st h y d' F' as rest) (hal : F'.2.2.1 = false) (kk : ∀ b, tb = some b → im_Go z d F (pc + 3) lv rest (st_hR b) (k b)) : im_Go z d F pc lv st h (tb.bind k) := im_call hm ha hE hrun (Or.inl hal) kk
theorem im_callK {o : Option Nat} (hm : im_mf y na F') (ha : as.length = na) (hE : im_Go zC_R d' F' 0 (im_en 0 as) [] (st_hC M) (some (o, M))) (hrun : im_Run F d pc st (st_hC M) y d' F' as rest) (hal : F'.2.2.1 = false) (kk : im_Go z d F (pc + 3) lv (.inr o :: rest) (st_hC M) t) : im_Go z d F pc lv st (st_hC M) t := by
  have := im_callCR (k := fun _ => t) hm ha hE hrun hal (fun b hb => by cases hb; exact kk)
  exact this
end XZ
theorem tg_31_n (x : Int32) (hx : x < 0 ∨ 3 ≤ x) (M : im_M) : im_Go zC_R 1 fm_31 0 (im_en 0 [.inr (some 9), .inl x]) [] (st_hC M) (some (none, M)) := by
  intro a ha
  cases ha
  refine tn_31 9 x (st_hC M) (none, st_hC M) ?_
  have h45 : fn_45 x (st_hC M) = some (0, st_hC M) := by
    unfold fn_45
    rcases hx with hx | hx
    · rw [if_pos hx]
    · by_cases h0 : x < 0
      · rw [if_pos h0]
      · rw [if_neg h0, if_pos hx]
  unfold fn_31
  rw [h45]
  rfl
theorem tg_31_s (x : Int32) (h1 : ¬ x < 0) (h2 : ¬ 3 ≤ x) (M : im_M) : im_Go zC_R 1 fm_31 0 (im_en 0 [.inr (some 9), .inl x]) [] (st_hC M) (some (some (12 + 10 * x.toNatClampNeg), M)) := by
  intro a ha
  cases ha
  refine tn_31 9 x (st_hC M) (some (12 + 10 * x.toNatClampNeg), st_hC M) ?_
  have h45 : fn_45 x (st_hC M) = some (1, st_hC M) := by
    unfold fn_45
    rw [if_neg h1, if_neg h2]
  have hr : st_RC 11 x.toNatClampNeg = some (12 + 10 * x.toNatClampNeg) := by
    rcases st_3 (st_ix3 h1 h2) with e | e | e <;> rw [e] <;> rfl
  have hb : im_in (st_hC M) 3 11 x := by
    rw [Int32.lt_iff_toInt_lt] at h1
    rw [Int32.le_iff_toInt_le] at h2
    have e1 : (0 : Int32).toInt = 0 := rfl
    have e2 : (3 : Int32).toInt = 3 := rfl
    refine mk_in (len := 3) rfl ⟨by omega, by omega⟩
  have hb2 : im_in (st_hC M) 3 11 x ∧ ((st_hC M).2.1 11).2 ≤ 32 := ⟨hb, by show (3 : Nat) ≤ 32; decide⟩
  unfold fn_31
  rw [h45]
  simp only [Option.bind_some]
  rw [if_neg (by decide : ¬ (1 : Int32) = 0), if_pos (show (st_hC M).2.1 9 = (0, 4) from rfl), show im_gR (st_hC M) 9 1 = some 11 from rfl]
  simp only [Option.bind_some]
  rw [if_pos hb2]
  show some (st_RC 11 x.toNatClampNeg, st_hC M) = _
  rw [hr]
