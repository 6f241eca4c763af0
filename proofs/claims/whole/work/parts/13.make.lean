/-! the small machine: switches, constructors' instructions -/
theorem im_test {α : Type} {z : α → im_rs} {d : Nat} {F : im_F} {pc : Nat} {lv : im_L} {st : List im_V} {h : im_H} {t u : Option α} {b : Prop} (hdec : Decidable b) (k : b → im_Go z d F pc lv st h t) (k2 : ¬ b → im_Go z d F pc lv st h u) : im_Go z d F pc lv st h (if b then t else u) := by
  intro a ha
  by_cases hb : b
  · rw [if_pos hb] at ha
    exact k hb a ha
  · rw [if_neg hb] at ha
    exact k2 hb a ha
theorem im_swout {x : Int32} (lo : Int) (n : Nat) (hlo : -2147483648 ≤ lo) (hhi : lo + n ≤ 2147483648) (h : ∀ i : Nat, i < n → ¬ x = Int32.ofInt (lo + i)) : x.toInt < lo ∨ lo + n - 1 < x.toInt := by
  by_cases h1 : x.toInt < lo
  · exact Or.inl h1
  · by_cases h2 : lo + n - 1 < x.toInt
    · exact Or.inr h2
    · exfalso
      refine h (x.toInt - lo).toNat (by omega) ?_
      apply Int32.toInt_inj.mp
      rw [Int32.toInt_ofInt_of_le (by omega) (by omega)]
      omega
section XS
variable {α : Type} {z : α → im_rs} {d : Nat} {F : im_F} {pc : Nat} {lv : im_L} {st : List im_V} {h : im_H} {t u : Option α}
theorem x_tabIn {dflt lo hi off : Int} {offs : Array Int} {len : Nat} {x : Int32} (v : Int32) (tgt : Nat) (hd : decode F.2.2.2.2.1 pc = .ok (.tableswitch dflt lo hi offs, len)) (hx : x = v) (h1 : ¬ v.toInt < lo) (h2 : ¬ hi < v.toInt) (ho : offs[(v.toInt - lo).toNat]? = some off) (ht : (pc : Int) + off = (tgt : Int)) (k : im_Go z d F tgt lv st h t) : im_Go z d F pc lv (.inl x :: st) h t := by
  subst hx
  exact im_plain (fun ad p l e R s m args below meth c H locs cells slots Q ls hC hl kk => lv_tableIn hC.1 hC.2.1 hd h1 h2 ho ht (kk ls hl)) k
theorem x_tabOut {dflt lo hi : Int} {offs : Array Int} {len : Nat} {x : Int32} (tgt : Nat) (hd : decode F.2.2.2.2.1 pc = .ok (.tableswitch dflt lo hi offs, len)) (hx : x.toInt < lo ∨ hi < x.toInt) (ht : (pc : Int) + dflt = (tgt : Int)) (k : im_Go z d F tgt lv st h t) : im_Go z d F pc lv (.inl x :: st) h t :=
  im_plain (fun ad p l e R s m args below meth c H locs cells slots Q ls hC hl kk => lv_tableOut hC.1 hC.2.1 hd hx ht (kk ls hl)) k
theorem x_lookup {dflt off : Int} {ps : Array (Int × Int)} {len : Nat} {x : Int32} (tgt : Nat) (hd : decode F.2.2.2.2.1 pc = .ok (.lookupswitch dflt ps, len)) (hp : (ps.toList.zip (ps.toList.drop 1)).all (fun (a, next) => a.1 < next.1) = true) (ho : Op.lookupswitch.offset ps.toList dflt x.toInt = off) (ht : (pc : Int) + off = (tgt : Int)) (k : im_Go z d F tgt lv st h t) : im_Go z d F pc lv (.inl x :: st) h t :=
  im_plain (fun ad p l e R s m args below meth c H locs cells slots Q ls hC hl kk => lv_lookup hC.1 hC.2.1 hd hp ho ht (kk ls hl)) k
theorem x_objinit {idx : Nat} {o : Option Nat} {j : Nat} (hd : decode F.2.2.2.2.1 pc = .ok (.invokespecial idx, 3)) (h1 : Cond.methodLink (nm_R F.1) idx objectInit ∈ im_g) (h2 : Cond.instanceMethod objectInit ∈ im_g) (h3 : Cond.code objectInit ⟨#[0xb1]⟩ 1 none ∈ im_g) (hd0 : 0 < d) (hr : st.length ≤ 8) (ho : o = some j) (k : im_Go z d F (pc + 3) lv st h t) : im_Go z d F pc lv (.inr o :: st) h t := by
  subst ho
  refine im_plain (fun ad p l e R s m args below meth c H locs cells slots Q ls hC hl kk => ?_) k
  refine W.objInit (a := ad j) (rest := st.map (im_v ad)) hC.1 hC.2.1 hC.2.2.2.1 (hC.2.2.2.2.1 _ h1) (hC.2.2.2.2.1 _ h2) (hC.2.2.2.2.1 _ h3) rfl (hl.1.trans hC.2.2.1.symm) rfl hd (by rw [hC.2.2.2.2.2.2.2.2.1]; exact hd0) ?_ (kk ls hl)
  have := lv_room (m := m) (pc := pc) (ls := ls) (rest := []) (st := st.map (im_v ad)) (by rw [im_sum]; exact hr)
  rw [hC.2.2.2.2.2.2.2.2.2.1]
  have h9 : 2 * (F0 m pc ls ((Sum.inr (some j) :: st).map (im_v ad))).monitorRoom = 2 * (F0 m pc ls ([] : List Value)).monitorRoom := rfl
  rw [h9]
  omega
/-- a new cell -/
def im_nw (h : im_H) (kd : Nat × Nat) (sl : Nat) : im_H := ((h.1.1 + 1, h.1.2 + sl), (fun j => if j = h.1.1 then kd else h.2.1 j), (fun j => if j = h.1.1 then (fun _ => none) else h.2.2.1 j), (fun j => if j = h.1.1 then (fun _ => 0) else h.2.2.2 j))
def im_oa (h : im_H) (lv : im_L) (st : List im_V) : Bool := lv.all (fun q => im_ok h.1.1 q.2) && (st.all (im_ok h.1.1) && (List.range h.1.1).all fun j => (List.range 32).all fun k => im_ok h.1.1 (.inr (h.2.2.1 j k)))
theorem im_N_le (ci : Nat) : im_N ci ≤ 32 := by
  unfold im_N
  by_cases hc : ci < 9
  · have : ∀ c, c < 9 → (match nm_cl[c]? with | some q => q.2.2 | none => 0) ≤ 32 := by decide +kernel
    exact this ci hc
  · rw [List.getElem?_eq_none (by simp; omega)]
    exact Nat.zero_le _
theorem im_e_ok {cs : ClassId × ClassId × ClassId} {ad ad' : Nat → Nat} {n : Nat} {kd : Nat × Nat} {r : Nat → Option Nat} {f : Nat → Int32} (hr : ∀ k, k < 32 → im_ok n (.inr (r k)) = true) (ha : ∀ j, j < n → ad' j = ad j) : im_e cs ad' kd r f = im_e cs ad kd r f := by
  have hm : ∀ k, k < 32 → va_re ad' (r k) = va_re ad (r k) := fun k hk => im_ok_v (hr k hk) ha
  have hf : im_fs ad' kd.2 r f = im_fs ad kd.2 r f := by
    unfold im_fs
    apply List.map_congr_left
    intro k hk
    rw [hm k (Nat.lt_of_lt_of_le (List.mem_range.mp hk) (im_N_le _))]
  have hra : im_ra ad' r = im_ra ad r := by
    funext i
    unfold im_ra
    by_cases hi : i < 32
    · rw [if_pos hi, if_pos hi]
      have h9 := hr i hi
      cases hri : r i with
      | none => rfl
      | some j =>
        rw [hri] at h9
        simp only [im_ok, decide_eq_true_eq] at h9
        show some (ad' j) = some (ad j)
        rw [ha j h9]
    · rw [if_neg hi, if_neg hi]
  unfold im_e
  rw [hf, hra]
theorem im_W_nw {cs : ClassId × ClassId × ClassId} {ad ad' : Nat → Nat} {h : im_H} {kd : Nat × Nat} {sl q : Nat} (hok : ∀ j, j < h.1.1 → ∀ k, k < 32 → im_ok h.1.1 (.inr (h.2.2.1 j k)) = true) (ha : ∀ j, j < h.1.1 → ad' j = ad j) (hq : ad' h.1.1 = q) :
    im_W cs ad h ++ [(q, im_e cs ad kd (fun _ => none) (fun _ => 0))] = im_W cs ad' (im_nw h kd sl) := by
  unfold im_W
  show _ = (List.range (h.1.1 + 1)).map _
  rw [List.range_succ, List.map_append]
  congr 1
  · apply List.map_congr_left
    intro j hj
    have hj := List.mem_range.mp hj
    have hne : j ≠ h.1.1 := by omega
    simp only [im_nw, hne, if_false]
    rw [ha j hj, im_e_ok (hok j hj) ha]
  · simp only [List.map_cons, List.map_nil, im_nw, if_true]
    rw [hq, im_e_ok (n := 0) (ad := ad) (ad' := ad') (r := fun _ => none) (fun _ _ => rfl) (fun j hj => absurd hj (Nat.not_lt_zero _))]
theorem im_alloc {pc' sl : Nat} {st0 : List im_V} {kd : Nat × Nat} (hal : F.2.2.1 = true) (hok : im_oa h lv st0 = true)
    (hW : ∀ (D : va_G) (cs : ClassId × ClassId × ClassId) (A : Nat → Prop) (ad : Nat → Nat) (p : Program) (l : Launch) (e : Env) (R : Room) (s : State) (m : MethodId) (args : Array Value) (below : List Frame) (meth : Method) (c : Code) (H : Heap) (locs : List Loc) (cells slots : Nat) (Q : State → Prop) (ls : Array Slot), im_Cx p R s m args meth c d F → im_St D cs s A H locs ad h → cells + 1 ≤ R.cells → slots + sl ≤ R.slots →
      (∀ q H', va_P D nm_cl (im_W cs ad h ++ [(q, im_e cs ad kd (fun _ => none) (fun _ => 0))]) H' → va_D A (im_W cs ad h ++ [(q, im_e cs ad kd (fun _ => none) (fun _ => 0))]) → va_S A s.heap H' locs → W p l e R s m args below meth c H' locs (cells + 1) (slots + sl) Q (F0 m pc' ls (.ref q :: st0.map (im_v ad)))) → W p l e R s m args below meth c H locs cells slots Q (F0 m pc ls (st.map (im_v ad))))
    (k : im_Go z d F pc' lv (.inr (some h.1.1) :: st0) (im_nw h kd sl) t) : im_Go z d F pc lv st h t := by
  intro a ha l D cs
  obtain ⟨⟨m1, m2, m3⟩, k2⟩ := k a ha l D cs
  have m1 : h.1.1 + 1 ≤ (z a).2.1.1 := m1
  have m2 : h.1.2 + sl ≤ (z a).2.1.2 := m2
  refine ⟨⟨by omega, by omega, fun hf => by rw [hal] at hf; cases hf⟩, ?_⟩
  intro p e R s m args below meth c H locs cells slots mc ms Qc free ad A ls hC hS hl h1 h2 h3 h4 h5 h6
  simp only [im_oa, Bool.and_eq_true] at hok
  obtain ⟨o1, o2, o3⟩ := hok
  have o3' : ∀ j, j < h.1.1 → ∀ k, k < 32 → im_ok h.1.1 (.inr (h.2.2.1 j k)) = true := fun j hj k hk => List.all_eq_true.mp (List.all_eq_true.mp o3 j (List.mem_range.mpr hj)) k (List.mem_range.mpr hk)
  refine hW D cs A ad p l e R s m args below meth c H locs cells slots _ ls hC hS (by omega) (by omega) (fun q H' a1 a2 a3 => ?_)
  have hlt : ∀ j, j < h.1.1 → va_up ad h.1.1 q j = ad j := fun j hj => by simp [va_up, Nat.ne_of_lt hj]
  have hqq : va_up ad h.1.1 q h.1.1 = q := by simp [va_up]
  rw [im_W_nw (sl := sl) o3' hlt hqq] at a1 a2
  have e1 : im_lv (va_up ad h.1.1 q) lv = im_lv ad lv := by
    unfold im_lv
    apply List.map_congr_left
    intro x hx
    rw [im_ok_v (List.all_eq_true.mp o1 x hx) hlt]
  have e2 : (Value.ref q :: st0.map (im_v ad)) = (Sum.inr (some h.1.1) :: st0 : List im_V).map (im_v (va_up ad h.1.1 q)) := by
    rw [List.map_cons]
    congr 1
    · show Value.ref q = Value.ref (va_up ad h.1.1 q h.1.1)
      rw [hqq]
    · apply List.map_congr_left
      intro x hx
      rw [im_ok_v (List.all_eq_true.mp o2 x hx) hlt]
  rw [e2]
  refine k2 p e R s m args below meth c H' locs (cells + 1) (slots + sl) mc ms Qc free (va_up ad h.1.1 q) A ls hC ⟨hS.1, a1, a2, a3, hS.2.2.2.2.1, fun j hj => ?_⟩ (by rw [e1]; exact hl) ?_ ?_ h3 h4 h5 (fun ad2 H2 l2 t g1 g2 g3 g4 => h6 ad2 H2 l2 t g1 g2 (fun j hj => ?_) g4)
  · have hj : h.1.1 + 1 ≤ j := hj
    simp only [im_nw]
    rw [if_neg (by omega)]
    exact hS.2.2.2.2.2 j (by omega)
  · show cells + 1 + ((z a).2.1.1 - (h.1.1 + 1)) = mc
    omega
  · show slots + sl + ((z a).2.1.2 - (h.1.2 + sl)) = ms
    omega
  · rcases hj with hj | hj
    · rw [g3 j (Or.inl (Nat.lt_succ_of_lt hj)), hlt j hj]
    · exfalso
      have hj : (z a).2.1 = h.1 := hj
      have := congrArg Prod.fst hj
      omega
theorem x_newI {n : Int32} (nn : Nat) (hd : decode F.2.2.2.2.1 pc = .ok (.newarray .int, 2)) (harr : Cond.arrayClass .int ∈ im_g) (hal : F.2.2.1 = true) (hn : ¬ n < 0) (hN : n.toNatClampNeg = nn) (hb : nn ≤ 1000) (hok : im_oa h lv st = true) (k : im_Go z d F (pc + 2) lv (.inr (some h.1.1) :: st) (im_nw h (1, nn) nn) t) : im_Go z d F pc lv (.inl n :: st) h t := by
  refine im_alloc hal hok (fun D cs A ad p l e R s m args below meth c H locs cells slots Q ls hC hS hc1 hc2 kk => ?_) k
  refine va_newa (ty := .int) (a0 := (nn, .inl (fun _ => 0))) hC.1 hC.2.1 (atype := .int) (hC.2.2.2.2.1 _ harr) rfl hS.1 hS.2.1 hS.2.2.1 hS.2.2.2.1 hS.2.2.2.2.1 (fun cA => rfl) hn hN (Nat.le_trans (Nat.mul_le_mul hb (Nat.le_refl _)) (by decide)) hc1 hc2 hd (fun q cA H1 b1 b2 b3 b4 => ?_)
  have r1 := (b1.2 3 (cA, .int) rfl).2
  have r2 := (hS.1.2 0 (cs.1, .int) rfl).2
  have hcA : cA = cs.1 := Option.some.inj (r1.symm.trans r2)
  subst hcA
  exact kk q H1 b2 b3 b4
theorem x_newZ {n : Int32} (nn : Nat) (hd : decode F.2.2.2.2.1 pc = .ok (.newarray .boolean, 2)) (harr : Cond.arrayClass .boolean ∈ im_g) (hal : F.2.2.1 = true) (hn : ¬ n < 0) (hN : n.toNatClampNeg = nn) (hb : nn ≤ 1000) (hok : im_oa h lv st = true) (k : im_Go z d F (pc + 2) lv (.inr (some h.1.1) :: st) (im_nw h (2, nn) nn) t) : im_Go z d F pc lv (.inl n :: st) h t := by
  refine im_alloc hal hok (fun D cs A ad p l e R s m args below meth c H locs cells slots Q ls hC hS hc1 hc2 kk => ?_) k
  refine va_newa (ty := .boolean) (a0 := (nn, .inl (fun _ => 0))) hC.1 hC.2.1 (atype := .boolean) (hC.2.2.2.2.1 _ harr) rfl hS.1 hS.2.1 hS.2.2.1 hS.2.2.2.1 hS.2.2.2.2.1 (fun cA => rfl) hn hN (Nat.le_trans (Nat.mul_le_mul hb (Nat.le_refl _)) (by decide)) hc1 hc2 hd (fun q cA H1 b1 b2 b3 b4 => ?_)
  have r1 := (b1.2 3 (cA, .boolean) rfl).2
  have r2 := (hS.1.2 1 (cs.2.1, .boolean) rfl).2
  have hcA : cA = cs.2.1 := Option.some.inj (r1.symm.trans r2)
  subst hcA
  exact kk q H1 b2 b3 b4
theorem x_newA {n : Int32} {idx : Nat} (nn : Nat) (hd : decode F.2.2.2.2.1 pc = .ok (.anewarray idx, 3)) (hcl : Cond.classLink (nm_R F.1) idx (nm_R 5) ∈ im_g) (hal : F.2.2.1 = true) (hn : ¬ n < 0) (hN : n.toNatClampNeg = nn) (hb : nn ≤ 32) (hok : im_oa h lv st = true) (k : im_Go z d F (pc + 3) lv (.inr (some h.1.1) :: st) (im_nw h (3, nn) nn) t) : im_Go z d F pc lv (.inl n :: st) h t := by
  refine im_alloc hal hok (fun D cs A ad p l e R s m args below meth c H locs cells slots Q ls hC hS hc1 hc2 kk => ?_) k
  refine va_newq hC.1 hC.2.1 hC.2.2.2.1 (hC.2.2.2.2.1 _ hcl) hC.2.2.2.2.2.2.2.2.2.2.1 hS.1 hS.2.1 hS.2.2.1 hS.2.2.2.1 hS.2.2.2.2.1 hn hN (by omega) hc1 hc2 hd (fun q cA H1 b1 b2 b3 b4 => ?_)
  obtain ⟨kA, comp, -, -, -, r1⟩ := (b1.2 3 (cA, .object (nm_R 5)) rfl).2
  obtain ⟨kA2, comp2, -, -, -, r2⟩ := (hS.1.2 2 (cs.2.2, .object (nm_R 5)) rfl).2
  have hcA : cA = cs.2.2 := Option.some.inj (r1.symm.trans r2)
  subst hcA
  have hf : im_ra ad (fun _ => none) = fun _ => none := by
    funext i
    unfold im_ra
    split <;> rfl
  refine kk q H1 ?_ ?_ b4
  · show va_P D nm_cl (im_W cs ad h ++ [(q, .inl (cs.2.2, nn, .inr (.inr (.inr (.inr (im_ra ad (fun _ => none)))))))]) H1
    rw [hf]
    exact b2
  · show va_D A (im_W cs ad h ++ [(q, .inl (cs.2.2, nn, .inr (.inr (.inr (.inr (im_ra ad (fun _ => none)))))))])
    rw [hf]
    exact b3
theorem x_new {idx ci N : Nat} {T : u_T} (hd : decode F.2.2.2.2.1 pc = .ok (.new idx, 3)) (hcf : im_cf ci T N) (hty : ∀ j, j < N → im_i ci j = true ∨ im_r ci j = true) (hcl : Cond.classLink (nm_R F.1) idx (nm_R ci) ∈ im_g) (hin : Cond.instantiable (nm_R ci) N ∈ im_g) (hini : Cond.initialized (nm_R ci) ∈ im_g) (hal : F.2.2.1 = true) (hok : im_oa h lv st = true) (k : im_Go z d F (pc + 3) lv (.inr (some h.1.1) :: st) (im_nw h (0, ci) N) t) : im_Go z d F pc lv st h t := by
  refine im_alloc hal hok (fun D cs A ad p l e R s m args below meth c H locs cells slots Q ls hC hS hc1 hc2 kk => ?_) k
  refine va_new (c0 := c) (fs := im_fs ad ci (fun _ => none) (fun _ => 0)) hC.1 hC.2.1 hC.2.2.2.2.1 hcf.2.1 (nm_ty ci) hcf.2.2.1 hC.2.2.2.1 (hC.2.2.2.2.1 _ hcl) (hC.2.2.2.2.1 _ hin) (hC.2.2.2.2.1 _ hini) hS.1 hS.2.1 hS.2.2.1 hS.2.2.2.1 hS.2.2.2.2.1 hcf.1 (fun j hj => ?_) hc1 hc2 hd (fun q H1 b2 b3 b4 => kk q H1 b2 b3 b4)
  unfold vp_V
  rw [List.getD_eq_getElem?_getD, im_fs_at (by rw [im_N_of hcf]; exact hj)]
  rcases hty j hj with hi | hi
  · rw [if_pos hi, im_ity hi]
    rfl
  · rw [im_ri hi]
    unfold im_r at hi
    split at hi
    · rename_i hq; rw [hq]; rfl
    · rename_i hq; rw [hq]; rfl
    · cases hi
theorem x_aastore {j w : Nat} {o q : Option Nat} {i : Int32} (hd : decode F.2.2.2.2.1 pc = .ok (.aastore, 1)) (ho : o = some j) (hq : q = some w) (hKw : h.2.1 w = (0, 5)) (hb : im_in h 3 j i ∧ (h.2.1 j).2 ≤ 32) (kk : im_Go z d F (pc + 1) lv st (im_pR h j i.toNatClampNeg (some w)) t) : im_Go z d F pc lv (.inr q :: .inl i :: .inr o :: st) h t := by
  subst ho
  subst hq
  refine im_write (h' := im_pR h j i.toNatClampNeg (some w)) rfl (fun D cs A ad p l e R s m args below meth c H locs cells slots Q ls hC hS k9 => ?_) kk
  obtain ⟨hb, hb2⟩ := hb
  have he := im_in_W hS hb.1 (by decide)
  have he2 : ∀ r, im_e cs ad (h.2.1 j) r (h.2.2.2 j) = .inl (cs.2.2, (h.2.1 j).2, .inr (.inr (.inr (.inr (im_ra ad r))))) := by
    intro r
    unfold im_e
    rw [hb.1]
    rfl
  rw [he2] at he
  have hw := im_in_W hS (j := w) (kd := 0) (by rw [hKw]) (by decide)
  rw [hKw] at hw
  have hi : i.toNatClampNeg < 32 := by
    have := hb.2.2
    have := hb.2.1
    show i.toInt.toNat < 32
    omega
  refine va_astq (r := (nm_R 5, nm_T5, 11)) hC.1 hC.2.1 hS.1 hS.2.1 hS.2.2.1 hS.2.2.2.1 j 2 w 5 he rfl hw rfl (im_vpin hb) hd (fun H1 locs1 a1 a2 a3 => k9 H1 locs1 ?_)
  have hu : va_up (im_ra ad (h.2.2.1 j)) i.toNatClampNeg (some (ad w)) = im_ra ad (im_u h.2.2.1 j i.toNatClampNeg (some w) j) := by
    funext x
    unfold va_up im_ra im_u
    by_cases hx : x = i.toNatClampNeg
    · subst hx
      simp [hi]
    · simp [hx]
  have hws : (im_W cs ad h).set j (ad j, .inl (cs.2.2, (h.2.1 j).2, .inr (.inr (.inr (.inr (va_up (im_ra ad (h.2.2.1 j)) i.toNatClampNeg (some (ad w)))))))) = im_W cs ad (im_pR h j i.toNatClampNeg (some w)) := by
    refine im_Wset rfl ?_ (fun i hi => ⟨rfl, im_uo _ _ _ _ hi, rfl⟩)
    show im_e cs ad (h.2.1 j) (im_u h.2.2.1 j i.toNatClampNeg (some w) j) (h.2.2.2 j) = _
    rw [he2, hu]
  rw [hws] at a1 a2
  exact ⟨hS.1, a1, a2, a3, hS.2.2.2.2⟩
end XS
