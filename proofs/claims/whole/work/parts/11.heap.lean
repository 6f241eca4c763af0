/-! the small machine: fields, arrays, answers -/
def im_cf (ci : Nat) (T : u_T) (N : Nat) : Prop := nm_cl[ci]? = some (nm_R ci, T, N) ∧ (∀ w ∈ u_ws (nm_R ci) T N, w ∈ im_g) ∧ (∀ k, k < N → parseFieldDescriptor (T k).2.2.1 = some (nm_ty ci k)) ∧ (∀ a, a < N → ∀ b, b < N → a ≠ b → (T a).2.1 ≠ (T b).2.1) ∧ N ≤ 32
/-- field idx of the class own's file is field k of class ci -/
def im_fl (own idx ci k : Nat) (fin : Bool) : Prop := ∃ T N, im_cf ci T N ∧ k < N ∧ Cond.fieldLink (nm_R own) idx (T k).1 (T k).2.1 (T k).2.2.1 ∈ im_g ∧ (T k).2.2.2 = fin ∧ (T k).1 = nm_R ci
def im_r (ci k : Nat) : Bool := match nm_ty ci k with
  | .object _ => true
  | .array _ => true
  | _ => false
abbrev im_K (h : im_H) (j : Nat) : Nat × Nat := h.2.1 j
abbrev im_gI (h : im_H) (j k : Nat) : Int32 := h.2.2.2 j k
abbrev im_gR (h : im_H) (j k : Nat) : Option Nat := h.2.2.1 j k
def im_pI (h : im_H) (j k : Nat) (x : Int32) : im_H := (h.1, h.2.1, h.2.2.1, im_u h.2.2.2 j k x)
def im_pR (h : im_H) (j k : Nat) (x : Option Nat) : im_H := (h.1, h.2.1, im_u h.2.2.1 j k x, h.2.2.2)
/-- place i lies in the array j of kind kd -/
abbrev im_in (h : im_H) (kd j : Nat) (i : Int32) : Prop := (h.2.1 j).1 = kd ∧ 0 ≤ i.toInt ∧ i.toInt < (h.2.1 j).2
theorem im_Wset {cs : ClassId × ClassId × ClassId} {ad : Nat → Nat} {h h' : im_H} {j : Nat} {e : va_E} (h1 : h'.1 = h.1) (hj : im_e cs ad (h'.2.1 j) (h'.2.2.1 j) (h'.2.2.2 j) = e)
    (ho : ∀ i, i ≠ j → h'.2.1 i = h.2.1 i ∧ h'.2.2.1 i = h.2.2.1 i ∧ h'.2.2.2 i = h.2.2.2 i) : (im_W cs ad h).set j (ad j, e) = im_W cs ad h' := by
  apply List.ext_getElem?
  intro i
  by_cases hi : i < h.1.1
  · have hi' : i < h'.1.1 := by rw [h1]; exact hi
    rw [im_Wat hi']
    by_cases hij : i = j
    · subst hij
      rw [List.getElem?_set_self (by simpa [im_W] using hi), hj]
    · rw [List.getElem?_set_ne (fun q => hij q.symm), im_Wat hi, (ho i hij).1, (ho i hij).2.1, (ho i hij).2.2]
  · rw [List.getElem?_eq_none (by simp [im_W]; omega), List.getElem?_eq_none (by simp [im_W, h1]; omega)]
theorem im_uo {α : Type} (f : Nat → Nat → α) (j k : Nat) (x : α) {i : Nat} (hi : i ≠ j) : im_u f j k x i = f i := by
  funext b
  simp [im_u, hi]
theorem im_us (f : Nat → Nat → Int32) (j k : Nat) (x : Int32) : im_u f j k x j = upd (f j) k x := by
  funext b
  simp [im_u, upd]
theorem im_N_of {ci : Nat} {T : u_T} {N : Nat} (h : im_cf ci T N) : im_N ci = N := by
  unfold im_N
  rw [h.1]
theorem im_fs_at {ad : Nat → Nat} {ci : Nat} {r : Nat → Option Nat} {f : Nat → Int32} {k : Nat} (hk : k < im_N ci) : (im_fs ad ci r f)[k]? = some (if im_i ci k = true then .int (f k) else va_re ad (r k)) := by
  simp [im_fs, hk]
theorem im_fs_I {ad : Nat → Nat} {ci : Nat} {r : Nat → Option Nat} {f : Nat → Int32} {k : Nat} {x : Int32} (hi : im_i ci k = true) : (im_fs ad ci r f).set k (.int x) = im_fs ad ci r (upd f k x) := by
  apply List.ext_getElem?
  intro i
  by_cases hl : i < im_N ci
  · rw [im_fs_at hl]
    by_cases hik : i = k
    · subst hik
      rw [List.getElem?_set_self (by simpa [im_fs] using hl)]
      simp [hi, upd]
    · rw [List.getElem?_set_ne (fun q => hik q.symm), im_fs_at hl]
      simp [upd, hik]
  · rw [List.getElem?_eq_none (by simp [im_fs]; omega), List.getElem?_eq_none (by simp [im_fs]; omega)]
theorem im_fs_R {ad : Nat → Nat} {ci : Nat} {r r' : Nat → Option Nat} {f : Nat → Int32} {k : Nat} {x : Option Nat} (hi : im_i ci k = false) (hs : r' k = x) (ho : ∀ i, i ≠ k → r' i = r i) : (im_fs ad ci r f).set k (va_re ad x) = im_fs ad ci r' f := by
  apply List.ext_getElem?
  intro i
  by_cases hl : i < im_N ci
  · rw [im_fs_at hl]
    by_cases hik : i = k
    · subst hik
      rw [List.getElem?_set_self (by simpa [im_fs] using hl)]
      simp [hi, hs]
    · rw [List.getElem?_set_ne (fun q => hik q.symm), im_fs_at hl, ho i hik]
  · rw [List.getElem?_eq_none (by simp [im_fs]; omega), List.getElem?_eq_none (by simp [im_fs]; omega)]
theorem im_ri {ci k : Nat} (h : im_r ci k = true) : im_i ci k = false := by
  unfold im_r at h
  unfold im_i
  split at h <;> simp_all
theorem im_fit {ci k : Nat} (h : im_r ci k = true) (ad : Nat → Nat) (o : Option Nat) : narrow (nm_ty ci k) (va_re ad o) = va_re ad o ∧ fits (nm_ty ci k) (va_re ad o) = true := by
  unfold im_r at h
  split at h
  · rename_i hq; rw [hq]; cases o <;> exact ⟨rfl, rfl⟩
  · rename_i hq; rw [hq]; cases o <;> exact ⟨rfl, rfl⟩
  · cases h
theorem im_ity {ci k : Nat} (h : im_i ci k = true) : nm_ty ci k = .int := by
  unfold im_i at h
  split at h
  · assumption
  · cases h
theorem im_vpin {h : im_H} {kd j : Nat} {i : Int32} (hb : im_in h kd j i) : vp_in i (h.2.1 j).2 := vp_in_iff.mpr hb.2
section XH
variable {α : Type} {z : α → im_rs} {d : Nat} {F : im_F} {pc : Nat} {lv : im_L} {st : List im_V} {h : im_H} {t u : Option α}
theorem im_in_W {D : va_G} {cs : ClassId × ClassId × ClassId} {s : State} {A : Nat → Prop} {H : Heap} {locs : List Loc} {ad : Nat → Nat} (hS : im_St D cs s A H locs ad h) {j kd : Nat} (hj : (h.2.1 j).1 = kd) (h9 : kd ≠ 9) : (im_W cs ad h)[j]? = some (ad j, im_e cs ad (h.2.1 j) (h.2.2.1 j) (h.2.2.2 j)) := by
  refine im_Wat ?_
  by_cases hl : j < h.1.1
  · exact hl
  · exact absurd (hj.symm.trans (hS.2.2.2.2.2 j (Nat.le_of_not_lt hl))) h9
/-- a read of the heap -/
theorem im_read {pc' : Nat} {st' : List im_V}
    (hW : ∀ (D : va_G) (cs : ClassId × ClassId × ClassId) (A : Nat → Prop) (ad : Nat → Nat) (p : Program) (l : Launch) (e : Env) (R : Room) (s : State) (m : MethodId) (args : Array Value) (below : List Frame) (meth : Method) (c : Code) (H : Heap) (locs : List Loc) (cells slots : Nat) (Q : State → Prop) (ls : Array Slot), im_Cx p R s m args meth c d F → im_St D cs s A H locs ad h →
      W p l e R s m args below meth c H locs cells slots Q (F0 m pc' ls (st'.map (im_v ad))) → W p l e R s m args below meth c H locs cells slots Q (F0 m pc ls (st.map (im_v ad))))
    (k : im_Go z d F pc' lv st' h t) : im_Go z d F pc lv st h t := by
  intro a ha l D cs
  obtain ⟨k1, k2⟩ := k a ha l D cs
  refine ⟨k1, ?_⟩
  intro p e R s m args below meth c H locs cells slots mc ms Qc free ad A ls hC hS hl h1 h2 h3 h4 h5 h6
  exact hW D cs A ad p l e R s m args below meth c H locs cells slots _ ls hC hS (k2 p e R s m args below meth c H locs cells slots mc ms Qc free ad A ls hC hS hl h1 h2 h3 h4 h5 h6)
/-- a write into the heap that makes no cell -/
theorem im_write {pc' : Nat} {st' : List im_V} {h' : im_H} (hn : h'.1 = h.1)
    (hW : ∀ (D : va_G) (cs : ClassId × ClassId × ClassId) (A : Nat → Prop) (ad : Nat → Nat) (p : Program) (l : Launch) (e : Env) (R : Room) (s : State) (m : MethodId) (args : Array Value) (below : List Frame) (meth : Method) (c : Code) (H : Heap) (locs : List Loc) (cells slots : Nat) (Q : State → Prop) (ls : Array Slot), im_Cx p R s m args meth c d F → im_St D cs s A H locs ad h →
      (∀ H' locs', im_St D cs s A H' locs' ad h' → W p l e R s m args below meth c H' locs' cells slots Q (F0 m pc' ls (st'.map (im_v ad)))) → W p l e R s m args below meth c H locs cells slots Q (F0 m pc ls (st.map (im_v ad))))
    (k : im_Go z d F pc' lv st' h' t) : im_Go z d F pc lv st h t := by
  intro a ha l D cs
  obtain ⟨k1, k2⟩ := k a ha l D cs
  rw [hn] at k1 k2
  refine ⟨k1, ?_⟩
  intro p e R s m args below meth c H locs cells slots mc ms Qc free ad A ls hC hS hl h1 h2 h3 h4 h5 h6
  exact hW D cs A ad p l e R s m args below meth c H locs cells slots _ ls hC hS (fun H' locs' hS' => k2 p e R s m args below meth c H' locs' cells slots mc ms Qc free ad A ls hC hS' hl h1 h2 h3 h4 h5 (fun ad' H2 l2 t e1 e2 e3 => h6 ad' H2 l2 t e1 e2 (fun j hj => e3 j (by rw [hn]; exact hj))))
theorem x_getI {idx j ci k : Nat} {o : Option Nat} {fin : Bool} (hd : decode F.2.2.2.2.1 pc = .ok (.getfield idx, 3)) (hf : im_fl F.1 idx ci k fin) (hi : im_i ci k = true) (ho : o = some j) (hK : h.2.1 j = (0, ci)) (kk : im_Go z d F (pc + 3) lv (.inl (im_gI h j k) :: st) h t) : im_Go z d F pc lv (.inr o :: st) h t := by
  subst ho
  refine im_read (fun D cs A ad p l e R s m args below meth c H locs cells slots Q ls hC hS k9 => ?_) kk
  obtain ⟨T, N, hc, hk, hl, -, -⟩ := hf
  have he := im_in_W hS (j := j) (kd := 0) (by rw [hK]) (by decide)
  rw [hK] at he
  have hv : (im_fs ad ci (h.2.2.1 j) (h.2.2.2 j))[k]? = some (.int (h.2.2.2 j k)) := by
    rw [im_fs_at (by rw [im_N_of hc]; exact hk), if_pos hi]
  exact va_get hC.1 hC.2.1 hC.2.2.2.2.1 hc.2.1 hC.2.2.2.1 hS.1 hS.2.1 j he hc.1 k hk (hC.2.2.2.2.1 _ hl) (fun _ h9 => h9) hv hd k9
theorem x_getR {idx j ci k : Nat} {o : Option Nat} {fin : Bool} (hd : decode F.2.2.2.2.1 pc = .ok (.getfield idx, 3)) (hf : im_fl F.1 idx ci k fin) (hi : im_r ci k = true) (ho : o = some j) (hK : h.2.1 j = (0, ci)) (kk : im_Go z d F (pc + 3) lv (.inr (im_gR h j k) :: st) h t) : im_Go z d F pc lv (.inr o :: st) h t := by
  subst ho
  refine im_read (fun D cs A ad p l e R s m args below meth c H locs cells slots Q ls hC hS k9 => ?_) kk
  obtain ⟨T, N, hc, hk, hl, -, -⟩ := hf
  have he := im_in_W hS (j := j) (kd := 0) (by rw [hK]) (by decide)
  rw [hK] at he
  have hv : (im_fs ad ci (h.2.2.1 j) (h.2.2.2 j))[k]? = some (va_re ad (h.2.2.1 j k)) := by
    rw [im_fs_at (by rw [im_N_of hc]; exact hk), im_ri hi]
    simp
  exact va_get hC.1 hC.2.1 hC.2.2.2.2.1 hc.2.1 hC.2.2.2.1 hS.1 hS.2.1 j he hc.1 k hk (hC.2.2.2.2.1 _ hl) (fun _ h9 => h9) hv hd k9
theorem x_putI {idx j ci k : Nat} {o : Option Nat} {x : Int32} (hd : decode F.2.2.2.2.1 pc = .ok (.putfield idx, 3)) (hf : im_fl F.1 idx ci k false) (hi : im_i ci k = true) (ho : o = some j) (hK : h.2.1 j = (0, ci)) (kk : im_Go z d F (pc + 3) lv st (im_pI h j k x) t) : im_Go z d F pc lv (.inl x :: .inr o :: st) h t := by
  subst ho
  refine im_write (h' := im_pI h j k x) rfl (fun D cs A ad p l e R s m args below meth c H locs cells slots Q ls hC hS k9 => ?_) kk
  obtain ⟨T, N, hc, hk, hl, hfin, -⟩ := hf
  have he := im_in_W hS (j := j) (kd := 0) (by rw [hK]) (by decide)
  rw [hK] at he
  have hlen : k < (im_fs ad ci (h.2.2.1 j) (h.2.2.2 j)).length := by simp [im_fs, im_N_of hc, hk]
  have hty : parseFieldDescriptor (T k).2.2.1 = some .int := by rw [hc.2.2.1 k hk, im_ity hi]
  refine va_put (v := .int x) (ty := .int) hC.1 hC.2.1 hC.2.2.2.2.1 hc.2.1 (nm_ty ci) hc.2.2.1 hc.2.2.2.1 hC.2.2.2.1 hS.1 hS.2.1 hS.2.2.1 hS.2.2.2.1 j he hc.1 k hk (hC.2.2.2.2.1 _ hl) (fun _ h9 => h9) hfin hty rfl rfl hlen hd (fun H1 locs1 a1 a2 a3 => k9 H1 locs1 ?_)
  have hw : (im_W cs ad h).set j (ad j, .inr (ci, (im_fs ad ci (h.2.2.1 j) (h.2.2.2 j)).set k (.int x))) = im_W cs ad (im_pI h j k x) := by
    refine im_Wset rfl ?_ (fun i hi => ⟨rfl, rfl, im_uo _ _ _ _ hi⟩)
    show im_e cs ad (h.2.1 j) (h.2.2.1 j) (im_u h.2.2.2 j k x j) = _
    rw [hK, im_us, im_fs_I hi]
    rfl
  rw [hw] at a1 a2
  exact ⟨hS.1, a1, a2, a3, hS.2.2.2.2⟩
theorem x_putFI {idx j ci k : Nat} {o : Option Nat} {x : Int32} (hd : decode F.2.2.2.2.1 pc = .ok (.putfield idx, 3)) (hf : im_fl F.1 idx ci k true) (hini : F.2.1 = true) (hown : F.1 = ci) (hi : im_i ci k = true) (ho : o = some j) (hK : h.2.1 j = (0, ci)) (kk : im_Go z d F (pc + 3) lv st (im_pI h j k x) t) : im_Go z d F pc lv (.inl x :: .inr o :: st) h t := by
  subst ho
  refine im_write (h' := im_pI h j k x) rfl (fun D cs A ad p l e R s m args below meth c H locs cells slots Q ls hC hS k9 => ?_) kk
  obtain ⟨T, N, hc, hk, hl, hfin, hdc⟩ := hf
  have he := im_in_W hS (j := j) (kd := 0) (by rw [hK]) (by decide)
  rw [hK] at he
  have hlen : k < (im_fs ad ci (h.2.2.1 j) (h.2.2.2 j)).length := by simp [im_fs, im_N_of hc, hk]
  have hty : parseFieldDescriptor (T k).2.2.1 = some .int := by rw [hc.2.2.1 k hk, im_ity hi]
  refine va_putF (v := .int x) (ty := .int) hC.1 hC.2.1 hC.2.2.2.2.1 hc.2.1 (nm_ty ci) hc.2.2.1 hc.2.2.2.1 hC.2.2.2.1 hS.1 hS.2.1 hS.2.2.1 hS.2.2.2.1 j he hc.1 k hk (hC.2.2.2.2.1 _ hl) (fun _ h9 => h9) hfin (hC.2.2.2.2.2.2.2.1 hini) (by rw [hdc, hown]) hty rfl rfl hlen hd (fun H1 locs1 a1 a2 a3 => k9 H1 locs1 ?_)
  have hw : (im_W cs ad h).set j (ad j, .inr (ci, (im_fs ad ci (h.2.2.1 j) (h.2.2.2 j)).set k (.int x))) = im_W cs ad (im_pI h j k x) := by
    refine im_Wset rfl ?_ (fun i hi => ⟨rfl, rfl, im_uo _ _ _ _ hi⟩)
    show im_e cs ad (h.2.1 j) (h.2.2.1 j) (im_u h.2.2.2 j k x j) = _
    rw [hK, im_us, im_fs_I hi]
    rfl
  rw [hw] at a1 a2
  exact ⟨hS.1, a1, a2, a3, hS.2.2.2.2⟩
theorem x_putFR {idx j ci k : Nat} {o x : Option Nat} (hd : decode F.2.2.2.2.1 pc = .ok (.putfield idx, 3)) (hf : im_fl F.1 idx ci k true) (hini : F.2.1 = true) (hown : F.1 = ci) (hi : im_r ci k = true) (ho : o = some j) (hK : h.2.1 j = (0, ci)) (kk : im_Go z d F (pc + 3) lv st (im_pR h j k x) t) : im_Go z d F pc lv (.inr x :: .inr o :: st) h t := by
  subst ho
  refine im_write (h' := im_pR h j k x) rfl (fun D cs A ad p l e R s m args below meth c H locs cells slots Q ls hC hS k9 => ?_) kk
  obtain ⟨T, N, hc, hk, hl, hfin, hdc⟩ := hf
  have he := im_in_W hS (j := j) (kd := 0) (by rw [hK]) (by decide)
  rw [hK] at he
  have hlen : k < (im_fs ad ci (h.2.2.1 j) (h.2.2.2 j)).length := by simp [im_fs, im_N_of hc, hk]
  have hty : parseFieldDescriptor (T k).2.2.1 = some (nm_ty ci k) := hc.2.2.1 k hk
  refine va_putF (v := va_re ad x) (ty := nm_ty ci k) hC.1 hC.2.1 hC.2.2.2.2.1 hc.2.1 (nm_ty ci) hc.2.2.1 hc.2.2.2.1 hC.2.2.2.1 hS.1 hS.2.1 hS.2.2.1 hS.2.2.2.1 j he hc.1 k hk (hC.2.2.2.2.1 _ hl) (fun _ h9 => h9) hfin (hC.2.2.2.2.2.2.2.1 hini) (by rw [hdc, hown]) hty (im_fit hi ad x).1 (im_fit hi ad x).2 hlen hd (fun H1 locs1 a1 a2 a3 => k9 H1 locs1 ?_)
  have hw : (im_W cs ad h).set j (ad j, .inr (ci, (im_fs ad ci (h.2.2.1 j) (h.2.2.2 j)).set k (va_re ad x))) = im_W cs ad (im_pR h j k x) := by
    refine im_Wset rfl ?_ (fun i hi => ⟨rfl, im_uo _ _ _ _ hi, rfl⟩)
    show im_e cs ad (h.2.1 j) (im_u h.2.2.1 j k x j) (h.2.2.2 j) = _
    rw [hK, im_fs_R (r' := im_u h.2.2.1 j k x j) (im_ri hi) (by simp [im_u]) (fun i hi => by simp [im_u, hi])]
    rfl
  rw [hw] at a1 a2
  exact ⟨hS.1, a1, a2, a3, hS.2.2.2.2⟩
theorem x_iaload {j : Nat} {o : Option Nat} {i : Int32} (hd : decode F.2.2.2.2.1 pc = .ok (.iaload, 1)) (ho : o = some j) (hb : im_in h 1 j i) (kk : im_Go z d F (pc + 1) lv (.inl (im_gI h j i.toNatClampNeg) :: st) h t) : im_Go z d F pc lv (.inl i :: .inr o :: st) h t := by
  subst ho
  refine im_read (fun D cs A ad p l e R s m args below meth c H locs cells slots Q ls hC hS k9 => ?_) kk
  have he := im_in_W hS hb.1 (by decide)
  have he2 : im_e cs ad (h.2.1 j) (h.2.2.1 j) (h.2.2.2 j) = .inl (cs.1, (h.2.1 j).2, .inl (h.2.2.2 j)) := by
    unfold im_e
    rw [hb.1]
    rfl
  rw [he2] at he
  exact va_iald hC.1 hC.2.1 hS.1 hS.2.1 j 0 he rfl (im_vpin hb) hd k9
theorem x_baload {j : Nat} {o : Option Nat} {i : Int32} (hd : decode F.2.2.2.2.1 pc = .ok (.baload, 1)) (ho : o = some j) (hb : im_in h 2 j i) (kk : im_Go z d F (pc + 1) lv (.inl (im_gI h j i.toNatClampNeg) :: st) h t) : im_Go z d F pc lv (.inl i :: .inr o :: st) h t := by
  subst ho
  refine im_read (fun D cs A ad p l e R s m args below meth c H locs cells slots Q ls hC hS k9 => ?_) kk
  have he := im_in_W hS hb.1 (by decide)
  have he2 : im_e cs ad (h.2.1 j) (h.2.2.1 j) (h.2.2.2 j) = .inl (cs.2.1, (h.2.1 j).2, .inl (h.2.2.2 j)) := by
    unfold im_e
    rw [hb.1]
    rfl
  rw [he2] at he
  exact va_zald hC.1 hC.2.1 hS.1 hS.2.1 j 1 he rfl (im_vpin hb) hd k9
theorem x_aaload {j : Nat} {o : Option Nat} {i : Int32} (hd : decode F.2.2.2.2.1 pc = .ok (.aaload, 1)) (ho : o = some j) (hb : im_in h 3 j i ∧ (h.2.1 j).2 ≤ 32) (kk : im_Go z d F (pc + 1) lv (.inr (im_gR h j i.toNatClampNeg) :: st) h t) : im_Go z d F pc lv (.inl i :: .inr o :: st) h t := by
  subst ho
  refine im_read (fun D cs A ad p l e R s m args below meth c H locs cells slots Q ls hC hS k9 => ?_) kk
  obtain ⟨hb, hb2⟩ := hb
  have he := im_in_W hS hb.1 (by decide)
  have he2 : im_e cs ad (h.2.1 j) (h.2.2.1 j) (h.2.2.2 j) = .inl (cs.2.2, (h.2.1 j).2, .inr (.inr (.inr (.inr (im_ra ad (h.2.2.1 j)))))) := by
    unfold im_e
    rw [hb.1]
    rfl
  rw [he2] at he
  refine va_aldq hC.1 hC.2.1 hS.1 hS.2.1 j 2 he rfl (im_vpin hb) hd ?_
  have hi : i.toNatClampNeg < 32 := by
    have := hb.2.2
    have := hb.2.1
    show i.toInt.toNat < 32
    omega
  have hv : va_rf (im_ra ad (h.2.2.1 j) i.toNatClampNeg) = im_v ad (.inr (im_gR h j i.toNatClampNeg)) := by
    simp only [im_ra, hi, if_true]
    rfl
  rw [hv]
  exact k9
theorem x_alen {j : Nat} {o : Option Nat} (v : Int32) (hd : decode F.2.2.2.2.1 pc = .ok (.arraylength, 1)) (ho : o = some j) (hb : (h.2.1 j).1 = 1) (hv : Int32.ofNat (h.2.1 j).2 = v) (kk : im_Go z d F (pc + 1) lv (.inl v :: st) h t) : im_Go z d F pc lv (.inr o :: st) h t := by
  subst ho
  refine im_read (fun D cs A ad p l e R s m args below meth c H locs cells slots Q ls hC hS k9 => ?_) kk
  have he := im_in_W hS hb (by decide)
  have he2 : im_e cs ad (h.2.1 j) (h.2.2.1 j) (h.2.2.2 j) = .inl (cs.1, (h.2.1 j).2, .inl (h.2.2.2 j)) := by
    unfold im_e
    rw [hb]
    rfl
  rw [he2] at he
  exact va_alen hC.1 hC.2.1 hS.1 hS.2.1 j 0 he rfl hv hd k9
theorem x_iastore {j : Nat} {o : Option Nat} {i x : Int32} (hd : decode F.2.2.2.2.1 pc = .ok (.iastore, 1)) (ho : o = some j) (hb : im_in h 1 j i) (kk : im_Go z d F (pc + 1) lv st (im_pI h j i.toNatClampNeg x) t) : im_Go z d F pc lv (.inl x :: .inl i :: .inr o :: st) h t := by
  subst ho
  refine im_write (h' := im_pI h j i.toNatClampNeg x) rfl (fun D cs A ad p l e R s m args below meth c H locs cells slots Q ls hC hS k9 => ?_) kk
  have he := im_in_W hS hb.1 (by decide)
  have he2 : ∀ f, im_e cs ad (h.2.1 j) (h.2.2.1 j) f = .inl (cs.1, (h.2.1 j).2, .inl f) := by
    intro f
    unfold im_e
    rw [hb.1]
    rfl
  rw [he2] at he
  refine va_iast hC.1 hC.2.1 hS.1 hS.2.1 hS.2.2.1 hS.2.2.2.1 j 0 he rfl (im_vpin hb) hd (fun H1 locs1 a1 a2 a3 => k9 H1 locs1 ?_)
  have hw : (im_W cs ad h).set j (ad j, .inl (cs.1, (h.2.1 j).2, .inl (upd (h.2.2.2 j) i.toNatClampNeg x))) = im_W cs ad (im_pI h j i.toNatClampNeg x) := by
    refine im_Wset rfl ?_ (fun i hi => ⟨rfl, rfl, im_uo _ _ _ _ hi⟩)
    show im_e cs ad (h.2.1 j) (h.2.2.1 j) (im_u h.2.2.2 j i.toNatClampNeg x j) = _
    rw [he2, im_us]
  rw [hw] at a1 a2
  exact ⟨hS.1, a1, a2, a3, hS.2.2.2.2⟩
theorem x_bastore {j : Nat} {o : Option Nat} {i x : Int32} (hd : decode F.2.2.2.2.1 pc = .ok (.bastore, 1)) (ho : o = some j) (hb : im_in h 2 j i) (kk : im_Go z d F (pc + 1) lv st (im_pI h j i.toNatClampNeg (x &&& 1)) t) : im_Go z d F pc lv (.inl x :: .inl i :: .inr o :: st) h t := by
  subst ho
  refine im_write (h' := im_pI h j i.toNatClampNeg (x &&& 1)) rfl (fun D cs A ad p l e R s m args below meth c H locs cells slots Q ls hC hS k9 => ?_) kk
  have he := im_in_W hS hb.1 (by decide)
  have he2 : ∀ f, im_e cs ad (h.2.1 j) (h.2.2.1 j) f = .inl (cs.2.1, (h.2.1 j).2, .inl f) := by
    intro f
    unfold im_e
    rw [hb.1]
    rfl
  rw [he2] at he
  refine va_zast hC.1 hC.2.1 hS.1 hS.2.1 hS.2.2.1 hS.2.2.2.1 j 1 he rfl (im_vpin hb) hd (fun H1 locs1 a1 a2 a3 => k9 H1 locs1 ?_)
  have hn : vp_nar .boolean x = x &&& 1 := rfl
  rw [hn] at a1 a2
  have hw : (im_W cs ad h).set j (ad j, .inl (cs.2.1, (h.2.1 j).2, .inl (upd (h.2.2.2 j) i.toNatClampNeg (x &&& 1)))) = im_W cs ad (im_pI h j i.toNatClampNeg (x &&& 1)) := by
    refine im_Wset rfl ?_ (fun i hi => ⟨rfl, rfl, im_uo _ _ _ _ hi⟩)
    show im_e cs ad (h.2.1 j) (h.2.2.1 j) (im_u h.2.2.2 j i.toNatClampNeg (x &&& 1) j) = _
    rw [he2, im_us]
  rw [hw] at a1 a2
  exact ⟨hS.1, a1, a2, a3, hS.2.2.2.2⟩
/-- the end of a method -/
theorem im_end {v : Option im_V} {a : α} (hz : z a = (v, h))
    (hW : ∀ (ad : Nat → Nat) (p : Program) (l : Launch) (e : Env) (R : Room) (s : State) (m : MethodId) (args : Array Value) (below : List Frame) (meth : Method) (c : Code) (H : Heap) (locs : List Loc) (cells slots : Nat) (Qc : Array Value → State → Outcome → State → Prop) (free : Addr → Prop) (ls : Array Slot), im_Cx p R s m args meth c d F →
      (∀ t : State, t.heap = H → s.WarmedH t.vm → Qc args s (.returned (v.map (im_v ad))) t) → (∀ q ∈ locs, free q.base) → W p l e R s m args below meth c H locs cells slots (MQ below Qc args s cells slots free) (F0 m pc ls (st.map (im_v ad)))) : im_Go z d F pc lv st h (some a) := by
  intro a' ha l D cs
  cases ha
  rw [hz]
  refine ⟨⟨Nat.le_refl _, Nat.le_refl _, fun _ => rfl⟩, ?_⟩
  intro p e R s m args below meth c H locs cells slots mc ms Qc free ad A ls hC hS hl h1 h2 h3 h4 h5 h6
  simp only [Nat.sub_self, Nat.add_zero] at h1 h2
  subst h1
  subst h2
  exact hW ad p l e R s m args below meth c H locs cells slots Qc free ls hC (fun t ht hw => h6 ad H locs t ht hw (fun _ _ => rfl) hS) (fun q hq => h5 _ (hS.2.2.2.1.2.2 q hq))
theorem x_ireturn {v : Int32} (hd : decode F.2.2.2.2.1 pc = .ok (.ireturn, 1)) (hr : F.2.2.2.1 = some .int) : im_Go im_zI d F pc lv [.inl v] h (some (v, h)) :=
  im_end (v := some (.inl v)) rfl (fun ad p l e R s m args below meth c H locs cells slots Qc free ls hC hq hf => W.iret (v := v) hC.1 hC.2.1 (hC.2.2.2.2.2.1.trans hr) hq hf hd hC.2.2.2.2.2.2.1)
theorem x_zreturn {v : Int32} (hd : decode F.2.2.2.2.1 pc = .ok (.ireturn, 1)) (hr : F.2.2.2.1 = some .boolean) (hv : v &&& 1 = v) : im_Go im_zI d F pc lv [.inl v] h (some (v, h)) :=
  im_end (v := some (.inl v)) rfl (fun ad p l e R s m args below meth c H locs cells slots Qc free ls hC hq hf => W.zret (v := v) hC.1 hC.2.1 (hC.2.2.2.2.2.1.trans hr) (by simp [narrow, hv]) hq hf hd hC.2.2.2.2.2.2.1)
theorem x_return (hd : decode F.2.2.2.2.1 pc = .ok (.return_, 1)) (hr : F.2.2.2.1 = none) : im_Go im_zV d F pc lv [] h (some h) :=
  im_end (v := none) rfl (fun ad p l e R s m args below meth c H locs cells slots Qc free ls hC hq hf => W.vret hC.1 hC.2.1 (hC.2.2.2.2.2.1.trans hr) hq hf hd hC.2.2.2.2.2.2.1)
theorem x_areturn {v : Option Nat} {n : String} (hd : decode F.2.2.2.2.1 pc = .ok (.areturn, 1)) (hr : F.2.2.2.1 = some (.object n)) : im_Go im_zR d F pc lv [.inr v] h (some (v, h)) :=
  im_end (v := some (.inr v)) rfl (fun ad p l e R s m args below meth c H locs cells slots Qc free ls hC hq hf => W.aret (v := im_v ad (.inr v)) hC.1 hC.2.1 (hC.2.2.2.2.2.1.trans hr) (Or.inl ⟨_, rfl⟩) (by cases v with | none => exact Or.inl rfl | some a => exact Or.inr ⟨_, rfl⟩) hq hf hd hC.2.2.2.2.2.2.1)
end XH
