/-! the law's calls: two worlds side by side -/
theorem lc_swapP {D : va_G} {cl : List vw_C} {w1 w2 : va_W} {H : Heap} (h : va_P D cl (w1 ++ w2) H) : va_P D cl (w2 ++ w1) H := by
  intro k q hk
  have hm : q ∈ w1 ++ w2 := by
    rcases List.mem_append.mp (List.mem_of_getElem? hk) with h | h
    · exact List.mem_append_right _ h
    · exact List.mem_append_left _ h
  obtain ⟨i, hi⟩ := List.getElem?_of_mem hm
  exact h i q hi
theorem lc_leftP {D : va_G} {cl : List vw_C} {w1 w2 : va_W} {H : Heap} (h : va_P D cl (w1 ++ w2) H) : va_P D cl w1 H := by
  intro k q hk
  obtain ⟨i, hi⟩ := List.getElem?_of_mem (List.mem_append_left w2 (List.mem_of_getElem? hk))
  exact h i q hi
theorem lc_leftD {A : Nat → Prop} {w1 w2 : va_W} (h : va_D A (w1 ++ w2)) : va_D A w1 := by
  refine ⟨fun i j p q hi hj e => ?_, fun k q hk => ?_⟩
  · have li : i < w1.length := (List.getElem?_eq_some_iff.mp hi).1
    have lj : j < w1.length := (List.getElem?_eq_some_iff.mp hj).1
    exact h.1 i j p q (by rw [List.getElem?_append_left li]; exact hi) (by rw [List.getElem?_append_left lj]; exact hj) e
  · have lk : k < w1.length := (List.getElem?_eq_some_iff.mp hk).1
    exact h.2 k q (by rw [List.getElem?_append_left lk]; exact hk)
theorem lc_rightD {A : Nat → Prop} {w1 w2 : va_W} (h : va_D A (w1 ++ w2)) : va_D A w2 := by
  have sh : ∀ {k : Nat} {q : Nat × va_E}, w2[k]? = some q → (w1 ++ w2)[w1.length + k]? = some q := fun {k q} hk => by
    rw [List.getElem?_append_right (by omega), Nat.add_sub_cancel_left]
    exact hk
  refine ⟨fun i j p q hi hj e => ?_, fun k q hk => h.2 _ q (sh hk)⟩
  have := h.1 _ _ p q (sh hi) (sh hj) e
  omega
theorem lc_apart {A : Nat → Prop} {w1 w2 : va_W} (h : va_D A (w1 ++ w2)) {i j : Nat} {p q : Nat × va_E} (hi : w1[i]? = some p) (hj : w2[j]? = some q) : p.1 ≠ q.1 := by
  intro e
  have li : i < w1.length := (List.getElem?_eq_some_iff.mp hi).1
  have := h.1 i (w1.length + j) p q (by rw [List.getElem?_append_left li]; exact hi) (by rw [List.getElem?_append_right (by omega), Nat.add_sub_cancel_left]; exact hj) e
  omega
theorem lc_swapD {A : Nat → Prop} {w1 w2 : va_W} (h : va_D A (w1 ++ w2)) : va_D A (w2 ++ w1) :=
  va_D.app (lc_rightD h) (lc_leftD h) (fun _ _ _ _ hx hy e => lc_apart h hy hx e.symm)
theorem lc_join {D : va_G} {cl : List vw_C} {A : Nat → Prop} {w1 w1' w2 : va_W} {H H1 : Heap} (hP : va_P D cl (w1 ++ w2) H) (hD : va_D A (w1 ++ w2)) (hk : ∀ q : Nat, q < H.size → ¬ va_A w1 H.size q → H1[q]? = H[q]?) (hF : ∀ q, va_A w1 H.size q → A q) (hP1 : va_P D cl w1' H1) (hD1 : va_D (va_A w1 H.size) w1') : va_P D cl (w1' ++ w2) H1 ∧ va_D A (w1' ++ w2) := by
  have hP2 := lc_leftP (lc_swapP hP)
  have apart : ∀ (k : Nat) (q : Nat × va_E), w2[k]? = some q → q.1 < H.size ∧ ¬ va_A w1 H.size q.1 := by
    intro k q hq
    have hl := (hP2 k q hq).lt
    refine ⟨hl, fun h => ?_⟩
    rcases h with ⟨k2, e, h⟩ | h
    · exact lc_apart hD h hq rfl
    · omega
  refine ⟨va_P.app hP1 (fun k q hq => (hP2 k q hq).kept (hk q.1 (apart k q hq).1 (apart k q hq).2)), va_D.app (hD1.weaken (fun k q _ h => hF q.1 h)) (lc_rightD hD) (fun i j x y hx hy hxy => ?_)⟩
  exact (apart j y hy).2 (by rw [← hxy]; exact hD1.2 i x hx)
section LC
variable {p : Program} {l : Launch} {e : Env} {R : Room} {s : State} {m : MethodId} {args : Array Value} {below : List Frame} {meth : Method} {c : Code} {H : Heap} {locs : List Loc} {cells slots mc ms : Nat} {Q : State → Prop} {D : va_G} {cs : ClassId × ClassId × ClassId} {A : Nat → Prop} {ad : Nat → Nat} {h : im_H} {r : im_rs} {pc : Nat} {ls : Array Slot} {st0 rest : List Value} {a : Array Value} {w2 : va_W}
/-- behind a call on the left world -/
theorem lc_callk (hr : va_Run p l e R s m args below meth c H locs cells slots mc ms (F0 m pc ls st0) rest (im_Qc D cs ad h r (va_A (im_W cs ad h) H.size) a) (va_A (im_W cs ad h) H.size)) (hP : va_P D nm_cl (im_W cs ad h ++ w2) H) (hD : va_D A (im_W cs ad h ++ w2)) (hS : va_S A s.heap H locs) (hA : ∀ q, s.heap.size ≤ q → A q)
    (kk : ∀ (ad' : Nat → Nat) (H1 : Heap) (locs1 : List Loc), im_Ad h r.2 ad ad' → va_P D nm_cl (im_W cs ad' r.2 ++ w2) H1 → va_D A (im_W cs ad' r.2 ++ w2) → va_S A s.heap H1 locs1 → W p l e R s m args below meth c H1 locs1 (cells + mc) (slots + ms) Q (F0 m (pc + 3) ls ((r.1.map (im_v ad')).toList ++ rest))) : W p l e R s m args below meth c H locs cells slots Q (F0 m pc ls st0) := by
  intro T hT X
  obtain ⟨v, st₀, t, T', L, h0, X', hL, e1, e2, ⟨⟨ad', hv, hAd, hP1, hK1, hD1, h91⟩, hz, hk⟩, st⟩ := hr T hT X
  cases hv
  rw [h0] at hz hk
  have hfree : ∀ q, va_A (im_W cs ad h) H.size q → A q := by
    intro q hq
    rcases hq with ⟨k, e', hq⟩ | hq
    · exact (lc_leftD hD).2 k (q, e') hq
    · exact hA q (Nat.le_trans hS.1 hq)
  have hk' : ∀ q : Nat, q < H.size → ¬ va_A (im_W cs ad h) H.size q → T'.heap[q]? = H[q]? := fun q h1 h2 => by rw [e1]; exact hk q h1 h2
  obtain ⟨j1, j2⟩ := lc_join hP hD hk' hfree (by rw [e1]; exact hP1) hD1
  obtain ⟨t2, a1, b1⟩ := kk ad' T'.heap (locs ++ L) hAd j1 j2
    ⟨Nat.le_trans hS.1 (by rw [e1]; exact hz), fun q h1 h2 => by rw [hk' q (Nat.lt_of_lt_of_le h1 hS.1) (fun z => h2 (hfree q z))]; exact hS.2.1 q h1 h2, fun q hq => by
      rcases List.mem_append.mp hq with h | h
      · exact hS.2.2 q h
      · exact hfree _ (hL q h)⟩ T' rfl X'
  exact ⟨t2, st t2 a1, b1⟩
theorem lc_pre {as : List im_V} (hK : va_K D nm_cl (im_tys cs) s) (hnx : im_Nx s) (hP : va_P D nm_cl (im_W cs ad h ++ w2) H) (hD : va_D A (im_W cs ad h ++ w2)) (h9 : ∀ j, h.1.1 ≤ j → (h.2.1 j).1 = 9) : ∀ U : State, U.heap = H → s.WarmedH U.vm → im_Pc D cs ad h H.size as (as.map (im_v ad)).toArray U := fun U hU hW => ⟨rfl, by rw [hU], by rw [hU]; exact lc_leftP hP, va_K.moved hW.alike hK, (lc_leftD hD).weaken (fun _ _ _ _ => trivial), h9, im_Nx.warm hW hnx⟩
/-- what stays the same through the law -/
def lc_Cx (p : Program) (s : State) (m : MethodId) (args : Array Value) (c : Code) (D : va_G) (cs : ClassId × ClassId × ClassId) (A : Nat → Prop) : Prop :=
  p.tables.exec = Jvm.exec ∧ c.code = code ∧ c.maxLocals = 4 ∧ s.vm.findClass (nm_R 13) = some m.cls ∧ (∀ w ∈ im_g, w.before args s = true) ∧ im_Nx s ∧ va_K D nm_cl (im_tys cs) s ∧ ∀ q, s.heap.size ≤ q → A q
/-- a call on an object of the left world, its answer an int or nothing -/
theorem lc_call {y : MethodName} {na d' idx ci : Nat} {F' : im_F} {as : List Int32} (hC : lc_Cx p s m args c D cs A) (hP : va_P D nm_cl (im_W cs ad h ++ w2) H) (hD : va_D A (im_W cs ad h ++ w2)) (hS : va_S A s.heap H locs) (h9 : ∀ j, h.1.1 ≤ j → (h.2.1 j).1 = 9) (hls : ls.size = 4) (hcs : cells ≤ 600000 ∧ slots ≤ 7302250)
    (hm : im_mf y na F') (ha : as.length + 1 = na) (hE : im_Ev d' F' 0 (im_en 0 (.inr (some 0) :: as.map .inl)) [] h r) (hd8 : d' ≤ 8) (hal : r.2.1 = h.1) (hK0 : h.2.1 0 = (0, ci)) (hci : ∃ T N, nm_cl[ci]? = some (y.cls, T, N))
    (h1 : Cond.methodLink (nm_R 13) idx y ∈ im_g) (h2 : Cond.instanceMethod y ∈ im_g) (h3 : Cond.selects y.cls y y ∈ im_g) (hn : (parseMethodDescriptor y.desc).map (fun d => d.parameters.length) = some as.length) (hr : (rest.map fun v => v.category).sum ≤ 8) (hd : decode code pc = .ok (.invokevirtual idx, 3))
    (kk : ∀ (H1 : Heap) (locs1 : List Loc), va_P D nm_cl (im_W cs ad r.2 ++ w2) H1 → va_D A (im_W cs ad r.2 ++ w2) → va_S A s.heap H1 locs1 → W p l e room_1 s m args below meth c H1 locs1 cells slots Q (F0 m (pc + 3) ls ((r.1.map (im_v ad)).toList ++ rest))) : W p l e room_1 s m args below meth c H locs cells slots Q (F0 m pc ls ((as.map Value.int).reverse ++ .ref (ad 0) :: rest)) := by
  have hmet := im_met hm (by simp [← ha]) hE l D cs ad H.size
  have hj : 0 < h.1.1 := by
    rcases Nat.eq_zero_or_pos h.1.1 with hz | hz
    · have := h9 0 (by omega)
      rw [hK0] at this
      exact absurd this (by show ¬ (0 : Nat) = 9; decide)
    · exact hz
  have he : (im_W cs ad h)[0]? = some (ad 0, .inr (ci, im_fs ad ci (h.2.2.1 0) (h.2.2.2 0))) := by
    rw [im_Wat hj, hK0]
    rfl
  obtain ⟨T, N, hci⟩ := hci
  have hG : GoodIn im_g (wsV (nm_R 13) idx y.cls y (im_ws y F')) := im_goodIn (fun w hw => by
    rcases List.mem_append.mp hw with hw | hw
    · simp only [List.mem_cons, List.not_mem_nil, or_false] at hw
      rcases hw with rfl | rfl | rfl | rfl
      · exact h1
      · exact h2
      · exact h3
      · exact hm.2.2.1
    · rcases List.mem_cons.mp hw with rfl | hw
      · exact hm.2.1
      · exact hw)
  have hz1 : r.2.1.1 - h.1.1 = 0 := by rw [hal]; exact Nat.sub_self _
  have hz2 : r.2.1.2 - h.1.2 = 0 := by rw [hal]; exact Nat.sub_self _
  have hmap : (as.map Sum.inl : List im_V).map (im_v ad) = as.map Value.int := by simp [im_v, Function.comp_def]
  have hpre := lc_pre (as := .inr (some 0) :: as.map .inl) hC.2.2.2.2.2.2.1 hC.2.2.2.2.2.1 hP hD h9
  rw [List.map_cons, hmap] at hpre
  have hrun := va_runV (p := p) (l := l) (e := e) (R := room_1) (s := s) (m := m) (args := args) (below := below) (meth := meth) (c := c) (H := H) (locs := locs) (cells := cells) (slots := slots) (rest := rest) (g := F0 m pc ls ((as.map Value.int).reverse ++ .ref (ad 0) :: rest)) (As := as.map Value.int) (b := ad 0) (n := as.length) (C := y.cls) ⟨hC.1, hC.2.1, hC.2.2.1, hC.2.2.2.1, hC.2.2.2.2.1⟩ hmet (cwV as.length hC.2.2.2.2.1 hG rfl rfl rfl ⟨rfl, hm.2.2.2.1.1, hm.2.2.2.1.2, hn⟩ ⟨by show d' + 1 ≤ 9; omega, by show 8 + (F'.2.2.2.2.2 + 11) + 32 * d' ≤ 326; have := hm.2.2.2.2.2.2.1; omega⟩) ⟨im_blind, va_recv hC.2.2.2.2.2.2.1 (lc_leftP hP) hci he, hpre⟩ rfl (by simp) hls rfl (lv_room hr) hd ⟨by rw [hz1]; exact hcs.1, by rw [hz2]; exact hcs.2⟩
  refine lc_callk hrun hP hD hS hC.2.2.2.2.2.2.2 (fun ad' H1 locs1 hA' a1 a2 a3 => ?_)
  have hadd : ad' = ad := funext fun j => hA' j (Or.inr hal)
  subst hadd
  rw [hz1, hz2]
  exact kk H1 locs1 a1 a2 a3
/-- a constructor's call on the left world, which is the new object alone -/
theorem lc_ctor {y : MethodName} {d' idx : Nat} {F' : im_F} (hC : lc_Cx p s m args c D cs A) (hP : va_P D nm_cl (im_W cs ad h ++ w2) H) (hD : va_D A (im_W cs ad h ++ w2)) (hS : va_S A s.heap H locs) (h9 : ∀ j, h.1.1 ≤ j → (h.2.1 j).1 = 9) (hls : ls.size = 4)
    (hm : im_mf y 1 F') (hE : im_Ev d' F' 0 (im_en 0 [.inr (some 0)]) [] h r) (hd8 : d' ≤ 8) (hret : F'.2.2.2.1 = none) (hcs : cells + (r.2.1.1 - h.1.1) ≤ 600000 ∧ slots + (r.2.1.2 - h.1.2) ≤ 7302250)
    (h1 : Cond.methodLink (nm_R 13) idx y ∈ im_g) (h2 : Cond.instanceMethod y ∈ im_g) (h3 : y.name = "<init>") (hn : (parseMethodDescriptor y.desc).map (fun d => d.parameters.length) = some 0) (hr : (rest.map fun v => v.category).sum ≤ 8) (hd : decode code pc = .ok (.invokespecial idx, 3))
    (kk : ∀ (ad' : Nat → Nat) (H1 : Heap) (locs1 : List Loc), im_Ad h r.2 ad ad' → va_P D nm_cl (im_W cs ad' r.2 ++ w2) H1 → va_D A (im_W cs ad' r.2 ++ w2) → va_S A s.heap H1 locs1 → W p l e room_1 s m args below meth c H1 locs1 (cells + (r.2.1.1 - h.1.1)) (slots + (r.2.1.2 - h.1.2)) Q (F0 m (pc + 3) ls ((r.1.map (im_v ad')).toList ++ rest))) : W p l e room_1 s m args below meth c H locs cells slots Q (F0 m pc ls (.ref (ad 0) :: rest)) := by
  have hmet := im_met hm rfl hE l D cs ad H.size
  have hG : GoodIn im_g (im_ws y F') := im_goodIn (fun w hw => by
    rcases List.mem_cons.mp hw with rfl | hw
    · exact hm.2.1
    · exact hw)
  have hw : im_ws y F' = Cond.code y F'.2.2.2.2.1 F'.2.2.2.2.2 none :: im_g := by unfold im_ws; rw [hret]
  have hpre := lc_pre (as := [.inr (some 0)]) hC.2.2.2.2.2.2.1 hC.2.2.2.2.2.1 hP hD h9
  have hrun := va_runI (p := p) (l := l) (e := e) (R := room_1) (s := s) (m := m) (args := args) (below := below) (meth := meth) (c := c) (H := H) (locs := locs) (cells := cells) (slots := slots) (rest := rest) (g := F0 m pc ls (.ref (ad 0) :: rest)) (As := []) (b := ad 0) (n := 0) ⟨hC.1, hC.2.1, hC.2.2.1, hC.2.2.2.1, hC.2.2.2.2.1⟩ hmet (cwI 0 hC.2.2.2.2.1 hG hw rfl rfl (hC.2.2.2.2.1 _ hm.2.2.1) (hC.2.2.2.2.1 _ h1) (hC.2.2.2.2.1 _ h2) h3 ⟨hm.2.2.2.1.1, hm.2.2.2.1.2, hn⟩ ⟨by show d' + 1 ≤ 9; omega, by show 8 + (F'.2.2.2.2.2 + 11) + 32 * d' ≤ 326; have := hm.2.2.2.2.2.2.1; omega⟩) ⟨im_blind, hpre⟩ rfl rfl hls rfl (lv_room hr) hd hcs
  exact lc_callk hrun hP hD hS hC.2.2.2.2.2.2.2 kk
end LC
