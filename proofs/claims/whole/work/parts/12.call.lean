/-! the small machine: calls -/
def im_en : Nat → List im_V → im_L
  | _, [] => []
  | i, v :: vs => (i, v) :: im_en (i + 1) vs
theorem im_en_args (ad : Nat → Nat) : ∀ (as : List im_V) (i : Nat), lv_args i (as.map (im_v ad)) = im_lv ad (im_en i as)
  | [], _ => rfl
  | v :: vs, i => by
    have h := im_en_args ad vs (i + 1)
    simp only [List.map_cons, lv_args, im_cat]
    simp only [im_en, im_lv, List.map_cons]
    rw [if_neg (by decide), h]
    rfl
theorem im_lgl (ad : Nat → Nat) : ∀ as : List im_V, (lg_sl (as.map (im_v ad))).length = as.length
  | [] => rfl
  | v :: vs => by
    have h := im_lgl ad vs
    unfold lg_sl at h ⊢
    simp only [List.map_cons, List.flatMap_cons, List.length_append, im_cat, List.length_cons]
    rw [if_neg (by decide), h]
    simp
    omega
theorem im_goodIn {ws : List Cond} (h : ∀ w ∈ ws, w ∈ im_g) : GoodIn im_g ws := fun w hw => ⟨h w hw, good_of_word (List.mem_filter.mp (h w hw)).2⟩
def im_mf (y : MethodName) (na : Nat) (F : im_F) : Prop := plainName y.cls = true ∧ Cond.code y F.2.2.2.2.1 F.2.2.2.2.2 F.2.2.2.1 ∈ im_g ∧ Cond.initialized y.cls ∈ im_g ∧ (y.cls ≠ "java/lang/invoke/MethodHandle" ∧ y.cls ≠ "java/lang/invoke/VarHandle") ∧ y.cls = nm_R F.1 ∧ na ≤ F.2.2.2.2.2 ∧ F.2.2.2.2.2 ≤ 13 ∧ (F.2.1 = true → y.name = "<init>")
abbrev im_ws (y : MethodName) (F : im_F) : List Cond := Cond.code y F.2.2.2.2.1 F.2.2.2.2.2 F.2.2.2.1 :: im_g
abbrev im_rm (d : Nat) (h : im_H) (r : im_rs) : Room := { frames := d, cells := r.2.1.1 - h.1.1, slots := r.2.1.2 - h.1.2, locals := 32 * d }
def im_Pc (D : va_G) (cs : ClassId × ClassId × ClassId) (ad : Nat → Nat) (h : im_H) (sz : Nat) (as : List im_V) : Array Value → State → Prop := va_Pc (as.map (im_v ad)) (fun U => U.heap.size = sz ∧ va_P D nm_cl (im_W cs ad h) U.heap ∧ va_K D nm_cl (im_tys cs) U ∧ va_D (fun _ => True) (im_W cs ad h) ∧ (∀ j, h.1.1 ≤ j → (h.2.1 j).1 = 9) ∧ im_Nx U)
def im_Qc (D : va_G) (cs : ClassId × ClassId × ClassId) (ad : Nat → Nat) (h : im_H) (r : im_rs) (A : Nat → Prop) : Array Value → State → Outcome → State → Prop := fun _ st oc t => (∃ ad', oc = .returned (r.1.map (im_v ad')) ∧ im_Ad h r.2 ad ad' ∧ va_P D nm_cl (im_W cs ad' r.2) t.heap ∧ va_K D nm_cl (im_tys cs) t ∧ va_D A (im_W cs ad' r.2) ∧ ∀ j, r.2.1.1 ≤ j → (r.2.2.1 j).1 = 9) ∧ va_F A st t
theorem im_met {y : MethodName} {na d : Nat} {F : im_F} {as : List im_V} {h : im_H} {r : im_rs} (hm : im_mf y na F) (ha : as.length = na) (hE : im_Ev d F 0 (im_en 0 as) [] h r) (l : Launch) (D : va_G) (cs : ClassId × ClassId × ClassId) (ad : Nat → Nat) (sz : Nat) :
    Met l y (im_ws y F) (im_rm d h r) (im_Pc D cs ad h sz as) (im_Qc D cs ad h r (va_A (im_W cs ad h) sz)) (r.2.1.1 - h.1.1) (r.2.1.2 - h.1.2) (va_A (im_W cs ad h) sz) := by
  refine Met.ofW (cc := F.2.2.2.2.1) (maxL := F.2.2.2.2.2) (ret := F.2.2.2.1) hm.1 rfl ?_
  intro p e s m args below meth c s₁ B hml hv
  obtain ⟨rfl, hsz, hP, hK, hD0, h9, hnx⟩ := hv
  have hts := atoms_spec (ws := im_ws y F) B.pre
  have hown : s.vm.findClass (nm_R F.1) = some m.cls := by rw [← hm.2.2.2.2.1]; exact findClass_of_methodNamed B.named
  have hnm : meth.name = y.name := (name_of_methodNamed B.named B.method).1
  subst hsz
  obtain ⟨-, k2⟩ := hE l D cs
  have hl := lv_entry (as.map (im_v ad)) (n := F.2.2.2.2.2) (by rw [im_lgl, ha]; exact hm.2.2.2.2.2.1)
  rw [im_en_args] at hl
  rw [lg_entry_eq]
  exact k2 p e _ s m _ below meth c s.heap [] 0 0 _ _ _ _ ad (va_A (im_W cs ad h) s.heap.size) _ ⟨B.exec, B.bytes, hml, hown, fun w h => hts w (List.mem_cons_of_mem _ h), B.returns, B.notSynchronized, fun hi => by rw [hnm]; exact hm.2.2.2.2.2.2.2 hi, rfl, rfl, hnx⟩ ⟨hK, hP, hD0.self, va_S.rf, fun q h => Or.inr h, h9⟩ hl (Nat.zero_add _) (Nat.zero_add _) (Nat.le_refl _) (Nat.le_refl _) (fun _ h => h) (fun ad' H' locs' t ht hw hA hS => ⟨⟨ad', rfl, hA, by rw [ht]; exact hS.2.1, va_K.moved hw.alike hS.1, hS.2.2.1, hS.2.2.2.2.2⟩, hS.2.2.2.1.F ht⟩)
theorem im_blind {D : va_G} {cs : ClassId × ClassId × ClassId} {ad : Nat → Nat} {h : im_H} {sz : Nat} {as : List im_V} : FrameBlind (im_Pc D cs ad h sz as) := fun a U g mk q => by
  obtain ⟨q0, q1, qP, qK, qD, q9, qN⟩ := q
  exact ⟨q0, q1, qP, va_K.moved (u := U) (U := U.calling g mk a) (Vm.Alike.refl U.vm) qK, qD, q9, qN.same rfl⟩
section CK
variable {p : Program} {l : Launch} {e : Env} {R : Room} {s : State} {m : MethodId} {args : Array Value} {below : List Frame} {meth : Method} {c : Code} {H : Heap} {locs : List Loc} {cells slots mc ms : Nat} {Q : State → Prop} {D : va_G} {cs : ClassId × ClassId × ClassId} {A : Nat → Prop} {ad : Nat → Nat} {h : im_H} {r : im_rs} {pc : Nat} {ls : Array Slot} {st0 rest : List Value} {a : Array Value}
theorem im_callk (hr : va_Run p l e R s m args below meth c H locs cells slots mc ms (F0 m pc ls st0) rest (im_Qc D cs ad h r (va_A (im_W cs ad h) H.size) a) (va_A (im_W cs ad h) H.size)) (hS : im_St D cs s A H locs ad h)
    (kk : ∀ (ad' : Nat → Nat) (H1 : Heap) (locs1 : List Loc), im_Ad h r.2 ad ad' → im_St D cs s A H1 locs1 ad' r.2 → W p l e R s m args below meth c H1 locs1 (cells + mc) (slots + ms) Q (F0 m (pc + 3) ls ((r.1.map (im_v ad')).toList ++ rest))) : W p l e R s m args below meth c H locs cells slots Q (F0 m pc ls st0) := by
  intro T hT X
  obtain ⟨v, st₀, t, T', L, h0, X', hL, e1, e2, ⟨⟨ad', hv, hA, hP1, hK1, hD1, h91⟩, hz, hk⟩, st⟩ := hr T hT X
  cases hv
  rw [h0] at hz hk
  have hfree : ∀ q, va_A (im_W cs ad h) H.size q → A q := by
    intro q hq
    rcases hq with ⟨k, e', hq⟩ | hq
    · exact hS.2.2.1.2 k (q, e') hq
    · exact hS.2.2.2.2.1 q (Nat.le_trans hS.2.2.2.1.1 hq)
  have hS0 := hS.2.2.2.1
  obtain ⟨t2, a1, b1⟩ := kk ad' T'.heap (locs ++ L) hA ⟨hS.1, by rw [e1]; exact hP1, hD1.weaken (fun _ _ _ h => hfree _ h),
    ⟨Nat.le_trans hS0.1 (by rw [e1]; exact hz), fun q h1 h2 => by rw [e1, hk q (Nat.lt_of_lt_of_le h1 hS0.1) (fun z => h2 (hfree q z))]; exact hS0.2.1 q h1 h2, fun q hq => by
      rcases List.mem_append.mp hq with h | h
      · exact hS0.2.2 q h
      · exact hfree _ (hL q h)⟩, hS.2.2.2.2.1, h91⟩ T' rfl X'
  exact ⟨t2, st t2 a1, b1⟩
end CK
theorem im_vs (ad : Nat → Nat) (o : Option im_V) (rest : List im_V) : (o.map (im_v ad)).toList ++ rest.map (im_v ad) = (o.toList ++ rest).map (im_v ad) := by
  cases o <;> rfl
/-- a reference that is there -/
def im_ok (n : Nat) (v : im_V) : Bool := match v with
  | .inr (some j) => decide (j < n)
  | _ => true
theorem im_ok_v {n : Nat} {v : im_V} {ad ad' : Nat → Nat} (h : im_ok n v = true) (ha : ∀ j, j < n → ad' j = ad j) : im_v ad' v = im_v ad v := by
  cases v with
  | inl x => rfl
  | inr r =>
    cases r with
    | none => rfl
    | some j =>
      simp only [im_ok, decide_eq_true_eq] at h
      show Value.ref (ad' j) = Value.ref (ad j)
      rw [ha j h]
/-- what a callee's contract gives the caller: the run of the call, by its kind -/
abbrev im_Run (F : im_F) (d : Nat) (pc : Nat) (st : List im_V) (h : im_H) (y : MethodName) (d' : Nat) (F' : im_F) (as rest : List im_V) : Prop :=
  ∀ (p : Program) (l : Launch) (e : Env) (R : Room) (s : State) (m : MethodId) (args : Array Value) (below : List Frame) (meth : Method) (c : Code) (H : Heap) (locs : List Loc) (cells slots : Nat) (D : va_G) (cs : ClassId × ClassId × ClassId) (A : Nat → Prop) (ad : Nat → Nat) (ls : Array Slot) (r : im_rs) (Qc : Array Value → State → Outcome → State → Prop) (free : Addr → Prop),
    im_Cx p R s m args meth c d F → im_St D cs s A H locs ad h → ls.size = F.2.2.2.2.2 → Met l y (im_ws y F') (im_rm d' h r) (im_Pc D cs ad h H.size as) Qc (r.2.1.1 - h.1.1) (r.2.1.2 - h.1.2) free → cells + (r.2.1.1 - h.1.1) ≤ R.cells → slots + (r.2.1.2 - h.1.2) ≤ R.slots →
    va_Run p l e R s m args below meth c H locs cells slots (r.2.1.1 - h.1.1) (r.2.1.2 - h.1.2) (F0 m pc ls (st.map (im_v ad))) (rest.map (im_v ad)) (Qc (as.map (im_v ad)).toArray) free
theorem im_call {α β : Type} {z : α → im_rs} {zb : β → im_rs} {d d' : Nat} {F F' : im_F} {pc : Nat} {lv : im_L} {st as rest : List im_V} {h : im_H} {tb : Option β} {k : β → Option α} {y : MethodName} {na : Nat}
    (hm : im_mf y na F') (ha : as.length = na) (hE : im_Go zb d' F' 0 (im_en 0 as) [] h tb) (hrun : im_Run F d pc st h y d' F' as rest)
    (hal : F'.2.2.1 = false ∨ (F.2.2.1 = true ∧ lv.all (fun q => im_ok h.1.1 q.2) = true ∧ rest.all (im_ok h.1.1) = true))
    (kk : ∀ b, tb = some b → im_Go z d F (pc + 3) lv ((zb b).1.toList ++ rest) (zb b).2 (k b)) : im_Go z d F pc lv st h (tb.bind k) := by
  intro a ha' l D cs
  cases htb : tb with
  | none => rw [htb] at ha'; cases ha'
  | some b =>
    rw [htb] at ha'
    have hEb := hE b htb
    obtain ⟨⟨m1, m2, m3⟩, -⟩ := hEb l D cs
    obtain ⟨⟨n1, n2, n3⟩, n4⟩ := kk b htb a ha' l D cs
    refine ⟨⟨Nat.le_trans m1 n1, Nat.le_trans m2 n2, fun hf => ?_⟩, ?_⟩
    · rcases hal with hal | hal
      · rw [n3 hf, m3 hal]
      · rw [hal.1] at hf; cases hf
    intro p e R s m args below meth c H locs cells slots mc ms Qc free ad A ls hC hS hl h1 h2 h3 h4 h5 h6
    have c1 : cells + ((zb b).2.1.1 - h.1.1) + ((z a).2.1.1 - (zb b).2.1.1) = mc := by omega
    have c2 : slots + ((zb b).2.1.2 - h.1.2) + ((z a).2.1.2 - (zb b).2.1.2) = ms := by omega
    refine im_callk (hrun p l e R s m args below meth c H locs cells slots D cs A ad ls (zb b) _ _ hC hS hl.1 (im_met hm ha hEb l D cs ad H.size) (by omega) (by omega)) hS (fun ad' H1 locs1 hA hS' => ?_)
    have e1 : im_lv ad' lv = im_lv ad lv ∧ rest.map (im_v ad') = rest.map (im_v ad) := by
      rcases hal with hal | hal
      · have : ad' = ad := funext fun j => hA j (Or.inr (m3 hal))
        rw [this]
        exact ⟨rfl, rfl⟩
      · have hlt : ∀ j, j < h.1.1 → ad' j = ad j := fun j hj => hA j (Or.inl hj)
        refine ⟨?_, ?_⟩
        · unfold im_lv
          apply List.map_congr_left
          intro q hq
          rw [im_ok_v (List.all_eq_true.mp hal.2.1 q hq) hlt]
        · apply List.map_congr_left
          intro q hq
          exact im_ok_v (List.all_eq_true.mp hal.2.2 q hq) hlt
    rw [← e1.2, im_vs]
    refine n4 p e R s m args below meth c H1 locs1 _ _ mc ms Qc free ad' A ls hC hS' (by rw [e1.1]; exact hl) c1 c2 h3 h4 h5 (fun ad2 H2 l2 t g1 g2 g3 g4 => h6 ad2 H2 l2 t g1 g2 (fun j hj => ?_) g4)
    have g5 : ad2 j = ad' j := by
      refine g3 j ?_
      rcases hj with hj | hj
      · exact Or.inl (Nat.lt_of_lt_of_le hj m1)
      · refine Or.inr ?_
        have e2 : (z a).2.1 = h.1 := hj
        have e3 : (zb b).2.1 = h.1 := by
          apply Prod.ext
          · have := congrArg Prod.fst e2; omega
          · have := congrArg Prod.snd e2; omega
        rw [e2, e3]
    rw [g5]
    refine hA j ?_
    rcases hj with hj | hj
    · exact Or.inl hj
    · refine Or.inr ?_
      have e2 : (z a).2.1 = h.1 := hj
      apply Prod.ext
      · have := congrArg Prod.fst e2; omega
      · have := congrArg Prod.snd e2; omega
theorem im_room {R : Room} {d d' nL : Nat} (h1 : R.frames = d) (h2 : R.locals = 32 * d) (hd : d' < d) (hn : nL ≤ 13) : d' + 1 ≤ R.frames ∧ 8 + (nL + 11) + 32 * d' ≤ R.locals := by omega
theorem im_sum (ad : Nat → Nat) : ∀ rest : List im_V, ((rest.map (im_v ad)).map fun v => v.category).sum = rest.length
  | [] => rfl
  | v :: vs => by
    simp only [List.map_cons, List.sum_cons, im_cat, List.length_cons]
    rw [im_sum ad vs]
    omega
/-- invokevirtual -/
theorem im_runV {F : im_F} {d pc idx ci j na d' : Nat} {h : im_H} {y : MethodName} {F' : im_F} {as rest : List im_V} {o : Option Nat} (hd : decode F.2.2.2.2.1 pc = .ok (.invokevirtual idx, 3)) (hm : im_mf y na F') (hlt : d' < d)
    (h1 : Cond.methodLink (nm_R F.1) idx y ∈ im_g) (h2 : Cond.instanceMethod y ∈ im_g) (h3 : Cond.selects y.cls y y ∈ im_g) (hn : (parseMethodDescriptor y.desc).map (fun d => d.parameters.length) = some as.length) (hr : rest.length ≤ 8) (ho : o = some j) (hK : h.2.1 j = (0, ci)) (hci : ∃ T N, nm_cl[ci]? = some (y.cls, T, N)) :
    im_Run F d pc (as.reverse ++ .inr o :: rest) h y d' F' (.inr o :: as) rest := by
  subst ho
  intro p l e R s m args below meth c H locs cells slots D cs A ad ls r Qc free hC hS hls hM hc1 hc2
  obtain ⟨T, N, hci⟩ := hci
  have he := im_in_W hS (j := j) (kd := 0) (by rw [hK]) (by decide)
  rw [hK] at he
  have hG : GoodIn im_g (wsV (nm_R F.1) idx y.cls y (im_ws y F')) := im_goodIn (fun w hw => by
    rcases List.mem_append.mp hw with hw | hw
    · simp only [List.mem_cons, List.not_mem_nil, or_false] at hw
      rcases hw with rfl | rfl | rfl | rfl
      · exact h1
      · exact h2
      · exact h3
      · exact hm.2.2.1
    · rcases List.mem_cons.mp hw with rfl | hw
      · exact hm.2.1
      · exact hw)
  have hsz : ∀ U : State, U.heap = H → s.WarmedH U.vm → im_Pc D cs ad h H.size (.inr (some j) :: as) (Value.ref (ad j) :: as.map (im_v ad)).toArray U := fun U hU hW => ⟨rfl, by rw [hU], by rw [hU]; exact hS.2.1, va_K.moved hW.alike hS.1, hS.2.2.1.weaken (fun _ _ _ _ => trivial), hS.2.2.2.2.2, im_Nx.warm hW hC.2.2.2.2.2.2.2.2.2.2⟩
  refine va_runV (As := as.map (im_v ad)) (b := ad j) (n := as.length) (C := y.cls) ⟨hC.1, hC.2.1, hC.2.2.1, hC.2.2.2.1, hC.2.2.2.2.1⟩ hM (cwV as.length hC.2.2.2.2.1 hG rfl rfl rfl ⟨rfl, hm.2.2.2.1.1, hm.2.2.2.1.2, hn⟩ (im_room hC.2.2.2.2.2.2.2.2.1 hC.2.2.2.2.2.2.2.2.2.1 hlt hm.2.2.2.2.2.2.1)) ⟨im_blind, va_recv hS.1 hS.2.1 hci he, hsz⟩ rfl (by simp) hls (by simp [im_v, va_re, va_rf]) (lv_room (by rw [im_sum]; exact hr)) hd ⟨hc1, hc2⟩
/-- invokestatic -/
theorem im_runS {F : im_F} {d pc idx na d' : Nat} {h : im_H} {y : MethodName} {F' : im_F} {as rest : List im_V} (hd : decode F.2.2.2.2.1 pc = .ok (.invokestatic idx, 3)) (hm : im_mf y na F') (hlt : d' < d)
    (h1 : Cond.methodLink (nm_R F.1) idx y ∈ im_g) (h2 : Cond.static y ∈ im_g) (hn : (parseMethodDescriptor y.desc).map (fun d => d.parameters.length) = some as.length) (hr : rest.length ≤ 8) :
    im_Run F d pc (as.reverse ++ rest) h y d' F' as rest := by
  intro p l e R s m args below meth c H locs cells slots D cs A ad ls r Qc free hC hS hls hM hc1 hc2
  have hG : GoodIn im_g (im_ws y F') := im_goodIn (fun w hw => by
    rcases List.mem_cons.mp hw with rfl | hw
    · exact hm.2.1
    · exact hw)
  have hsz : ∀ U : State, U.heap = H → s.WarmedH U.vm → im_Pc D cs ad h H.size as (as.map (im_v ad)).toArray U := fun U hU hW => ⟨rfl, by rw [hU], by rw [hU]; exact hS.2.1, va_K.moved hW.alike hS.1, hS.2.2.1.weaken (fun _ _ _ _ => trivial), hS.2.2.2.2.2, im_Nx.warm hW hC.2.2.2.2.2.2.2.2.2.2⟩
  exact va_runS (As := as.map (im_v ad)) (n := as.length) ⟨hC.1, hC.2.1, hC.2.2.1, hC.2.2.2.1, hC.2.2.2.2.1⟩ hM ⟨callB_of as.length hC.2.2.2.2.1 hG rfl rfl rfl (hC.2.2.2.2.1 _ hm.2.2.1) (hC.2.2.2.2.1 _ h1) ⟨hm.2.2.2.1.1, hm.2.2.2.1.2, hn⟩ (im_room hC.2.2.2.2.2.2.2.2.1 hC.2.2.2.2.2.2.2.2.2.1 hlt hm.2.2.2.2.2.2.1), hC.2.2.2.2.1 _ h2⟩ ⟨im_blind, hsz⟩ rfl (by simp) hls (by simp) (lv_room (by rw [im_sum]; exact hr)) hd ⟨hc1, hc2⟩
/-- invokespecial of a constructor, by the class's own link or by a nest mate's -/
theorem im_runI {F : im_F} {d pc idx j na d' : Nat} {h : im_H} {y : MethodName} {F' : im_F} {as rest : List im_V} {o : Option Nat} (hd : decode F.2.2.2.2.1 pc = .ok (.invokespecial idx, 3)) (hm : im_mf y na F') (hlt : d' < d) (hret : F'.2.2.2.1 = none)
    (h1 : Cond.methodLink (nm_R F.1) idx y ∈ im_g ∨ ∃ host, (nm_R F.1, idx, y, host) ∈ im_nest) (h2 : Cond.instanceMethod y ∈ im_g) (h3 : y.name = "<init>") (hn : (parseMethodDescriptor y.desc).map (fun d => d.parameters.length) = some as.length) (hr : rest.length ≤ 8) (ho : o = some j) :
    im_Run F d pc (as.reverse ++ .inr o :: rest) h y d' F' (.inr o :: as) rest := by
  subst ho
  intro p l e R s m args below meth c H locs cells slots D cs A ad ls r Qc free hC hS hls hM hc1 hc2
  have hG : GoodIn im_g (im_ws y F') := im_goodIn (fun w hw => by
    rcases List.mem_cons.mp hw with rfl | hw
    · exact hm.2.1
    · exact hw)
  have hsz : ∀ U : State, U.heap = H → s.WarmedH U.vm → im_Pc D cs ad h H.size (.inr (some j) :: as) (Value.ref (ad j) :: as.map (im_v ad)).toArray U := fun U hU hW => ⟨rfl, by rw [hU], by rw [hU]; exact hS.2.1, va_K.moved hW.alike hS.1, hS.2.2.1.weaken (fun _ _ _ _ => trivial), hS.2.2.2.2.2, im_Nx.warm hW hC.2.2.2.2.2.2.2.2.2.2⟩
  have hw : im_ws y F' = Cond.code y F'.2.2.2.2.1 F'.2.2.2.2.2 none :: im_g := by unfold im_ws; rw [hret]
  have hro := im_room hC.2.2.2.2.2.2.2.2.1 hC.2.2.2.2.2.2.2.2.2.1 hlt hm.2.2.2.2.2.2.1
  rcases h1 with h1 | ⟨host, h1⟩
  · exact va_runI (As := as.map (im_v ad)) (b := ad j) (n := as.length) ⟨hC.1, hC.2.1, hC.2.2.1, hC.2.2.2.1, hC.2.2.2.2.1⟩ hM (cwI as.length hC.2.2.2.2.1 hG hw rfl rfl (hC.2.2.2.2.1 _ hm.2.2.1) (hC.2.2.2.2.1 _ h1) (hC.2.2.2.2.1 _ h2) h3 ⟨hm.2.2.2.1.1, hm.2.2.2.1.2, hn⟩ hro) ⟨im_blind, hsz⟩ rfl (by simp) hls (by simp [im_v, va_re, va_rf]) (lv_room (by rw [im_sum]; exact hr)) hd ⟨hc1, hc2⟩
  · exact va_runIN (As := as.map (im_v ad)) (b := ad j) (n := as.length) (host := host) ⟨hC.1, hC.2.1, hC.2.2.1, hC.2.2.2.1, hC.2.2.2.2.1⟩ hM ⟨va_cnB as.length hC.2.2.2.2.1 hG hw rfl rfl (hC.2.2.2.2.2.2.2.2.2.2.2 _ h1) (hC.2.2.2.2.1 _ hm.2.2.1) ⟨hm.2.2.2.1.1, hm.2.2.2.1.2, hn⟩ hro, h3, hC.2.2.2.2.1 _ h2⟩ ⟨im_blind, hsz⟩ rfl (by simp) hls (by simp [im_v, va_re, va_rf]) (lv_room (by rw [im_sum]; exact hr)) hd ⟨hc1, hc2⟩
