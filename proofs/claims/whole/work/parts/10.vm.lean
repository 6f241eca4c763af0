/-! a small machine over numbered cells: values, heap, its picture in the kit's world -/
/-- the tables' words that stay as the machine warms -/
def im_g : List Cond := lw_tbl.filter goodWord
theorem im_gm {w : Cond} (h : w ∈ lw_tbl) (hg : goodWord w = true) : w ∈ im_g := List.mem_filter.mpr ⟨h, hg⟩
/-- the links of a nest mate's constructor -/
def im_nest : List (String × Nat × MethodName × String) := [("FencedModules", 18, ⟨"FencedModules$Code", "<init>", "()V"⟩, "FencedModules"), ("FencedModules$Sandbox", 18, ⟨"FencedModules$Desk", "<init>", "()V"⟩, "FencedModules"), ("FencedModules$Desk", 9, ⟨"FencedModules$CallList", "<init>", "()V"⟩, "FencedModules"), ("FencedModules", 32, ⟨"FencedModules$Follower", "<init>", "()V"⟩, "FencedModules"), ("FencedModules$Follower", 15, ⟨"FencedModules$Desk", "<init>", "()V"⟩, "FencedModules")]
def im_Nx (U : State) : Prop := va_AO (nm_R 5) U ∧ ∀ q ∈ im_nest, va_Nw (.methodLinkNest q.1 q.2.1 q.2.2.1 q.2.2.2) U
theorem im_Nx.warm {s U : State} (hW : s.WarmedH U.vm) (h : im_Nx s) : im_Nx U := ⟨va_AO.moved hW.alike h.1, fun q hq => va_Nw.warmM hW (h.2 q hq)⟩
theorem im_Nx.same {s U : State} (he : s.vm = U.vm) (h : im_Nx s) : im_Nx U := ⟨va_AO.moved (by rw [he]; exact Vm.Alike.refl U.vm) h.1, fun q hq => va_Nw.same rfl he (h.2 q hq)⟩
/-- an int, or a reference: null or a cell's number -/
abbrev im_V : Type := Int32 ⊕ Option Nat
/-- (cells, slots so far), kind of each cell, references, ints -/
abbrev im_H : Type := (Nat × Nat) × (Nat → Nat × Nat) × (Nat → Nat → Option Nat) × (Nat → Nat → Int32)
abbrev im_L : Type := List (Nat × im_V)
/-- a frame's constants: class, constructor?, makes cells?, answer, code, locals -/
abbrev im_F : Type := Nat × Bool × Bool × Option FieldType × ByteArray × Nat
abbrev im_rs : Type := Option im_V × im_H
def im_v (ad : Nat → Nat) (v : im_V) : Value := match v with
  | .inl x => .int x
  | .inr r => va_re ad r
def im_lv (ad : Nat → Nat) (lv : im_L) : List (Nat × Value) := lv.map fun q => (q.1, im_v ad q.2)
def im_u {α : Type} (f : Nat → Nat → α) (j k : Nat) (x : α) : Nat → Nat → α := fun a b => if a = j then (if b = k then x else f a b) else f a b
/-- an int field? -/
def im_i (ci k : Nat) : Bool := match nm_ty ci k with
  | .int => true
  | _ => false
def im_N (ci : Nat) : Nat := match nm_cl[ci]? with
  | some q => q.2.2
  | none => 0
def im_fs (ad : Nat → Nat) (ci : Nat) (r : Nat → Option Nat) (f : Nat → Int32) : List Value := (List.range (im_N ci)).map fun k => if im_i ci k = true then .int (f k) else va_re ad (r k)
def im_ra (ad : Nat → Nat) (r : Nat → Option Nat) : Nat → Option Nat := fun i => if i < 32 then (r i).map ad else none
def im_e (cs : ClassId × ClassId × ClassId) (ad : Nat → Nat) (kd : Nat × Nat) (r : Nat → Option Nat) (f : Nat → Int32) : va_E := match kd.1 with
  | 0 => .inr (kd.2, im_fs ad kd.2 r f)
  | 1 => .inl (cs.1, kd.2, .inl f)
  | 2 => .inl (cs.2.1, kd.2, .inl f)
  | _ => .inl (cs.2.2, kd.2, .inr (.inr (.inr (.inr (im_ra ad r)))))
def im_W (cs : ClassId × ClassId × ClassId) (ad : Nat → Nat) (h : im_H) : va_W := (List.range h.1.1).map fun j => (ad j, im_e cs ad (h.2.1 j) (h.2.2.1 j) (h.2.2.2 j))
abbrev im_tys (cs : ClassId × ClassId × ClassId) : List (ClassId × FieldType) := [(cs.1, .int), (cs.2.1, .boolean), (cs.2.2, .object (nm_R 5))]
def im_Cx (p : Program) (R : Room) (s : State) (m : MethodId) (args : Array Value) (meth : Method) (c : Code) (d : Nat) (F : im_F) : Prop :=
  p.tables.exec = Jvm.exec ∧ c.code = F.2.2.2.2.1 ∧ c.maxLocals = F.2.2.2.2.2 ∧ s.vm.findClass (nm_R F.1) = some m.cls ∧ (∀ w ∈ im_g, w.before args s = true) ∧ meth.sig.returnType = F.2.2.2.1 ∧ meth.locks = false ∧ (F.2.1 = true → meth.name = "<init>") ∧ R.frames = d ∧ R.locals = 32 * d ∧ im_Nx s
def im_St (D : va_G) (cs : ClassId × ClassId × ClassId) (s : State) (A : Nat → Prop) (H : Heap) (locs : List Loc) (ad : Nat → Nat) (h : im_H) : Prop :=
  va_K D nm_cl (im_tys cs) s ∧ va_P D nm_cl (im_W cs ad h) H ∧ va_D A (im_W cs ad h) ∧ va_S A s.heap H locs ∧ (∀ q, s.heap.size ≤ q → A q) ∧ ∀ j, h.1.1 ≤ j → (h.2.1 j).1 = 9
def im_Ad (h h' : im_H) (ad ad' : Nat → Nat) : Prop := ∀ j, (j < h.1.1 ∨ h'.1 = h.1) → ad' j = ad j
def im_Sem (l : Launch) (D : va_G) (cs : ClassId × ClassId × ClassId) (d : Nat) (F : im_F) (pc : Nat) (lv : im_L) (st : List im_V) (h : im_H) (r : im_rs) : Prop :=
  (h.1.1 ≤ r.2.1.1 ∧ h.1.2 ≤ r.2.1.2 ∧ (F.2.2.1 = false → r.2.1 = h.1)) ∧
  ∀ (p : Program) (e : Env) (R : Room) (s : State) (m : MethodId) (args : Array Value) (below : List Frame) (meth : Method) (c : Code) (H : Heap) (locs : List Loc) (cells slots mc ms : Nat) (Qc : Array Value → State → Outcome → State → Prop) (free : Addr → Prop) (ad : Nat → Nat) (A : Nat → Prop) (ls : Array Slot),
    im_Cx p R s m args meth c d F → im_St D cs s A H locs ad h → lv_has ls F.2.2.2.2.2 (im_lv ad lv) →
    cells + (r.2.1.1 - h.1.1) = mc → slots + (r.2.1.2 - h.1.2) = ms → mc ≤ R.cells → ms ≤ R.slots → (∀ q, A q → free q) →
    (∀ (ad' : Nat → Nat) (H' : Heap) (locs' : List Loc) (t : State), t.heap = H' → s.WarmedH t.vm → im_Ad h r.2 ad ad' → im_St D cs s A H' locs' ad' r.2 → Qc args s (.returned (r.1.map (im_v ad'))) t) →
    W p l e R s m args below meth c H locs cells slots (MQ below Qc args s mc ms free) (F0 m pc ls (st.map (im_v ad)))
def im_Ev (d : Nat) (F : im_F) (pc : Nat) (lv : im_L) (st : List im_V) (h : im_H) (r : im_rs) : Prop := ∀ l D cs, im_Sem l D cs d F pc lv st h r
def im_Go {α : Type} (z : α → im_rs) (d : Nat) (F : im_F) (pc : Nat) (lv : im_L) (st : List im_V) (h : im_H) (t : Option α) : Prop := ∀ a, t = some a → im_Ev d F pc lv st h (z a)
def im_zI (a : Int32 × im_H) : im_rs := (some (.inl a.1), a.2)
def im_zR (a : Option Nat × im_H) : im_rs := (some (.inr a.1), a.2)
def im_zV (a : im_H) : im_rs := (none, a)
theorem im_cat (ad : Nat → Nat) (v : im_V) : (im_v ad v).category = 1 := by
  cases v with
  | inl x => rfl
  | inr r => cases r <;> rfl
theorem im_Wat {cs : ClassId × ClassId × ClassId} {ad : Nat → Nat} {h : im_H} {j : Nat} (hj : j < h.1.1) : (im_W cs ad h)[j]? = some (ad j, im_e cs ad (h.2.1 j) (h.2.2.1 j) (h.2.2.2 j)) := by
  simp [im_W, hj]
theorem im_lvat {ad : Nat → Nat} {lv : im_L} {ls : Array Slot} {nL i : Nat} {v : im_V} (h : lv_has ls nL (im_lv ad lv)) (hl : lv.lookup i = some v) : ls[i]? = some (.val (im_v ad v)) := by
  refine h.2.2 (i, im_v ad v) ?_
  have hm : (i, v) ∈ lv := by
    clear h
    induction lv with
    | nil => simp at hl
    | cons q lv ih =>
      obtain ⟨a, b⟩ := q
      rw [List.lookup_cons] at hl
      by_cases hq : i = a
      · subst hq
        simp at hl
        simp [hl]
      · have : (i == a) = false := by simpa using hq
        simp only [this] at hl
        exact List.mem_cons_of_mem _ (ih hl)
  exact List.mem_map.mpr ⟨(i, v), hm, rfl⟩
/-- a local is set -/
def im_ls (lv : im_L) (i : Nat) (v : im_V) : im_L := (i, v) :: lv.filter fun q => !(q.1 == i)
theorem im_lvset (ad : Nat → Nat) (lv : im_L) (i : Nat) (v : im_V) : (i, im_v ad v) :: (im_lv ad lv).filter (fun q => !(q.1 == i) && !(q.1 + 1 == i && q.2.category == 2)) = im_lv ad (im_ls lv i v) := by
  simp only [im_lv, im_ls, List.map_cons, List.filter_map]
  congr 2
  apply List.filter_congr
  intro q _
  simp [Function.comp, im_cat]
/-- a plain instruction: nothing of the heap changes -/
theorem im_plain {α : Type} {z : α → im_rs} {d : Nat} {F : im_F} {pc pc' : Nat} {lv lv' : im_L} {st st' : List im_V} {h : im_H} {t : Option α}
    (hW : ∀ (ad : Nat → Nat) (p : Program) (l : Launch) (e : Env) (R : Room) (s : State) (m : MethodId) (args : Array Value) (below : List Frame) (meth : Method) (c : Code) (H : Heap) (locs : List Loc) (cells slots : Nat) (Q : State → Prop) (ls : Array Slot), im_Cx p R s m args meth c d F → lv_has ls F.2.2.2.2.2 (im_lv ad lv) →
      (∀ ls', lv_has ls' F.2.2.2.2.2 (im_lv ad lv') → W p l e R s m args below meth c H locs cells slots Q (F0 m pc' ls' (st'.map (im_v ad)))) → W p l e R s m args below meth c H locs cells slots Q (F0 m pc ls (st.map (im_v ad))))
    (k : im_Go z d F pc' lv' st' h t) : im_Go z d F pc lv st h t := by
  intro a ha l D cs
  obtain ⟨k1, k2⟩ := k a ha l D cs
  refine ⟨k1, ?_⟩
  intro p e R s m args below meth c H locs cells slots mc ms Qc free ad A ls hC hS hl h1 h2 h3 h4 h5 h6
  exact hW ad p l e R s m args below meth c H locs cells slots _ ls hC hl (fun ls' hl' => k2 p e R s m args below meth c H locs cells slots mc ms Qc free ad A ls' hC hS hl' h1 h2 h3 h4 h5 h6)
/-- a fork -/
theorem im_fork {α : Type} {z : α → im_rs} {d : Nat} {F : im_F} {pc pc' pc'' : Nat} {lv : im_L} {st st' : List im_V} {h : im_H} {t u : Option α} {b : Prop} (hdec : Decidable b)
    (hW : ∀ (ad : Nat → Nat) (p : Program) (l : Launch) (e : Env) (R : Room) (s : State) (m : MethodId) (args : Array Value) (below : List Frame) (meth : Method) (c : Code) (H : Heap) (locs : List Loc) (cells slots : Nat) (Q : State → Prop) (ls : Array Slot), im_Cx p R s m args meth c d F →
      (b → W p l e R s m args below meth c H locs cells slots Q (F0 m pc' ls (st'.map (im_v ad)))) → (¬ b → W p l e R s m args below meth c H locs cells slots Q (F0 m pc'' ls (st'.map (im_v ad)))) → W p l e R s m args below meth c H locs cells slots Q (F0 m pc ls (st.map (im_v ad))))
    (k : b → im_Go z d F pc' lv st' h t) (k2 : ¬ b → im_Go z d F pc'' lv st' h u) : im_Go z d F pc lv st h (if b then t else u) := by
  intro a ha l D cs
  by_cases hb : b
  · rw [if_pos hb] at ha
    obtain ⟨k1, k2⟩ := k hb a ha l D cs
    refine ⟨k1, ?_⟩
    intro p e R s m args below meth c H locs cells slots mc ms Qc free ad A ls hC hS hl h1 h2 h3 h4 h5 h6
    exact hW ad p l e R s m args below meth c H locs cells slots _ ls hC (fun _ => k2 p e R s m args below meth c H locs cells slots mc ms Qc free ad A ls hC hS hl h1 h2 h3 h4 h5 h6) (fun h => absurd hb h)
  · rw [if_neg hb] at ha
    obtain ⟨k1, k2⟩ := k2 hb a ha l D cs
    refine ⟨k1, ?_⟩
    intro p e R s m args below meth c H locs cells slots mc ms Qc free ad A ls hC hS hl h1 h2 h3 h4 h5 h6
    exact hW ad p l e R s m args below meth c H locs cells slots _ ls hC (fun h => absurd h hb) (fun _ => k2 p e R s m args below meth c H locs cells slots mc ms Qc free ad A ls hC hS hl h1 h2 h3 h4 h5 h6)
/-- checks that the machine doesn't see -/
theorem im_chk {α : Type} {z : α → im_rs} {d : Nat} {F : im_F} {pc : Nat} {lv : im_L} {st : List im_V} {h : im_H} {t : Option α} {b : Prop} (hdec : Decidable b) (k : b → im_Go z d F pc lv st h t) : im_Go z d F pc lv st h (if b then t else none) := by
  intro a ha
  by_cases hb : b
  · rw [if_pos hb] at ha
    exact k hb a ha
  · rw [if_neg hb] at ha
    cases ha
theorem im_bind {α β : Type} {z : α → im_rs} {d : Nat} {F : im_F} {pc : Nat} {lv : im_L} {st : List im_V} {h : im_H} {o : Option β} {t : β → Option α} (k : ∀ q, o = some q → im_Go z d F pc lv st h (t q)) : im_Go z d F pc lv st h (o.bind t) := by
  intro a ha
  cases ho : o with
  | none => rw [ho] at ha; cases ha
  | some q => rw [ho] at ha; exact k q ho a ha
theorem im_none {α : Type} {z : α → im_rs} {d : Nat} {F : im_F} {pc : Nat} {lv : im_L} {st : List im_V} {h : im_H} : im_Go z d F pc lv st h none := fun a ha => by cases ha
section XR
variable {α : Type} {z : α → im_rs} {d : Nat} {F : im_F} {pc : Nat} {lv : im_L} {st : List im_V} {h : im_H} {t u : Option α}
theorem x_iconst {n : Int} (v : Int32) (hd : decode F.2.2.2.2.1 pc = .ok (.iconst n, 1)) (hv : Int32.ofInt n = v) (k : im_Go z d F (pc + 1) lv (.inl v :: st) h t) : im_Go z d F pc lv st h t :=
  im_plain (fun ad p l e R s m args below meth c H locs cells slots Q ls hC hl kk => lv_iconst hC.1 hC.2.1 hd hv (kk ls hl)) k
theorem x_bipush {n : Int} (v : Int32) (hd : decode F.2.2.2.2.1 pc = .ok (.bipush n, 2)) (hv : (Int8.ofInt n).toInt32 = v) (k : im_Go z d F (pc + 2) lv (.inl v :: st) h t) : im_Go z d F pc lv st h t :=
  im_plain (fun ad p l e R s m args below meth c H locs cells slots Q ls hC hl kk => lv_bipush hC.1 hC.2.1 hd hv (kk ls hl)) k
theorem x_sipush {n : Int} (v : Int32) (hd : decode F.2.2.2.2.1 pc = .ok (.sipush n, 3)) (hv : (Int16.ofInt n).toInt32 = v) (k : im_Go z d F (pc + 3) lv (.inl v :: st) h t) : im_Go z d F pc lv st h t :=
  im_plain (fun ad p l e R s m args below meth c H locs cells slots Q ls hC hl kk => lv_sipush hC.1 hC.2.1 hd hv (kk ls hl)) k
theorem x_ldc {n : Nat} (v : Int32) (hd : decode F.2.2.2.2.1 pc = .ok (.ldc n, 2)) (hv : Cond.constant (nm_R F.1) n v ∈ im_g) (k : im_Go z d F (pc + 2) lv (.inl v :: st) h t) : im_Go z d F pc lv st h t :=
  im_plain (fun ad p l e R s m args below meth c H locs cells slots Q ls hC hl kk => lv_ldc hC.1 hC.2.1 hC.2.2.2.1 (hC.2.2.2.2.1 _ hv) hd (kk ls hl)) k
theorem x_null (hd : decode F.2.2.2.2.1 pc = .ok (.aconst_null, 1)) (k : im_Go z d F (pc + 1) lv (.inr none :: st) h t) : im_Go z d F pc lv st h t :=
  im_plain (fun ad p l e R s m args below meth c H locs cells slots Q ls hC hl kk => lv_null hC.1 hC.2.1 hd (kk ls hl)) k
theorem x_iload_n {k : Fin 4} {x : Int32} (hd : decode F.2.2.2.2.1 pc = .ok (.iload_n k, 1)) (hx : lv.lookup k.val = some (.inl x)) (kk : im_Go z d F (pc + 1) lv (.inl x :: st) h t) : im_Go z d F pc lv st h t :=
  im_plain (fun ad p l e R s m args below meth c H locs cells slots Q ls hC hl kk => lv_iload_n hC.1 hC.2.1 hd rfl (im_lvat hl hx) (kk ls hl)) kk
theorem x_iload {k : Nat} {x : Int32} (hd : decode F.2.2.2.2.1 pc = .ok (.iload k, 2)) (hx : lv.lookup k = some (.inl x)) (kk : im_Go z d F (pc + 2) lv (.inl x :: st) h t) : im_Go z d F pc lv st h t :=
  im_plain (fun ad p l e R s m args below meth c H locs cells slots Q ls hC hl kk => lv_iload hC.1 hC.2.1 hd (im_lvat hl hx) (kk ls hl)) kk
theorem x_aload_n {k : Fin 4} {x : Option Nat} (hd : decode F.2.2.2.2.1 pc = .ok (.aload_n k, 1)) (hx : lv.lookup k.val = some (.inr x)) (kk : im_Go z d F (pc + 1) lv (.inr x :: st) h t) : im_Go z d F pc lv st h t :=
  im_plain (fun ad p l e R s m args below meth c H locs cells slots Q ls hC hl kk => by
    have h9 := im_lvat hl hx
    cases x with
    | none => exact lv_aload_nN hC.1 hC.2.1 hd rfl h9 (kk ls hl)
    | some x => exact lv_aload_n hC.1 hC.2.1 hd rfl h9 (kk ls hl)) kk
theorem x_aload {k : Nat} {x : Option Nat} (hd : decode F.2.2.2.2.1 pc = .ok (.aload k, 2)) (hx : lv.lookup k = some (.inr x)) (kk : im_Go z d F (pc + 2) lv (.inr x :: st) h t) : im_Go z d F pc lv st h t :=
  im_plain (fun ad p l e R s m args below meth c H locs cells slots Q ls hC hl kk => by
    have h9 := im_lvat hl hx
    cases x with
    | none => exact lv_aloadN hC.1 hC.2.1 hd h9 (kk ls hl)
    | some x => exact lv_aload hC.1 hC.2.1 hd h9 (kk ls hl)) kk
theorem x_istore_n {k : Fin 4} {x : Int32} (hd : decode F.2.2.2.2.1 pc = .ok (.istore_n k, 1)) (hn : k.val < F.2.2.2.2.2) (kk : im_Go z d F (pc + 1) (im_ls lv k.val (.inl x)) st h t) : im_Go z d F pc lv (.inl x :: st) h t :=
  im_plain (fun ad p l e R s m args below meth c H locs cells slots Q ls hC hl kk => lv_istore_n hC.1 hC.2.1 hd rfl hl hn (im_lvset ad lv k.val (.inl x)) kk) kk
theorem x_istore {k : Nat} {x : Int32} (hd : decode F.2.2.2.2.1 pc = .ok (.istore k, 2)) (hn : k < F.2.2.2.2.2) (kk : im_Go z d F (pc + 2) (im_ls lv k (.inl x)) st h t) : im_Go z d F pc lv (.inl x :: st) h t :=
  im_plain (fun ad p l e R s m args below meth c H locs cells slots Q ls hC hl kk => lv_istore hC.1 hC.2.1 hd hl hn (im_lvset ad lv k (.inl x)) kk) kk
theorem x_astore_n {k : Fin 4} {x : Option Nat} (hd : decode F.2.2.2.2.1 pc = .ok (.astore_n k, 1)) (hn : k.val < F.2.2.2.2.2) (kk : im_Go z d F (pc + 1) (im_ls lv k.val (.inr x)) st h t) : im_Go z d F pc lv (.inr x :: st) h t :=
  im_plain (fun ad p l e R s m args below meth c H locs cells slots Q ls hC hl kk => by
    have h9 := im_lvset ad lv k.val (.inr x)
    cases x with
    | none => exact lv_astore_nN hC.1 hC.2.1 hd rfl hl hn h9 kk
    | some x => exact lv_astore_n hC.1 hC.2.1 hd rfl hl hn h9 kk) kk
theorem x_astore {k : Nat} {x : Option Nat} (hd : decode F.2.2.2.2.1 pc = .ok (.astore k, 2)) (hn : k < F.2.2.2.2.2) (kk : im_Go z d F (pc + 2) (im_ls lv k (.inr x)) st h t) : im_Go z d F pc lv (.inr x :: st) h t :=
  im_plain (fun ad p l e R s m args below meth c H locs cells slots Q ls hC hl kk => by
    have h9 := im_lvset ad lv k (.inr x)
    cases x with
    | none => exact lv_astoreN hC.1 hC.2.1 hd hl hn h9 kk
    | some x => exact lv_astore hC.1 hC.2.1 hd hl hn h9 kk) kk
theorem x_iinc {i : Nat} {n : Int} {x : Int32} (v : Int32) (hd : decode F.2.2.2.2.1 pc = .ok (.iinc i n, 3)) (hx : lv.lookup i = some (.inl x)) (hv : Int32.ofInt n = v) (hn : i < F.2.2.2.2.2) (kk : im_Go z d F (pc + 3) (im_ls lv i (.inl (x + v))) st h t) : im_Go z d F pc lv st h t :=
  im_plain (fun ad p l e R s m args below meth c H locs cells slots Q ls hC hl kk => by
    have h9 := im_lvat hl hx
    have hl2 : lv_has ls F.2.2.2.2.2 (im_lv ad ((i, .inl x) :: lv)) := ⟨hl.1, hl.2.1, fun q hq => by
      rcases List.mem_cons.mp hq with rfl | hq
      · exact h9
      · exact hl.2.2 q hq⟩
    refine lv_iinc (k := 0) hC.1 hC.2.1 hd hl2 rfl (by rw [hv]) hn (im_lvset ad ((i, .inl x) :: lv) i (.inl (x + v))) (fun ls' h7 => kk ls' ?_)
    have : im_ls ((i, .inl x) :: lv) i (.inl (x + v)) = im_ls lv i (.inl (x + v)) := by simp [im_ls]
    rwa [this] at h7) kk
theorem x_iadd {x y : Int32} (hd : decode F.2.2.2.2.1 pc = .ok (.iadd, 1)) (k : im_Go z d F (pc + 1) lv (.inl (x + y) :: st) h t) : im_Go z d F pc lv (.inl y :: .inl x :: st) h t :=
  im_plain (fun ad p l e R s m args below meth c H locs cells slots Q ls hC hl kk => lv_iadd hC.1 hC.2.1 hd (kk ls hl)) k
theorem x_isub {x y : Int32} (hd : decode F.2.2.2.2.1 pc = .ok (.isub, 1)) (k : im_Go z d F (pc + 1) lv (.inl (x - y) :: st) h t) : im_Go z d F pc lv (.inl y :: .inl x :: st) h t :=
  im_plain (fun ad p l e R s m args below meth c H locs cells slots Q ls hC hl kk => lv_isub hC.1 hC.2.1 hd (kk ls hl)) k
theorem x_imul {x y : Int32} (hd : decode F.2.2.2.2.1 pc = .ok (.imul, 1)) (k : im_Go z d F (pc + 1) lv (.inl (x * y) :: st) h t) : im_Go z d F pc lv (.inl y :: .inl x :: st) h t :=
  im_plain (fun ad p l e R s m args below meth c H locs cells slots Q ls hC hl kk => lv_imul hC.1 hC.2.1 hd (kk ls hl)) k
theorem x_iand {x y : Int32} (hd : decode F.2.2.2.2.1 pc = .ok (.iand, 1)) (k : im_Go z d F (pc + 1) lv (.inl (x &&& y) :: st) h t) : im_Go z d F pc lv (.inl y :: .inl x :: st) h t :=
  im_plain (fun ad p l e R s m args below meth c H locs cells slots Q ls hC hl kk => lv_iand hC.1 hC.2.1 hd (kk ls hl)) k
theorem x_ior {x y : Int32} (hd : decode F.2.2.2.2.1 pc = .ok (.ior, 1)) (k : im_Go z d F (pc + 1) lv (.inl (x ||| y) :: st) h t) : im_Go z d F pc lv (.inl y :: .inl x :: st) h t :=
  im_plain (fun ad p l e R s m args below meth c H locs cells slots Q ls hC hl kk => lv_ior hC.1 hC.2.1 hd (kk ls hl)) k
theorem x_ixor {x y : Int32} (hd : decode F.2.2.2.2.1 pc = .ok (.ixor, 1)) (k : im_Go z d F (pc + 1) lv (.inl (x ^^^ y) :: st) h t) : im_Go z d F pc lv (.inl y :: .inl x :: st) h t :=
  im_plain (fun ad p l e R s m args below meth c H locs cells slots Q ls hC hl kk => lv_ixor hC.1 hC.2.1 hd (kk ls hl)) k
theorem x_ishl {x y : Int32} (hd : decode F.2.2.2.2.1 pc = .ok (.ishl, 1)) (k : im_Go z d F (pc + 1) lv (.inl (x <<< (y &&& 31)) :: st) h t) : im_Go z d F pc lv (.inl y :: .inl x :: st) h t :=
  im_plain (fun ad p l e R s m args below meth c H locs cells slots Q ls hC hl kk => lv_ishl hC.1 hC.2.1 hd (kk ls hl)) k
theorem x_ishr {x y : Int32} (hd : decode F.2.2.2.2.1 pc = .ok (.ishr, 1)) (k : im_Go z d F (pc + 1) lv (.inl (x >>> (y &&& 31)) :: st) h t) : im_Go z d F pc lv (.inl y :: .inl x :: st) h t :=
  im_plain (fun ad p l e R s m args below meth c H locs cells slots Q ls hC hl kk => lv_ishr hC.1 hC.2.1 hd (kk ls hl)) k
theorem x_dup {v : im_V} (hd : decode F.2.2.2.2.1 pc = .ok (.dup, 1)) (k : im_Go z d F (pc + 1) lv (v :: v :: st) h t) : im_Go z d F pc lv (v :: st) h t :=
  im_plain (fun ad p l e R s m args below meth c H locs cells slots Q ls hC hl kk => lv_dup hC.1 hC.2.1 hd (im_cat ad v) (kk ls hl)) k
theorem x_pop {v : im_V} (hd : decode F.2.2.2.2.1 pc = .ok (.pop, 1)) (k : im_Go z d F (pc + 1) lv st h t) : im_Go z d F pc lv (v :: st) h t :=
  im_plain (fun ad p l e R s m args below meth c H locs cells slots Q ls hC hl kk => lv_pop hC.1 hC.2.1 hd (im_cat ad v) (kk ls hl)) k
theorem x_dup2 {v w : im_V} (hd : decode F.2.2.2.2.1 pc = .ok (.dup2, 1)) (k : im_Go z d F (pc + 1) lv (v :: w :: v :: w :: st) h t) : im_Go z d F pc lv (v :: w :: st) h t :=
  im_plain (fun ad p l e R s m args below meth c H locs cells slots Q ls hC hl kk => lv_dup2_11 hC.1 hC.2.1 hd (im_cat ad v) (im_cat ad w) (kk ls hl)) k
theorem x_goto {off : Int} (tgt : Nat) (hd : decode F.2.2.2.2.1 pc = .ok (.goto off, 3)) (ht : (pc : Int) + off = (tgt : Int)) (k : im_Go z d F tgt lv st h t) : im_Go z d F pc lv st h t :=
  im_plain (fun ad p l e R s m args below meth c H locs cells slots Q ls hC hl kk => lv_goto hC.1 hC.2.1 hd ht (kk ls hl)) k
theorem x_icmp_eq {x y : Int32} {off : Int} (tgt : Nat) (hd : decode F.2.2.2.2.1 pc = .ok (.if_icmp .eq off, 3)) (ht : (pc : Int) + off = (tgt : Int)) (k : x = y → im_Go z d F tgt lv st h t) (k2 : ¬ x = y → im_Go z d F (pc + 3) lv st h u) : im_Go z d F pc lv (.inl y :: .inl x :: st) h (if x = y then t else u) :=
  im_fork _ (fun ad p l e R s m args below meth c H locs cells slots Q ls hC kt kf => lv_icmp_eq hC.1 hC.2.1 hd ht kt kf) k k2
theorem x_if_eq {x : Int32} {off : Int} (tgt : Nat) (hd : decode F.2.2.2.2.1 pc = .ok (.ifCond .eq off, 3)) (ht : (pc : Int) + off = (tgt : Int)) (k : x = 0 → im_Go z d F tgt lv st h t) (k2 : ¬ x = 0 → im_Go z d F (pc + 3) lv st h u) : im_Go z d F pc lv (.inl x :: st) h (if x = 0 then t else u) :=
  im_fork _ (fun ad p l e R s m args below meth c H locs cells slots Q ls hC kt kf => lv_if_eq hC.1 hC.2.1 hd ht kt kf) k k2
theorem x_icmp_lt {x y : Int32} {off : Int} (tgt : Nat) (hd : decode F.2.2.2.2.1 pc = .ok (.if_icmp .lt off, 3)) (ht : (pc : Int) + off = (tgt : Int)) (k : x < y → im_Go z d F tgt lv st h t) (k2 : ¬ x < y → im_Go z d F (pc + 3) lv st h u) : im_Go z d F pc lv (.inl y :: .inl x :: st) h (if x < y then t else u) :=
  im_fork _ (fun ad p l e R s m args below meth c H locs cells slots Q ls hC kt kf => lv_icmp_lt hC.1 hC.2.1 hd ht kt kf) k k2
theorem x_if_lt {x : Int32} {off : Int} (tgt : Nat) (hd : decode F.2.2.2.2.1 pc = .ok (.ifCond .lt off, 3)) (ht : (pc : Int) + off = (tgt : Int)) (k : x < 0 → im_Go z d F tgt lv st h t) (k2 : ¬ x < 0 → im_Go z d F (pc + 3) lv st h u) : im_Go z d F pc lv (.inl x :: st) h (if x < 0 then t else u) :=
  im_fork _ (fun ad p l e R s m args below meth c H locs cells slots Q ls hC kt kf => lv_if_lt hC.1 hC.2.1 hd ht kt kf) k k2
theorem x_icmp_ge {x y : Int32} {off : Int} (tgt : Nat) (hd : decode F.2.2.2.2.1 pc = .ok (.if_icmp .ge off, 3)) (ht : (pc : Int) + off = (tgt : Int)) (k : y ≤ x → im_Go z d F tgt lv st h t) (k2 : ¬ y ≤ x → im_Go z d F (pc + 3) lv st h u) : im_Go z d F pc lv (.inl y :: .inl x :: st) h (if y ≤ x then t else u) :=
  im_fork _ (fun ad p l e R s m args below meth c H locs cells slots Q ls hC kt kf => lv_icmp_ge hC.1 hC.2.1 hd ht kt kf) k k2
theorem x_if_ge {x : Int32} {off : Int} (tgt : Nat) (hd : decode F.2.2.2.2.1 pc = .ok (.ifCond .ge off, 3)) (ht : (pc : Int) + off = (tgt : Int)) (k : 0 ≤ x → im_Go z d F tgt lv st h t) (k2 : ¬ 0 ≤ x → im_Go z d F (pc + 3) lv st h u) : im_Go z d F pc lv (.inl x :: st) h (if 0 ≤ x then t else u) :=
  im_fork _ (fun ad p l e R s m args below meth c H locs cells slots Q ls hC kt kf => lv_if_ge hC.1 hC.2.1 hd ht kt kf) k k2
theorem x_icmp_gt {x y : Int32} {off : Int} (tgt : Nat) (hd : decode F.2.2.2.2.1 pc = .ok (.if_icmp .gt off, 3)) (ht : (pc : Int) + off = (tgt : Int)) (k : y < x → im_Go z d F tgt lv st h t) (k2 : ¬ y < x → im_Go z d F (pc + 3) lv st h u) : im_Go z d F pc lv (.inl y :: .inl x :: st) h (if y < x then t else u) :=
  im_fork _ (fun ad p l e R s m args below meth c H locs cells slots Q ls hC kt kf => lv_icmp_gt hC.1 hC.2.1 hd ht kt kf) k k2
theorem x_if_gt {x : Int32} {off : Int} (tgt : Nat) (hd : decode F.2.2.2.2.1 pc = .ok (.ifCond .gt off, 3)) (ht : (pc : Int) + off = (tgt : Int)) (k : 0 < x → im_Go z d F tgt lv st h t) (k2 : ¬ 0 < x → im_Go z d F (pc + 3) lv st h u) : im_Go z d F pc lv (.inl x :: st) h (if 0 < x then t else u) :=
  im_fork _ (fun ad p l e R s m args below meth c H locs cells slots Q ls hC kt kf => lv_if_gt hC.1 hC.2.1 hd ht kt kf) k k2
theorem x_icmp_le {x y : Int32} {off : Int} (tgt : Nat) (hd : decode F.2.2.2.2.1 pc = .ok (.if_icmp .le off, 3)) (ht : (pc : Int) + off = (tgt : Int)) (k : x ≤ y → im_Go z d F tgt lv st h t) (k2 : ¬ x ≤ y → im_Go z d F (pc + 3) lv st h u) : im_Go z d F pc lv (.inl y :: .inl x :: st) h (if x ≤ y then t else u) :=
  im_fork _ (fun ad p l e R s m args below meth c H locs cells slots Q ls hC kt kf => lv_icmp_le hC.1 hC.2.1 hd ht kt kf) k k2
theorem x_if_le {x : Int32} {off : Int} (tgt : Nat) (hd : decode F.2.2.2.2.1 pc = .ok (.ifCond .le off, 3)) (ht : (pc : Int) + off = (tgt : Int)) (k : x ≤ 0 → im_Go z d F tgt lv st h t) (k2 : ¬ x ≤ 0 → im_Go z d F (pc + 3) lv st h u) : im_Go z d F pc lv (.inl x :: st) h (if x ≤ 0 then t else u) :=
  im_fork _ (fun ad p l e R s m args below meth c H locs cells slots Q ls hC kt kf => lv_if_le hC.1 hC.2.1 hd ht kt kf) k k2
theorem x_icmp_ne {x y : Int32} {off : Int} (tgt : Nat) (hd : decode F.2.2.2.2.1 pc = .ok (.if_icmp .ne off, 3)) (ht : (pc : Int) + off = (tgt : Int)) (k : x = y → im_Go z d F (pc + 3) lv st h t) (k2 : ¬ x = y → im_Go z d F tgt lv st h u) : im_Go z d F pc lv (.inl y :: .inl x :: st) h (if x = y then t else u) :=
  im_fork _ (fun ad p l e R s m args below meth c H locs cells slots Q ls hC kt kf => lv_icmp_ne hC.1 hC.2.1 hd ht kf kt) k k2
theorem x_if_ne {x : Int32} {off : Int} (tgt : Nat) (hd : decode F.2.2.2.2.1 pc = .ok (.ifCond .ne off, 3)) (ht : (pc : Int) + off = (tgt : Int)) (k : x = 0 → im_Go z d F (pc + 3) lv st h t) (k2 : ¬ x = 0 → im_Go z d F tgt lv st h u) : im_Go z d F pc lv (.inl x :: st) h (if x = 0 then t else u) :=
  im_fork _ (fun ad p l e R s m args below meth c H locs cells slots Q ls hC kt kf => lv_if_ne hC.1 hC.2.1 hd ht kf kt) k k2
theorem x_ifnull {o : Option Nat} {off : Int} (tgt : Nat) (hd : decode F.2.2.2.2.1 pc = .ok (.ifnull off, 3)) (ht : (pc : Int) + off = (tgt : Int)) (k : o = none → im_Go z d F tgt lv st h t) (k2 : ¬ o = none → im_Go z d F (pc + 3) lv st h u) : im_Go z d F pc lv (.inr o :: st) h (if o = none then t else u) :=
  im_fork _ (fun ad p l e R s m args below meth c H locs cells slots Q ls hC kt kf => by
    cases o with
    | none => exact lv_ifnullN hC.1 hC.2.1 hd ht (kt rfl)
    | some x => exact lv_ifnull hC.1 hC.2.1 hd (kf (by simp))) k k2
theorem x_ifnonnull {o : Option Nat} {off : Int} (tgt : Nat) (hd : decode F.2.2.2.2.1 pc = .ok (.ifnonnull off, 3)) (ht : (pc : Int) + off = (tgt : Int)) (k : o = none → im_Go z d F (pc + 3) lv st h t) (k2 : ¬ o = none → im_Go z d F tgt lv st h u) : im_Go z d F pc lv (.inr o :: st) h (if o = none then t else u) :=
  im_fork _ (fun ad p l e R s m args below meth c H locs cells slots Q ls hC kt kf => by
    cases o with
    | none => exact lv_ifnonnullN hC.1 hC.2.1 hd (kt rfl)
    | some x => exact lv_ifnonnull hC.1 hC.2.1 hd ht (kf (by simp))) k k2
end XR
