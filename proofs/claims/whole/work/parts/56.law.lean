/-! the law's walk, case by case (by wip/whole/gen_law.py) -/
/-! THE CLAIM OUT OF ONE WALK OF THE LAW'S BODY. Your part is whole_start (and what it stands on); all else here is the same for every law, but numbers. -/
def R_law : String := "FencedModulesLaw"
def lw_P (b : Addr) (xs : List Int32) (args : Array Value) (s : State) : Prop := args = #[.ref b] ∧ s.IntsAt b xs ∧ xs.length ≤ 2560 ∧ (Jvm.Cond.and given_1 narrow_1).before args s = true
def lw_Q (_ : Array Value) (s : State) (o : Outcome) (t : State) : Prop := o = .returned (some (.int 1)) ∧ Framed s o t [] 600000 7302250
def lw_Z (below : List Frame) (a : Array Value) (s : State) : State → Prop := fun t => ∃ o, t.status = .running ∧ Ended t below o ∧ lw_Q a s o t
/-- the law's own end, with 1 on the stack, nothing written that was there before, its room as the claim has it -/
theorem lw_ret {p : Program} {l : Launch} {e : Env} {s : State} {m : MethodId} {below : List Frame} {meth : Method} {c : Code} {b : Nat} (hx : p.tables.exec = Jvm.exec) (hb : c.code = code) (hr : meth.sig.returnType = ret) (hlocks : meth.locks = false) {pc : Nat} {H : Heap} {ls : Array Slot} (hdg : decode code pc = .ok (.ireturn, 1)) : W p l e room_1 s m #[Value.ref b] below meth c H [] 600000 7302250 (lw_Z below #[Value.ref b] s) (F0 m pc ls [.int 1]) := by
  intro T hT X
  obtain ⟨fs, hret, hrun, hended, hW, hframe⟩ := X.leave (v := some (.int 1)) (hlocks := hlocks) (fun h => by rw [hr] at h; cases h)
  have hmeth' : T.vm.method? m = some meth := X.method'
  refine ⟨T.setFrames fs, ?_, .returned (some (.int 1)), hrun, hended, rfl, ⟨_, rfl⟩, hW, hframe⟩
  jvm_step X.here [X.here.top, hx, hb, hdg, hmeth', hr, ret, narrow_b1]
  (try refine ⟨rfl, ?_⟩); (try refine ⟨rfl, ?_⟩)
  first | (intro acts; rw [hret _ acts rfl rfl rfl]) | rw [hret _ _ rfl rfl rfl]
  exact Steps.refl _
/-- what holds at the law's entry: the machine, the code, the tables' words (any of lw_tbl by 'hts w (by decide +kernel)'), the script of L ints xs at the cell b, what the Statement gives of the start (any of its parts by flat_of_before) -/
def lw_At (p : Program) (s : State) (m : MethodId) (meth : Method) (c : Code) (b L : Nat) (xs : Nat → Int32) : Prop :=
  p.tables.exec = Jvm.exec ∧ c.code = code ∧ meth.sig.returnType = ret ∧ c.maxLocals = 4 ∧ s.vm.findClass R_law = some m.cls ∧ (∀ w ∈ lw_tbl, w.before #[Value.ref b] s = true) ∧ va_X b L xs s s.heap ∧ b < s.heap.size ∧ meth.locks = false ∧ (Jvm.Cond.and given_1 narrow_1).before #[Value.ref b] s = true
theorem ml_13_9 : Cond.methodLink (nm_R 13) 9 ym_72 ∈ im_g := im_gm (List.mem_of_getElem? (i := 54) (by decide +kernel)) (by decide +kernel)
theorem ml_13_12 : Cond.methodLink (nm_R 13) 12 ym_91 ∈ im_g := im_gm (List.mem_of_getElem? (i := 663) (by decide +kernel)) (by decide +kernel)
theorem ml_13_13 : Cond.methodLink (nm_R 13) 13 ym_73 ∈ im_g := im_gm (List.mem_of_getElem? (i := 244) (by decide +kernel)) (by decide +kernel)
theorem ml_13_17 : Cond.methodLink (nm_R 13) 17 ym_93 ∈ im_g := im_gm (List.mem_of_getElem? (i := 765) (by decide +kernel)) (by decide +kernel)
theorem ml_13_18 : Cond.methodLink (nm_R 13) 18 ym_74 ∈ im_g := im_gm (List.mem_of_getElem? (i := 254) (by decide +kernel)) (by decide +kernel)
theorem ml_13_22 : Cond.methodLink (nm_R 13) 22 ym_94 ∈ im_g := im_gm (List.mem_of_getElem? (i := 774) (by decide +kernel)) (by decide +kernel)
theorem ml_13_23 : Cond.methodLink (nm_R 13) 23 ym_75 ∈ im_g := im_gm (List.mem_of_getElem? (i := 262) (by decide +kernel)) (by decide +kernel)
theorem ml_13_26 : Cond.methodLink (nm_R 13) 26 ym_95 ∈ im_g := im_gm (List.mem_of_getElem? (i := 778) (by decide +kernel)) (by decide +kernel)
theorem ml_13_27 : Cond.methodLink (nm_R 13) 27 ym_76 ∈ im_g := im_gm (List.mem_of_getElem? (i := 274) (by decide +kernel)) (by decide +kernel)
theorem ml_13_31 : Cond.methodLink (nm_R 13) 31 ym_102 ∈ im_g := im_gm (List.mem_of_getElem? (i := 782) (by decide +kernel)) (by decide +kernel)
theorem ml_13_32 : Cond.methodLink (nm_R 13) 32 ym_77 ∈ im_g := im_gm (List.mem_of_getElem? (i := 377) (by decide +kernel)) (by decide +kernel)
theorem ml_13_35 : Cond.methodLink (nm_R 13) 35 ym_104 ∈ im_g := im_gm (List.mem_of_getElem? (i := 813) (by decide +kernel)) (by decide +kernel)
theorem ml_13_36 : Cond.methodLink (nm_R 13) 36 ym_78 ∈ im_g := im_gm (List.mem_of_getElem? (i := 382) (by decide +kernel)) (by decide +kernel)
theorem ml_13_39 : Cond.methodLink (nm_R 13) 39 ym_105 ∈ im_g := im_gm (List.mem_of_getElem? (i := 817) (by decide +kernel)) (by decide +kernel)
theorem ml_13_40 : Cond.methodLink (nm_R 13) 40 ym_79 ∈ im_g := im_gm (List.mem_of_getElem? (i := 390) (by decide +kernel)) (by decide +kernel)
theorem ml_13_43 : Cond.methodLink (nm_R 13) 43 ym_109 ∈ im_g := im_gm (List.mem_of_getElem? (i := 821) (by decide +kernel)) (by decide +kernel)
theorem ml_13_44 : Cond.methodLink (nm_R 13) 44 ym_80 ∈ im_g := im_gm (List.mem_of_getElem? (i := 424) (by decide +kernel)) (by decide +kernel)
theorem ml_13_47 : Cond.methodLink (nm_R 13) 47 ym_110 ∈ im_g := im_gm (List.mem_of_getElem? (i := 837) (by decide +kernel)) (by decide +kernel)
theorem ml_13_48 : Cond.methodLink (nm_R 13) 48 ym_81 ∈ im_g := im_gm (List.mem_of_getElem? (i := 459) (by decide +kernel)) (by decide +kernel)
theorem ml_13_52 : Cond.methodLink (nm_R 13) 52 ym_111 ∈ im_g := im_gm (List.mem_of_getElem? (i := 842) (by decide +kernel)) (by decide +kernel)
theorem ml_13_53 : Cond.methodLink (nm_R 13) 53 ym_82 ∈ im_g := im_gm (List.mem_of_getElem? (i := 468) (by decide +kernel)) (by decide +kernel)
theorem ml_13_56 : Cond.methodLink (nm_R 13) 56 ym_120 ∈ im_g := im_gm (List.mem_of_getElem? (i := 846) (by decide +kernel)) (by decide +kernel)
theorem ml_13_57 : Cond.methodLink (nm_R 13) 57 ym_83 ∈ im_g := im_gm (List.mem_of_getElem? (i := 559) (by decide +kernel)) (by decide +kernel)
theorem ml_13_60 : Cond.methodLink (nm_R 13) 60 ym_126 ∈ im_g := im_gm (List.mem_of_getElem? (i := 899) (by decide +kernel)) (by decide +kernel)
theorem ml_13_61 : Cond.methodLink (nm_R 13) 61 ym_84 ∈ im_g := im_gm (List.mem_of_getElem? (i := 563) (by decide +kernel)) (by decide +kernel)
theorem ml_13_64 : Cond.methodLink (nm_R 13) 64 ym_127 ∈ im_g := im_gm (List.mem_of_getElem? (i := 903) (by decide +kernel)) (by decide +kernel)
theorem ml_13_65 : Cond.methodLink (nm_R 13) 65 ym_85 ∈ im_g := im_gm (List.mem_of_getElem? (i := 567) (by decide +kernel)) (by decide +kernel)
theorem ml_13_69 : Cond.methodLink (nm_R 13) 69 ym_128 ∈ im_g := im_gm (List.mem_of_getElem? (i := 907) (by decide +kernel)) (by decide +kernel)
theorem ml_13_70 : Cond.methodLink (nm_R 13) 70 ym_86 ∈ im_g := im_gm (List.mem_of_getElem? (i := 571) (by decide +kernel)) (by decide +kernel)
theorem ml_13_73 : Cond.methodLink (nm_R 13) 73 ym_129 ∈ im_g := im_gm (List.mem_of_getElem? (i := 911) (by decide +kernel)) (by decide +kernel)
theorem ml_13_74 : Cond.methodLink (nm_R 13) 74 ym_87 ∈ im_g := im_gm (List.mem_of_getElem? (i := 576) (by decide +kernel)) (by decide +kernel)
theorem ml_13_77 : Cond.methodLink (nm_R 13) 77 ym_130 ∈ im_g := im_gm (List.mem_of_getElem? (i := 915) (by decide +kernel)) (by decide +kernel)
theorem ml_13_78 : Cond.methodLink (nm_R 13) 78 ym_88 ∈ im_g := im_gm (List.mem_of_getElem? (i := 584) (by decide +kernel)) (by decide +kernel)
theorem ml_13_82 : Cond.methodLink (nm_R 13) 82 ym_131 ∈ im_g := im_gm (List.mem_of_getElem? (i := 919) (by decide +kernel)) (by decide +kernel)
theorem ml_13_83 : Cond.methodLink (nm_R 13) 83 ym_89 ∈ im_g := im_gm (List.mem_of_getElem? (i := 592) (by decide +kernel)) (by decide +kernel)
theorem ml_13_86 : Cond.methodLink (nm_R 13) 86 ym_123 ∈ im_g := im_gm (List.mem_of_getElem? (i := 879) (by decide +kernel)) (by decide +kernel)
theorem ml_13_87 : Cond.methodLink (nm_R 13) 87 ym_90 ∈ im_g := im_gm (List.mem_of_getElem? (i := 657) (by decide +kernel)) (by decide +kernel)
theorem ml_13_90 : Cond.methodLink (nm_R 13) 90 ym_132 ∈ im_g := im_gm (List.mem_of_getElem? (i := 923) (by decide +kernel)) (by decide +kernel)
theorem cl_13_7 : Cond.classLink (nm_R 13) 7 (nm_R 7) ∈ im_g := im_gm (List.mem_of_getElem? (i := 52) (by decide +kernel)) (by decide +kernel)
theorem cl_13_10 : Cond.classLink (nm_R 13) 10 (nm_R 8) ∈ im_g := im_gm (List.mem_of_getElem? (i := 661) (by decide +kernel)) (by decide +kernel)
/-- a call that answers an int: both sides answer alike, and the relation goes on -/
def lw_P1 (Rl : Nat → (Nat → Nat → Int32) → (Nat → Nat → Int32) → Prop) (t : Nat) (M N : Nat → Nat → Int32) (f g : im_M → Option (Int32 × im_M)) : Prop := ∃ r M' N', f M = some (r, M') ∧ g N = some (r, N') ∧ Rl (t + 1) M' N'
def lw_P0 (Rl : Nat → (Nat → Nat → Int32) → (Nat → Nat → Int32) → Prop) (t : Nat) (M N : Nat → Nat → Int32) (f g : im_M → Option im_M) : Prop := ∃ M' N', f M = some M' ∧ g N = some N' ∧ Rl (t + 1) M' N'

/-- what is asked of the pairs of functions, and of the relation between the worlds behind t calls -/
def lw_Pure (Rl : Nat → (Nat → Nat → Int32) → (Nat → Nat → Int32) → Prop) : Prop := ∀ (t : Nat) (M N : Nat → Nat → Int32), t < 512 → Rl t M N → ∀ a b c d : Int32, lw_P1 Rl t M N (gn_73 a b c d) (gn_93 a b c d) ∧ lw_P1 Rl t M N (gn_74 a) (gn_94 a) ∧ lw_P0 Rl t M N (gn_75) (gn_95) ∧ lw_P1 Rl t M N (gn_76 a) (gn_102 a) ∧ lw_P1 Rl t M N (gn_77 a) (gn_104 a) ∧ lw_P1 Rl t M N (gn_78 a) (gn_105 a) ∧ lw_P1 Rl t M N (gn_79 a) (gn_109 a) ∧ lw_P1 Rl t M N (gn_80 a) (gn_110 a) ∧ lw_P1 Rl t M N (gn_81 a b) (gn_111 a b) ∧ lw_P1 Rl t M N (gn_82 a) (gn_120 a) ∧ lw_P1 Rl t M N (gn_83 a) (gn_126 a) ∧ lw_P1 Rl t M N (gn_84 a) (gn_127 a) ∧ lw_P1 Rl t M N (gn_85 a b) (gn_128 a b) ∧ lw_P1 Rl t M N (gn_86 a) (gn_129 a) ∧ lw_P1 Rl t M N (gn_87 a b) (gn_130 a b) ∧ lw_P1 Rl t M N (gn_88 a b c) (gn_131 a b c) ∧ lw_P1 Rl t M N (gn_89 a b) (gn_123 a b) ∧ lw_P1 Rl t M N (gn_90 a b) (gn_132 a b) ∧ Rl (t + 1) M N
section LW
variable {p : Program} {l : Launch} {e : Env} {s : State} {m : MethodId} {below : List Frame} {meth : Method} {c : Code} {b L : Nat} {xs : Nat → Int32} {D : va_G} {cs : ClassId × ClassId × ClassId} {A : Nat → Prop} {ad ar : Nat → Nat} {cells slots : Nat} {Rl : Nat → (Nat → Nat → Int32) → (Nat → Nat → Int32) → Prop}
/-- the law at the head of its loop, behind t calls -/
def lw_Lp (p : Program) (l : Launch) (e : Env) (s : State) (m : MethodId) (below : List Frame) (meth : Method) (c : Code) (b : Nat) (D : va_G) (cs : ClassId × ClassId × ClassId) (A : Nat → Prop) (ad ar : Nat → Nat) (cells slots : Nat) (t : Nat) (M N : Nat → Nat → Int32) : Prop :=
  ∀ (H : Heap) (locs : List Loc) (ls : Array Slot), va_P D nm_cl (im_W cs ad (st_hC M) ++ im_W cs ar (st_hR N)) H → va_D A (im_W cs ad (st_hC M) ++ im_W cs ar (st_hR N)) → va_S A s.heap H locs → lv_has ls 4 [(0, .ref b), (1, .ref (ad 0)), (2, .ref (ar 0)), (3, .int (nI (5 * t)))] →
    W p l e room_1 s m #[Value.ref b] below meth c H locs cells slots (lw_Z below #[Value.ref b] s) (F0 m 18 ls [])
/-- the law's own start, as its rows use it -/
def lw_C9 (p : Program) (s : State) (m : MethodId) (c : Code) (b L : Nat) (xs : Nat → Int32) (D : va_G) (cs : ClassId × ClassId × ClassId) (A : Nat → Prop) (cells slots : Nat) : Prop :=
  lc_Cx p s m #[Value.ref b] c D cs A ∧ va_X b L xs s s.heap ∧ b < s.heap.size ∧ ¬ A b ∧ L ≤ 2560 ∧ cells ≤ 600000 ∧ slots ≤ 7302250
theorem lw_k9C {M : Nat → Nat → Int32} : ∀ j, (st_hC M).1.1 ≤ j → ((st_hC M).2.1 j).1 = 9 := fun j hj => st_KC9 j (by rw [← st_ck.2.1]; exact hj)
theorem lw_k9R {N : Nat → Nat → Int32} : ∀ j, (st_hR N).1.1 ≤ j → ((st_hR N).2.1 j).1 = 9 := fun j hj => st_KR9 j (by rw [← st_rk.2.1]; exact hj)
theorem lw_in {L t k : Nat} (hk : k < 5) (hL : L ≤ 2560) (ht : 5 * t + 5 ≤ L) : vp_in (nI (5 * t) + nI k) L := by
  rw [nI_add]
  exact vp_in_nI (by omega) (by omega)
theorem lw_next {t : Nat} {M N : Nat → Nat → Int32} (hC : lw_C9 p s m c b L xs D cs A cells slots) (k : lw_Lp p l e s m below meth c b D cs A ad ar cells slots (t + 1) M N) {H : Heap} {locs : List Loc} {ls : Array Slot} (hP : va_P D nm_cl (im_W cs ad (st_hC M) ++ im_W cs ar (st_hR N)) H) (hD : va_D A (im_W cs ad (st_hC M) ++ im_W cs ar (st_hR N))) (hS : va_S A s.heap H locs) (hl : lv_has ls 4 [(0, .ref b), (1, .ref (ad 0)), (2, .ref (ar 0)), (3, .int (nI (5 * t)))]) :
    W p l e room_1 s m #[Value.ref b] below meth c H locs cells slots (lw_Z below #[Value.ref b] s) (F0 m 622 ls []) := by
  have hx := hC.1.1
  have hb := hC.1.2.1
  refine lv_iinc (k := 3) (v := nI (5 * (t + 1))) hx hb dl_622 hl rfl (by rw [show Int32.ofInt 5 = nI 5 from rfl, nI_add]; rfl) (by decide) rfl (fun ls' hl' => ?_)
  refine lv_goto (tgt := 18) hx hb dl_625 rfl ?_
  exact k H locs ls' hP hD hS (lv_sub hl' [1, 2, 3, 0] rfl)
set_option maxRecDepth 100000 in
set_option maxHeartbeats 4000000 in
theorem lw_c0 {t : Nat} {M N : Nat → Nat → Int32} (hC : lw_C9 p s m c b L xs D cs A cells slots) (ht : 5 * t + 5 ≤ L) (hq : lw_P1 Rl t M N (gn_73 (xs (nI (5 * t) + nI 1).toNatClampNeg) (xs (nI (5 * t) + nI 2).toNatClampNeg) (xs (nI (5 * t) + nI 3).toNatClampNeg) (xs (nI (5 * t) + nI 4).toNatClampNeg)) (gn_93 (xs (nI (5 * t) + nI 1).toNatClampNeg) (xs (nI (5 * t) + nI 2).toNatClampNeg) (xs (nI (5 * t) + nI 3).toNatClampNeg) (xs (nI (5 * t) + nI 4).toNatClampNeg))) (kk : ∀ M' N', Rl (t + 1) M' N' → lw_Lp p l e s m below meth c b D cs A ad ar cells slots (t + 1) M' N')
    {H : Heap} {locs : List Loc} {ls : Array Slot} (hP : va_P D nm_cl (im_W cs ad (st_hC M) ++ im_W cs ar (st_hR N)) H) (hD : va_D A (im_W cs ad (st_hC M) ++ im_W cs ar (st_hR N))) (hS : va_S A s.heap H locs) (hl : lv_has ls 4 [(0, .ref b), (1, .ref (ad 0)), (2, .ref (ar 0)), (3, .int (nI (5 * t)))]) :
    W p l e room_1 s m #[Value.ref b] below meth c H locs cells slots (lw_Z below #[Value.ref b] s) (F0 m 120 ls []) := by
  have hx := hC.1.1
  have hb := hC.1.2.1
  obtain ⟨hC1, hX, hbl, hbA, hL, hc1, hc2⟩ := hC
  have hC := (⟨hC1, hX, hbl, hbA, hL, hc1, hc2⟩ : lw_C9 p s m c b L xs D cs A cells slots)
  obtain ⟨r, M', N', hf, hg, hR⟩ := hq
  refine lv_aload_n hx hb dl_120 rfl (lv_at hl 1 rfl) ?_
  refine lv_aload_n hx hb dl_121 rfl (lv_at hl 0 rfl) ?_
  refine lv_iload_n hx hb dl_122 rfl (lv_at hl 3 rfl) ?_
  refine lv_iconst (v := nI 1) hx hb dl_123 rfl ?_
  refine lv_iadd hx hb dl_124 ?_
  refine va_sld hx hb hX hbl hbA hS (lw_in (k := 1) (by decide) hL ht) dl_125 ?_
  refine lv_aload_n hx hb dl_126 rfl (lv_at hl 0 rfl) ?_
  refine lv_iload_n hx hb dl_127 rfl (lv_at hl 3 rfl) ?_
  refine lv_iconst (v := nI 2) hx hb dl_128 rfl ?_
  refine lv_iadd hx hb dl_129 ?_
  refine va_sld hx hb hX hbl hbA hS (lw_in (k := 2) (by decide) hL ht) dl_130 ?_
  refine lv_aload_n hx hb dl_131 rfl (lv_at hl 0 rfl) ?_
  refine lv_iload_n hx hb dl_132 rfl (lv_at hl 3 rfl) ?_
  refine lv_iconst (v := nI 3) hx hb dl_133 rfl ?_
  refine lv_iadd hx hb dl_134 ?_
  refine va_sld hx hb hX hbl hbA hS (lw_in (k := 3) (by decide) hL ht) dl_135 ?_
  refine lv_aload_n hx hb dl_136 rfl (lv_at hl 0 rfl) ?_
  refine lv_iload_n hx hb dl_137 rfl (lv_at hl 3 rfl) ?_
  refine lv_iconst (v := nI 4) hx hb dl_138 rfl ?_
  refine lv_iadd hx hb dl_139 ?_
  refine va_sld hx hb hX hbl hbA hS (lw_in (k := 4) (by decide) hL ht) dl_140 ?_
  refine lc_call (ci := 7) (as := [(xs (nI (5 * t) + nI 1).toNatClampNeg), (xs (nI (5 * t) + nI 2).toNatClampNeg), (xs (nI (5 * t) + nI 3).toNatClampNeg), (xs (nI (5 * t) + nI 4).toNatClampNeg)]) (r := (some (.inl r), st_hC M')) hC1 hP hD hS lw_k9C hl.1 ⟨hc1, hc2⟩ mf_73 rfl (tg_73 (xs (nI (5 * t) + nI 1).toNatClampNeg) (xs (nI (5 * t) + nI 2).toNatClampNeg) (xs (nI (5 * t) + nI 3).toNatClampNeg) (xs (nI (5 * t) + nI 4).toNatClampNeg) _ _ hf) (by decide) rfl rfl ⟨_, _, rfl⟩ ml_13_13 mi_73 ms_73 mp_73 (by simp) dl_141 (fun H locs hP hD hS => ?_)
  refine lv_aload_n hx hb dl_144 rfl (lv_at hl 2 rfl) ?_
  refine lv_aload_n hx hb dl_145 rfl (lv_at hl 0 rfl) ?_
  refine lv_iload_n hx hb dl_146 rfl (lv_at hl 3 rfl) ?_
  refine lv_iconst (v := nI 1) hx hb dl_147 rfl ?_
  refine lv_iadd hx hb dl_148 ?_
  refine va_sld hx hb hX hbl hbA hS (lw_in (k := 1) (by decide) hL ht) dl_149 ?_
  refine lv_aload_n hx hb dl_150 rfl (lv_at hl 0 rfl) ?_
  refine lv_iload_n hx hb dl_151 rfl (lv_at hl 3 rfl) ?_
  refine lv_iconst (v := nI 2) hx hb dl_152 rfl ?_
  refine lv_iadd hx hb dl_153 ?_
  refine va_sld hx hb hX hbl hbA hS (lw_in (k := 2) (by decide) hL ht) dl_154 ?_
  refine lv_aload_n hx hb dl_155 rfl (lv_at hl 0 rfl) ?_
  refine lv_iload_n hx hb dl_156 rfl (lv_at hl 3 rfl) ?_
  refine lv_iconst (v := nI 3) hx hb dl_157 rfl ?_
  refine lv_iadd hx hb dl_158 ?_
  refine va_sld hx hb hX hbl hbA hS (lw_in (k := 3) (by decide) hL ht) dl_159 ?_
  refine lv_aload_n hx hb dl_160 rfl (lv_at hl 0 rfl) ?_
  refine lv_iload_n hx hb dl_161 rfl (lv_at hl 3 rfl) ?_
  refine lv_iconst (v := nI 4) hx hb dl_162 rfl ?_
  refine lv_iadd hx hb dl_163 ?_
  refine va_sld hx hb hX hbl hbA hS (lw_in (k := 4) (by decide) hL ht) dl_164 ?_
  have hP := lc_swapP hP
  have hD := lc_swapD hD
  refine lc_call (ci := 8) (as := [(xs (nI (5 * t) + nI 1).toNatClampNeg), (xs (nI (5 * t) + nI 2).toNatClampNeg), (xs (nI (5 * t) + nI 3).toNatClampNeg), (xs (nI (5 * t) + nI 4).toNatClampNeg)]) (r := (some (.inl r), st_hR N')) hC1 hP hD hS lw_k9R hl.1 ⟨hc1, hc2⟩ mf_93 rfl (tg_93 (xs (nI (5 * t) + nI 1).toNatClampNeg) (xs (nI (5 * t) + nI 2).toNatClampNeg) (xs (nI (5 * t) + nI 3).toNatClampNeg) (xs (nI (5 * t) + nI 4).toNatClampNeg) _ _ hg) (by decide) rfl rfl ⟨_, _, rfl⟩ ml_13_17 mi_93 ms_93 mp_93 (by simp [im_v, Value.category]) dl_165 (fun H locs hP hD hS => ?_)
  have hP := lc_swapP hP
  have hD := lc_swapD hD
  refine lv_icmp_eq (tgt := 622) hx hb dl_168 rfl (fun _ => ?_) (fun h9 => absurd rfl h9)
  exact lw_next hC (kk M' N' hR) hP hD hS hl
set_option maxRecDepth 100000 in
set_option maxHeartbeats 4000000 in
theorem lw_c1 {t : Nat} {M N : Nat → Nat → Int32} (hC : lw_C9 p s m c b L xs D cs A cells slots) (ht : 5 * t + 5 ≤ L) (hq : lw_P1 Rl t M N (gn_74 (xs (nI (5 * t) + nI 1).toNatClampNeg)) (gn_94 (xs (nI (5 * t) + nI 1).toNatClampNeg))) (kk : ∀ M' N', Rl (t + 1) M' N' → lw_Lp p l e s m below meth c b D cs A ad ar cells slots (t + 1) M' N')
    {H : Heap} {locs : List Loc} {ls : Array Slot} (hP : va_P D nm_cl (im_W cs ad (st_hC M) ++ im_W cs ar (st_hR N)) H) (hD : va_D A (im_W cs ad (st_hC M) ++ im_W cs ar (st_hR N))) (hS : va_S A s.heap H locs) (hl : lv_has ls 4 [(0, .ref b), (1, .ref (ad 0)), (2, .ref (ar 0)), (3, .int (nI (5 * t)))]) :
    W p l e room_1 s m #[Value.ref b] below meth c H locs cells slots (lw_Z below #[Value.ref b] s) (F0 m 173 ls []) := by
  have hx := hC.1.1
  have hb := hC.1.2.1
  obtain ⟨hC1, hX, hbl, hbA, hL, hc1, hc2⟩ := hC
  have hC := (⟨hC1, hX, hbl, hbA, hL, hc1, hc2⟩ : lw_C9 p s m c b L xs D cs A cells slots)
  obtain ⟨r, M', N', hf, hg, hR⟩ := hq
  refine lv_aload_n hx hb dl_173 rfl (lv_at hl 1 rfl) ?_
  refine lv_aload_n hx hb dl_174 rfl (lv_at hl 0 rfl) ?_
  refine lv_iload_n hx hb dl_175 rfl (lv_at hl 3 rfl) ?_
  refine lv_iconst (v := nI 1) hx hb dl_176 rfl ?_
  refine lv_iadd hx hb dl_177 ?_
  refine va_sld hx hb hX hbl hbA hS (lw_in (k := 1) (by decide) hL ht) dl_178 ?_
  refine lc_call (ci := 7) (as := [(xs (nI (5 * t) + nI 1).toNatClampNeg)]) (r := (some (.inl r), st_hC M')) hC1 hP hD hS lw_k9C hl.1 ⟨hc1, hc2⟩ mf_74 rfl (tg_74 (xs (nI (5 * t) + nI 1).toNatClampNeg) _ _ hf) (by decide) rfl rfl ⟨_, _, rfl⟩ ml_13_18 mi_74 ms_74 mp_74 (by simp) dl_179 (fun H locs hP hD hS => ?_)
  refine lv_aload_n hx hb dl_182 rfl (lv_at hl 2 rfl) ?_
  refine lv_aload_n hx hb dl_183 rfl (lv_at hl 0 rfl) ?_
  refine lv_iload_n hx hb dl_184 rfl (lv_at hl 3 rfl) ?_
  refine lv_iconst (v := nI 1) hx hb dl_185 rfl ?_
  refine lv_iadd hx hb dl_186 ?_
  refine va_sld hx hb hX hbl hbA hS (lw_in (k := 1) (by decide) hL ht) dl_187 ?_
  have hP := lc_swapP hP
  have hD := lc_swapD hD
  refine lc_call (ci := 8) (as := [(xs (nI (5 * t) + nI 1).toNatClampNeg)]) (r := (some (.inl r), st_hR N')) hC1 hP hD hS lw_k9R hl.1 ⟨hc1, hc2⟩ mf_94 rfl (tg_94 (xs (nI (5 * t) + nI 1).toNatClampNeg) _ _ hg) (by decide) rfl rfl ⟨_, _, rfl⟩ ml_13_22 mi_94 ms_94 mp_94 (by simp [im_v, Value.category]) dl_188 (fun H locs hP hD hS => ?_)
  have hP := lc_swapP hP
  have hD := lc_swapD hD
  refine lv_icmp_eq (tgt := 622) hx hb dl_191 rfl (fun _ => ?_) (fun h9 => absurd rfl h9)
  exact lw_next hC (kk M' N' hR) hP hD hS hl
set_option maxRecDepth 100000 in
set_option maxHeartbeats 4000000 in
theorem lw_c2 {t : Nat} {M N : Nat → Nat → Int32} (hC : lw_C9 p s m c b L xs D cs A cells slots) (ht : 5 * t + 5 ≤ L) (hq : lw_P0 Rl t M N (gn_75) (gn_95)) (kk : ∀ M' N', Rl (t + 1) M' N' → lw_Lp p l e s m below meth c b D cs A ad ar cells slots (t + 1) M' N')
    {H : Heap} {locs : List Loc} {ls : Array Slot} (hP : va_P D nm_cl (im_W cs ad (st_hC M) ++ im_W cs ar (st_hR N)) H) (hD : va_D A (im_W cs ad (st_hC M) ++ im_W cs ar (st_hR N))) (hS : va_S A s.heap H locs) (hl : lv_has ls 4 [(0, .ref b), (1, .ref (ad 0)), (2, .ref (ar 0)), (3, .int (nI (5 * t)))]) :
    W p l e room_1 s m #[Value.ref b] below meth c H locs cells slots (lw_Z below #[Value.ref b] s) (F0 m 196 ls []) := by
  have hx := hC.1.1
  have hb := hC.1.2.1
  obtain ⟨hC1, hX, hbl, hbA, hL, hc1, hc2⟩ := hC
  have hC := (⟨hC1, hX, hbl, hbA, hL, hc1, hc2⟩ : lw_C9 p s m c b L xs D cs A cells slots)
  obtain ⟨M', N', hf, hg, hR⟩ := hq
  refine lv_aload_n hx hb dl_196 rfl (lv_at hl 1 rfl) ?_
  refine lc_call (ci := 7) (as := []) (r := (none, st_hC M')) hC1 hP hD hS lw_k9C hl.1 ⟨hc1, hc2⟩ mf_75 rfl (tg_75 _ _ hf) (by decide) rfl rfl ⟨_, _, rfl⟩ ml_13_23 mi_75 ms_75 mp_75 (by simp) dl_197 (fun H locs hP hD hS => ?_)
  refine lv_aload_n hx hb dl_200 rfl (lv_at hl 2 rfl) ?_
  have hP := lc_swapP hP
  have hD := lc_swapD hD
  refine lc_call (ci := 8) (as := []) (r := (none, st_hR N')) hC1 hP hD hS lw_k9R hl.1 ⟨hc1, hc2⟩ mf_95 rfl (tg_95 _ _ hg) (by decide) rfl rfl ⟨_, _, rfl⟩ ml_13_26 mi_95 ms_95 mp_95 (by simp [im_v, Value.category]) dl_201 (fun H locs hP hD hS => ?_)
  have hP := lc_swapP hP
  have hD := lc_swapD hD
  refine lv_goto (tgt := 622) hx hb dl_204 rfl ?_
  exact lw_next hC (kk M' N' hR) hP hD hS hl
set_option maxRecDepth 100000 in
set_option maxHeartbeats 4000000 in
theorem lw_c3 {t : Nat} {M N : Nat → Nat → Int32} (hC : lw_C9 p s m c b L xs D cs A cells slots) (ht : 5 * t + 5 ≤ L) (hq : lw_P1 Rl t M N (gn_76 (xs (nI (5 * t) + nI 1).toNatClampNeg)) (gn_102 (xs (nI (5 * t) + nI 1).toNatClampNeg))) (kk : ∀ M' N', Rl (t + 1) M' N' → lw_Lp p l e s m below meth c b D cs A ad ar cells slots (t + 1) M' N')
    {H : Heap} {locs : List Loc} {ls : Array Slot} (hP : va_P D nm_cl (im_W cs ad (st_hC M) ++ im_W cs ar (st_hR N)) H) (hD : va_D A (im_W cs ad (st_hC M) ++ im_W cs ar (st_hR N))) (hS : va_S A s.heap H locs) (hl : lv_has ls 4 [(0, .ref b), (1, .ref (ad 0)), (2, .ref (ar 0)), (3, .int (nI (5 * t)))]) :
    W p l e room_1 s m #[Value.ref b] below meth c H locs cells slots (lw_Z below #[Value.ref b] s) (F0 m 207 ls []) := by
  have hx := hC.1.1
  have hb := hC.1.2.1
  obtain ⟨hC1, hX, hbl, hbA, hL, hc1, hc2⟩ := hC
  have hC := (⟨hC1, hX, hbl, hbA, hL, hc1, hc2⟩ : lw_C9 p s m c b L xs D cs A cells slots)
  obtain ⟨r, M', N', hf, hg, hR⟩ := hq
  refine lv_aload_n hx hb dl_207 rfl (lv_at hl 1 rfl) ?_
  refine lv_aload_n hx hb dl_208 rfl (lv_at hl 0 rfl) ?_
  refine lv_iload_n hx hb dl_209 rfl (lv_at hl 3 rfl) ?_
  refine lv_iconst (v := nI 1) hx hb dl_210 rfl ?_
  refine lv_iadd hx hb dl_211 ?_
  refine va_sld hx hb hX hbl hbA hS (lw_in (k := 1) (by decide) hL ht) dl_212 ?_
  refine lc_call (ci := 7) (as := [(xs (nI (5 * t) + nI 1).toNatClampNeg)]) (r := (some (.inl r), st_hC M')) hC1 hP hD hS lw_k9C hl.1 ⟨hc1, hc2⟩ mf_76 rfl (tg_76 (xs (nI (5 * t) + nI 1).toNatClampNeg) _ _ hf) (by decide) rfl rfl ⟨_, _, rfl⟩ ml_13_27 mi_76 ms_76 mp_76 (by simp) dl_213 (fun H locs hP hD hS => ?_)
  refine lv_aload_n hx hb dl_216 rfl (lv_at hl 2 rfl) ?_
  refine lv_aload_n hx hb dl_217 rfl (lv_at hl 0 rfl) ?_
  refine lv_iload_n hx hb dl_218 rfl (lv_at hl 3 rfl) ?_
  refine lv_iconst (v := nI 1) hx hb dl_219 rfl ?_
  refine lv_iadd hx hb dl_220 ?_
  refine va_sld hx hb hX hbl hbA hS (lw_in (k := 1) (by decide) hL ht) dl_221 ?_
  have hP := lc_swapP hP
  have hD := lc_swapD hD
  refine lc_call (ci := 8) (as := [(xs (nI (5 * t) + nI 1).toNatClampNeg)]) (r := (some (.inl r), st_hR N')) hC1 hP hD hS lw_k9R hl.1 ⟨hc1, hc2⟩ mf_102 rfl (tg_102 (xs (nI (5 * t) + nI 1).toNatClampNeg) _ _ hg) (by decide) rfl rfl ⟨_, _, rfl⟩ ml_13_31 mi_102 ms_102 mp_102 (by simp [im_v, Value.category]) dl_222 (fun H locs hP hD hS => ?_)
  have hP := lc_swapP hP
  have hD := lc_swapD hD
  refine lv_icmp_eq (tgt := 622) hx hb dl_225 rfl (fun _ => ?_) (fun h9 => absurd rfl h9)
  exact lw_next hC (kk M' N' hR) hP hD hS hl
set_option maxRecDepth 100000 in
set_option maxHeartbeats 4000000 in
theorem lw_c4 {t : Nat} {M N : Nat → Nat → Int32} (hC : lw_C9 p s m c b L xs D cs A cells slots) (ht : 5 * t + 5 ≤ L) (hq : lw_P1 Rl t M N (gn_77 (xs (nI (5 * t) + nI 1).toNatClampNeg)) (gn_104 (xs (nI (5 * t) + nI 1).toNatClampNeg))) (kk : ∀ M' N', Rl (t + 1) M' N' → lw_Lp p l e s m below meth c b D cs A ad ar cells slots (t + 1) M' N')
    {H : Heap} {locs : List Loc} {ls : Array Slot} (hP : va_P D nm_cl (im_W cs ad (st_hC M) ++ im_W cs ar (st_hR N)) H) (hD : va_D A (im_W cs ad (st_hC M) ++ im_W cs ar (st_hR N))) (hS : va_S A s.heap H locs) (hl : lv_has ls 4 [(0, .ref b), (1, .ref (ad 0)), (2, .ref (ar 0)), (3, .int (nI (5 * t)))]) :
    W p l e room_1 s m #[Value.ref b] below meth c H locs cells slots (lw_Z below #[Value.ref b] s) (F0 m 230 ls []) := by
  have hx := hC.1.1
  have hb := hC.1.2.1
  obtain ⟨hC1, hX, hbl, hbA, hL, hc1, hc2⟩ := hC
  have hC := (⟨hC1, hX, hbl, hbA, hL, hc1, hc2⟩ : lw_C9 p s m c b L xs D cs A cells slots)
  obtain ⟨r, M', N', hf, hg, hR⟩ := hq
  refine lv_aload_n hx hb dl_230 rfl (lv_at hl 1 rfl) ?_
  refine lv_aload_n hx hb dl_231 rfl (lv_at hl 0 rfl) ?_
  refine lv_iload_n hx hb dl_232 rfl (lv_at hl 3 rfl) ?_
  refine lv_iconst (v := nI 1) hx hb dl_233 rfl ?_
  refine lv_iadd hx hb dl_234 ?_
  refine va_sld hx hb hX hbl hbA hS (lw_in (k := 1) (by decide) hL ht) dl_235 ?_
  refine lc_call (ci := 7) (as := [(xs (nI (5 * t) + nI 1).toNatClampNeg)]) (r := (some (.inl r), st_hC M')) hC1 hP hD hS lw_k9C hl.1 ⟨hc1, hc2⟩ mf_77 rfl (tg_77 (xs (nI (5 * t) + nI 1).toNatClampNeg) _ _ hf) (by decide) rfl rfl ⟨_, _, rfl⟩ ml_13_32 mi_77 ms_77 mp_77 (by simp) dl_236 (fun H locs hP hD hS => ?_)
  refine lv_aload_n hx hb dl_239 rfl (lv_at hl 2 rfl) ?_
  refine lv_aload_n hx hb dl_240 rfl (lv_at hl 0 rfl) ?_
  refine lv_iload_n hx hb dl_241 rfl (lv_at hl 3 rfl) ?_
  refine lv_iconst (v := nI 1) hx hb dl_242 rfl ?_
  refine lv_iadd hx hb dl_243 ?_
  refine va_sld hx hb hX hbl hbA hS (lw_in (k := 1) (by decide) hL ht) dl_244 ?_
  have hP := lc_swapP hP
  have hD := lc_swapD hD
  refine lc_call (ci := 8) (as := [(xs (nI (5 * t) + nI 1).toNatClampNeg)]) (r := (some (.inl r), st_hR N')) hC1 hP hD hS lw_k9R hl.1 ⟨hc1, hc2⟩ mf_104 rfl (tg_104 (xs (nI (5 * t) + nI 1).toNatClampNeg) _ _ hg) (by decide) rfl rfl ⟨_, _, rfl⟩ ml_13_35 mi_104 ms_104 mp_104 (by simp [im_v, Value.category]) dl_245 (fun H locs hP hD hS => ?_)
  have hP := lc_swapP hP
  have hD := lc_swapD hD
  refine lv_icmp_eq (tgt := 622) hx hb dl_248 rfl (fun _ => ?_) (fun h9 => absurd rfl h9)
  exact lw_next hC (kk M' N' hR) hP hD hS hl
set_option maxRecDepth 100000 in
set_option maxHeartbeats 4000000 in
theorem lw_c5 {t : Nat} {M N : Nat → Nat → Int32} (hC : lw_C9 p s m c b L xs D cs A cells slots) (ht : 5 * t + 5 ≤ L) (hq : lw_P1 Rl t M N (gn_78 (xs (nI (5 * t) + nI 1).toNatClampNeg)) (gn_105 (xs (nI (5 * t) + nI 1).toNatClampNeg))) (kk : ∀ M' N', Rl (t + 1) M' N' → lw_Lp p l e s m below meth c b D cs A ad ar cells slots (t + 1) M' N')
    {H : Heap} {locs : List Loc} {ls : Array Slot} (hP : va_P D nm_cl (im_W cs ad (st_hC M) ++ im_W cs ar (st_hR N)) H) (hD : va_D A (im_W cs ad (st_hC M) ++ im_W cs ar (st_hR N))) (hS : va_S A s.heap H locs) (hl : lv_has ls 4 [(0, .ref b), (1, .ref (ad 0)), (2, .ref (ar 0)), (3, .int (nI (5 * t)))]) :
    W p l e room_1 s m #[Value.ref b] below meth c H locs cells slots (lw_Z below #[Value.ref b] s) (F0 m 253 ls []) := by
  have hx := hC.1.1
  have hb := hC.1.2.1
  obtain ⟨hC1, hX, hbl, hbA, hL, hc1, hc2⟩ := hC
  have hC := (⟨hC1, hX, hbl, hbA, hL, hc1, hc2⟩ : lw_C9 p s m c b L xs D cs A cells slots)
  obtain ⟨r, M', N', hf, hg, hR⟩ := hq
  refine lv_aload_n hx hb dl_253 rfl (lv_at hl 1 rfl) ?_
  refine lv_aload_n hx hb dl_254 rfl (lv_at hl 0 rfl) ?_
  refine lv_iload_n hx hb dl_255 rfl (lv_at hl 3 rfl) ?_
  refine lv_iconst (v := nI 1) hx hb dl_256 rfl ?_
  refine lv_iadd hx hb dl_257 ?_
  refine va_sld hx hb hX hbl hbA hS (lw_in (k := 1) (by decide) hL ht) dl_258 ?_
  refine lc_call (ci := 7) (as := [(xs (nI (5 * t) + nI 1).toNatClampNeg)]) (r := (some (.inl r), st_hC M')) hC1 hP hD hS lw_k9C hl.1 ⟨hc1, hc2⟩ mf_78 rfl (tg_78 (xs (nI (5 * t) + nI 1).toNatClampNeg) _ _ hf) (by decide) rfl rfl ⟨_, _, rfl⟩ ml_13_36 mi_78 ms_78 mp_78 (by simp) dl_259 (fun H locs hP hD hS => ?_)
  refine lv_aload_n hx hb dl_262 rfl (lv_at hl 2 rfl) ?_
  refine lv_aload_n hx hb dl_263 rfl (lv_at hl 0 rfl) ?_
  refine lv_iload_n hx hb dl_264 rfl (lv_at hl 3 rfl) ?_
  refine lv_iconst (v := nI 1) hx hb dl_265 rfl ?_
  refine lv_iadd hx hb dl_266 ?_
  refine va_sld hx hb hX hbl hbA hS (lw_in (k := 1) (by decide) hL ht) dl_267 ?_
  have hP := lc_swapP hP
  have hD := lc_swapD hD
  refine lc_call (ci := 8) (as := [(xs (nI (5 * t) + nI 1).toNatClampNeg)]) (r := (some (.inl r), st_hR N')) hC1 hP hD hS lw_k9R hl.1 ⟨hc1, hc2⟩ mf_105 rfl (tg_105 (xs (nI (5 * t) + nI 1).toNatClampNeg) _ _ hg) (by decide) rfl rfl ⟨_, _, rfl⟩ ml_13_39 mi_105 ms_105 mp_105 (by simp [im_v, Value.category]) dl_268 (fun H locs hP hD hS => ?_)
  have hP := lc_swapP hP
  have hD := lc_swapD hD
  refine lv_icmp_eq (tgt := 622) hx hb dl_271 rfl (fun _ => ?_) (fun h9 => absurd rfl h9)
  exact lw_next hC (kk M' N' hR) hP hD hS hl
set_option maxRecDepth 100000 in
set_option maxHeartbeats 4000000 in
theorem lw_c6 {t : Nat} {M N : Nat → Nat → Int32} (hC : lw_C9 p s m c b L xs D cs A cells slots) (ht : 5 * t + 5 ≤ L) (hq : lw_P1 Rl t M N (gn_79 (xs (nI (5 * t) + nI 1).toNatClampNeg)) (gn_109 (xs (nI (5 * t) + nI 1).toNatClampNeg))) (kk : ∀ M' N', Rl (t + 1) M' N' → lw_Lp p l e s m below meth c b D cs A ad ar cells slots (t + 1) M' N')
    {H : Heap} {locs : List Loc} {ls : Array Slot} (hP : va_P D nm_cl (im_W cs ad (st_hC M) ++ im_W cs ar (st_hR N)) H) (hD : va_D A (im_W cs ad (st_hC M) ++ im_W cs ar (st_hR N))) (hS : va_S A s.heap H locs) (hl : lv_has ls 4 [(0, .ref b), (1, .ref (ad 0)), (2, .ref (ar 0)), (3, .int (nI (5 * t)))]) :
    W p l e room_1 s m #[Value.ref b] below meth c H locs cells slots (lw_Z below #[Value.ref b] s) (F0 m 276 ls []) := by
  have hx := hC.1.1
  have hb := hC.1.2.1
  obtain ⟨hC1, hX, hbl, hbA, hL, hc1, hc2⟩ := hC
  have hC := (⟨hC1, hX, hbl, hbA, hL, hc1, hc2⟩ : lw_C9 p s m c b L xs D cs A cells slots)
  obtain ⟨r, M', N', hf, hg, hR⟩ := hq
  refine lv_aload_n hx hb dl_276 rfl (lv_at hl 1 rfl) ?_
  refine lv_aload_n hx hb dl_277 rfl (lv_at hl 0 rfl) ?_
  refine lv_iload_n hx hb dl_278 rfl (lv_at hl 3 rfl) ?_
  refine lv_iconst (v := nI 1) hx hb dl_279 rfl ?_
  refine lv_iadd hx hb dl_280 ?_
  refine va_sld hx hb hX hbl hbA hS (lw_in (k := 1) (by decide) hL ht) dl_281 ?_
  refine lc_call (ci := 7) (as := [(xs (nI (5 * t) + nI 1).toNatClampNeg)]) (r := (some (.inl r), st_hC M')) hC1 hP hD hS lw_k9C hl.1 ⟨hc1, hc2⟩ mf_79 rfl (tg_79 (xs (nI (5 * t) + nI 1).toNatClampNeg) _ _ hf) (by decide) rfl rfl ⟨_, _, rfl⟩ ml_13_40 mi_79 ms_79 mp_79 (by simp) dl_282 (fun H locs hP hD hS => ?_)
  refine lv_aload_n hx hb dl_285 rfl (lv_at hl 2 rfl) ?_
  refine lv_aload_n hx hb dl_286 rfl (lv_at hl 0 rfl) ?_
  refine lv_iload_n hx hb dl_287 rfl (lv_at hl 3 rfl) ?_
  refine lv_iconst (v := nI 1) hx hb dl_288 rfl ?_
  refine lv_iadd hx hb dl_289 ?_
  refine va_sld hx hb hX hbl hbA hS (lw_in (k := 1) (by decide) hL ht) dl_290 ?_
  have hP := lc_swapP hP
  have hD := lc_swapD hD
  refine lc_call (ci := 8) (as := [(xs (nI (5 * t) + nI 1).toNatClampNeg)]) (r := (some (.inl r), st_hR N')) hC1 hP hD hS lw_k9R hl.1 ⟨hc1, hc2⟩ mf_109 rfl (tg_109 (xs (nI (5 * t) + nI 1).toNatClampNeg) _ _ hg) (by decide) rfl rfl ⟨_, _, rfl⟩ ml_13_43 mi_109 ms_109 mp_109 (by simp [im_v, Value.category]) dl_291 (fun H locs hP hD hS => ?_)
  have hP := lc_swapP hP
  have hD := lc_swapD hD
  refine lv_icmp_eq (tgt := 622) hx hb dl_294 rfl (fun _ => ?_) (fun h9 => absurd rfl h9)
  exact lw_next hC (kk M' N' hR) hP hD hS hl
set_option maxRecDepth 100000 in
set_option maxHeartbeats 4000000 in
theorem lw_c7 {t : Nat} {M N : Nat → Nat → Int32} (hC : lw_C9 p s m c b L xs D cs A cells slots) (ht : 5 * t + 5 ≤ L) (hq : lw_P1 Rl t M N (gn_80 (xs (nI (5 * t) + nI 1).toNatClampNeg)) (gn_110 (xs (nI (5 * t) + nI 1).toNatClampNeg))) (kk : ∀ M' N', Rl (t + 1) M' N' → lw_Lp p l e s m below meth c b D cs A ad ar cells slots (t + 1) M' N')
    {H : Heap} {locs : List Loc} {ls : Array Slot} (hP : va_P D nm_cl (im_W cs ad (st_hC M) ++ im_W cs ar (st_hR N)) H) (hD : va_D A (im_W cs ad (st_hC M) ++ im_W cs ar (st_hR N))) (hS : va_S A s.heap H locs) (hl : lv_has ls 4 [(0, .ref b), (1, .ref (ad 0)), (2, .ref (ar 0)), (3, .int (nI (5 * t)))]) :
    W p l e room_1 s m #[Value.ref b] below meth c H locs cells slots (lw_Z below #[Value.ref b] s) (F0 m 299 ls []) := by
  have hx := hC.1.1
  have hb := hC.1.2.1
  obtain ⟨hC1, hX, hbl, hbA, hL, hc1, hc2⟩ := hC
  have hC := (⟨hC1, hX, hbl, hbA, hL, hc1, hc2⟩ : lw_C9 p s m c b L xs D cs A cells slots)
  obtain ⟨r, M', N', hf, hg, hR⟩ := hq
  refine lv_aload_n hx hb dl_299 rfl (lv_at hl 1 rfl) ?_
  refine lv_aload_n hx hb dl_300 rfl (lv_at hl 0 rfl) ?_
  refine lv_iload_n hx hb dl_301 rfl (lv_at hl 3 rfl) ?_
  refine lv_iconst (v := nI 1) hx hb dl_302 rfl ?_
  refine lv_iadd hx hb dl_303 ?_
  refine va_sld hx hb hX hbl hbA hS (lw_in (k := 1) (by decide) hL ht) dl_304 ?_
  refine lc_call (ci := 7) (as := [(xs (nI (5 * t) + nI 1).toNatClampNeg)]) (r := (some (.inl r), st_hC M')) hC1 hP hD hS lw_k9C hl.1 ⟨hc1, hc2⟩ mf_80 rfl (tg_80 (xs (nI (5 * t) + nI 1).toNatClampNeg) _ _ hf) (by decide) rfl rfl ⟨_, _, rfl⟩ ml_13_44 mi_80 ms_80 mp_80 (by simp) dl_305 (fun H locs hP hD hS => ?_)
  refine lv_aload_n hx hb dl_308 rfl (lv_at hl 2 rfl) ?_
  refine lv_aload_n hx hb dl_309 rfl (lv_at hl 0 rfl) ?_
  refine lv_iload_n hx hb dl_310 rfl (lv_at hl 3 rfl) ?_
  refine lv_iconst (v := nI 1) hx hb dl_311 rfl ?_
  refine lv_iadd hx hb dl_312 ?_
  refine va_sld hx hb hX hbl hbA hS (lw_in (k := 1) (by decide) hL ht) dl_313 ?_
  have hP := lc_swapP hP
  have hD := lc_swapD hD
  refine lc_call (ci := 8) (as := [(xs (nI (5 * t) + nI 1).toNatClampNeg)]) (r := (some (.inl r), st_hR N')) hC1 hP hD hS lw_k9R hl.1 ⟨hc1, hc2⟩ mf_110 rfl (tg_110 (xs (nI (5 * t) + nI 1).toNatClampNeg) _ _ hg) (by decide) rfl rfl ⟨_, _, rfl⟩ ml_13_47 mi_110 ms_110 mp_110 (by simp [im_v, Value.category]) dl_314 (fun H locs hP hD hS => ?_)
  have hP := lc_swapP hP
  have hD := lc_swapD hD
  refine lv_icmp_eq (tgt := 622) hx hb dl_317 rfl (fun _ => ?_) (fun h9 => absurd rfl h9)
  exact lw_next hC (kk M' N' hR) hP hD hS hl
set_option maxRecDepth 100000 in
set_option maxHeartbeats 4000000 in
theorem lw_c8 {t : Nat} {M N : Nat → Nat → Int32} (hC : lw_C9 p s m c b L xs D cs A cells slots) (ht : 5 * t + 5 ≤ L) (hq : lw_P1 Rl t M N (gn_81 (xs (nI (5 * t) + nI 1).toNatClampNeg) (xs (nI (5 * t) + nI 2).toNatClampNeg)) (gn_111 (xs (nI (5 * t) + nI 1).toNatClampNeg) (xs (nI (5 * t) + nI 2).toNatClampNeg))) (kk : ∀ M' N', Rl (t + 1) M' N' → lw_Lp p l e s m below meth c b D cs A ad ar cells slots (t + 1) M' N')
    {H : Heap} {locs : List Loc} {ls : Array Slot} (hP : va_P D nm_cl (im_W cs ad (st_hC M) ++ im_W cs ar (st_hR N)) H) (hD : va_D A (im_W cs ad (st_hC M) ++ im_W cs ar (st_hR N))) (hS : va_S A s.heap H locs) (hl : lv_has ls 4 [(0, .ref b), (1, .ref (ad 0)), (2, .ref (ar 0)), (3, .int (nI (5 * t)))]) :
    W p l e room_1 s m #[Value.ref b] below meth c H locs cells slots (lw_Z below #[Value.ref b] s) (F0 m 322 ls []) := by
  have hx := hC.1.1
  have hb := hC.1.2.1
  obtain ⟨hC1, hX, hbl, hbA, hL, hc1, hc2⟩ := hC
  have hC := (⟨hC1, hX, hbl, hbA, hL, hc1, hc2⟩ : lw_C9 p s m c b L xs D cs A cells slots)
  obtain ⟨r, M', N', hf, hg, hR⟩ := hq
  refine lv_aload_n hx hb dl_322 rfl (lv_at hl 1 rfl) ?_
  refine lv_aload_n hx hb dl_323 rfl (lv_at hl 0 rfl) ?_
  refine lv_iload_n hx hb dl_324 rfl (lv_at hl 3 rfl) ?_
  refine lv_iconst (v := nI 1) hx hb dl_325 rfl ?_
  refine lv_iadd hx hb dl_326 ?_
  refine va_sld hx hb hX hbl hbA hS (lw_in (k := 1) (by decide) hL ht) dl_327 ?_
  refine lv_aload_n hx hb dl_328 rfl (lv_at hl 0 rfl) ?_
  refine lv_iload_n hx hb dl_329 rfl (lv_at hl 3 rfl) ?_
  refine lv_iconst (v := nI 2) hx hb dl_330 rfl ?_
  refine lv_iadd hx hb dl_331 ?_
  refine va_sld hx hb hX hbl hbA hS (lw_in (k := 2) (by decide) hL ht) dl_332 ?_
  refine lc_call (ci := 7) (as := [(xs (nI (5 * t) + nI 1).toNatClampNeg), (xs (nI (5 * t) + nI 2).toNatClampNeg)]) (r := (some (.inl r), st_hC M')) hC1 hP hD hS lw_k9C hl.1 ⟨hc1, hc2⟩ mf_81 rfl (tg_81 (xs (nI (5 * t) + nI 1).toNatClampNeg) (xs (nI (5 * t) + nI 2).toNatClampNeg) _ _ hf) (by decide) rfl rfl ⟨_, _, rfl⟩ ml_13_48 mi_81 ms_81 mp_81 (by simp) dl_333 (fun H locs hP hD hS => ?_)
  refine lv_aload_n hx hb dl_336 rfl (lv_at hl 2 rfl) ?_
  refine lv_aload_n hx hb dl_337 rfl (lv_at hl 0 rfl) ?_
  refine lv_iload_n hx hb dl_338 rfl (lv_at hl 3 rfl) ?_
  refine lv_iconst (v := nI 1) hx hb dl_339 rfl ?_
  refine lv_iadd hx hb dl_340 ?_
  refine va_sld hx hb hX hbl hbA hS (lw_in (k := 1) (by decide) hL ht) dl_341 ?_
  refine lv_aload_n hx hb dl_342 rfl (lv_at hl 0 rfl) ?_
  refine lv_iload_n hx hb dl_343 rfl (lv_at hl 3 rfl) ?_
  refine lv_iconst (v := nI 2) hx hb dl_344 rfl ?_
  refine lv_iadd hx hb dl_345 ?_
  refine va_sld hx hb hX hbl hbA hS (lw_in (k := 2) (by decide) hL ht) dl_346 ?_
  have hP := lc_swapP hP
  have hD := lc_swapD hD
  refine lc_call (ci := 8) (as := [(xs (nI (5 * t) + nI 1).toNatClampNeg), (xs (nI (5 * t) + nI 2).toNatClampNeg)]) (r := (some (.inl r), st_hR N')) hC1 hP hD hS lw_k9R hl.1 ⟨hc1, hc2⟩ mf_111 rfl (tg_111 (xs (nI (5 * t) + nI 1).toNatClampNeg) (xs (nI (5 * t) + nI 2).toNatClampNeg) _ _ hg) (by decide) rfl rfl ⟨_, _, rfl⟩ ml_13_52 mi_111 ms_111 mp_111 (by simp [im_v, Value.category]) dl_347 (fun H locs hP hD hS => ?_)
  have hP := lc_swapP hP
  have hD := lc_swapD hD
  refine lv_icmp_eq (tgt := 622) hx hb dl_350 rfl (fun _ => ?_) (fun h9 => absurd rfl h9)
  exact lw_next hC (kk M' N' hR) hP hD hS hl
set_option maxRecDepth 100000 in
set_option maxHeartbeats 4000000 in
theorem lw_c9 {t : Nat} {M N : Nat → Nat → Int32} (hC : lw_C9 p s m c b L xs D cs A cells slots) (ht : 5 * t + 5 ≤ L) (hq : lw_P1 Rl t M N (gn_82 (xs (nI (5 * t) + nI 1).toNatClampNeg)) (gn_120 (xs (nI (5 * t) + nI 1).toNatClampNeg))) (kk : ∀ M' N', Rl (t + 1) M' N' → lw_Lp p l e s m below meth c b D cs A ad ar cells slots (t + 1) M' N')
    {H : Heap} {locs : List Loc} {ls : Array Slot} (hP : va_P D nm_cl (im_W cs ad (st_hC M) ++ im_W cs ar (st_hR N)) H) (hD : va_D A (im_W cs ad (st_hC M) ++ im_W cs ar (st_hR N))) (hS : va_S A s.heap H locs) (hl : lv_has ls 4 [(0, .ref b), (1, .ref (ad 0)), (2, .ref (ar 0)), (3, .int (nI (5 * t)))]) :
    W p l e room_1 s m #[Value.ref b] below meth c H locs cells slots (lw_Z below #[Value.ref b] s) (F0 m 355 ls []) := by
  have hx := hC.1.1
  have hb := hC.1.2.1
  obtain ⟨hC1, hX, hbl, hbA, hL, hc1, hc2⟩ := hC
  have hC := (⟨hC1, hX, hbl, hbA, hL, hc1, hc2⟩ : lw_C9 p s m c b L xs D cs A cells slots)
  obtain ⟨r, M', N', hf, hg, hR⟩ := hq
  refine lv_aload_n hx hb dl_355 rfl (lv_at hl 1 rfl) ?_
  refine lv_aload_n hx hb dl_356 rfl (lv_at hl 0 rfl) ?_
  refine lv_iload_n hx hb dl_357 rfl (lv_at hl 3 rfl) ?_
  refine lv_iconst (v := nI 1) hx hb dl_358 rfl ?_
  refine lv_iadd hx hb dl_359 ?_
  refine va_sld hx hb hX hbl hbA hS (lw_in (k := 1) (by decide) hL ht) dl_360 ?_
  refine lc_call (ci := 7) (as := [(xs (nI (5 * t) + nI 1).toNatClampNeg)]) (r := (some (.inl r), st_hC M')) hC1 hP hD hS lw_k9C hl.1 ⟨hc1, hc2⟩ mf_82 rfl (tg_82 (xs (nI (5 * t) + nI 1).toNatClampNeg) _ _ hf) (by decide) rfl rfl ⟨_, _, rfl⟩ ml_13_53 mi_82 ms_82 mp_82 (by simp) dl_361 (fun H locs hP hD hS => ?_)
  refine lv_aload_n hx hb dl_364 rfl (lv_at hl 2 rfl) ?_
  refine lv_aload_n hx hb dl_365 rfl (lv_at hl 0 rfl) ?_
  refine lv_iload_n hx hb dl_366 rfl (lv_at hl 3 rfl) ?_
  refine lv_iconst (v := nI 1) hx hb dl_367 rfl ?_
  refine lv_iadd hx hb dl_368 ?_
  refine va_sld hx hb hX hbl hbA hS (lw_in (k := 1) (by decide) hL ht) dl_369 ?_
  have hP := lc_swapP hP
  have hD := lc_swapD hD
  refine lc_call (ci := 8) (as := [(xs (nI (5 * t) + nI 1).toNatClampNeg)]) (r := (some (.inl r), st_hR N')) hC1 hP hD hS lw_k9R hl.1 ⟨hc1, hc2⟩ mf_120 rfl (tg_120 (xs (nI (5 * t) + nI 1).toNatClampNeg) _ _ hg) (by decide) rfl rfl ⟨_, _, rfl⟩ ml_13_56 mi_120 ms_120 mp_120 (by simp [im_v, Value.category]) dl_370 (fun H locs hP hD hS => ?_)
  have hP := lc_swapP hP
  have hD := lc_swapD hD
  refine lv_icmp_eq (tgt := 622) hx hb dl_373 rfl (fun _ => ?_) (fun h9 => absurd rfl h9)
  exact lw_next hC (kk M' N' hR) hP hD hS hl
set_option maxRecDepth 100000 in
set_option maxHeartbeats 4000000 in
theorem lw_c10 {t : Nat} {M N : Nat → Nat → Int32} (hC : lw_C9 p s m c b L xs D cs A cells slots) (ht : 5 * t + 5 ≤ L) (hq : lw_P1 Rl t M N (gn_83 (xs (nI (5 * t) + nI 1).toNatClampNeg)) (gn_126 (xs (nI (5 * t) + nI 1).toNatClampNeg))) (kk : ∀ M' N', Rl (t + 1) M' N' → lw_Lp p l e s m below meth c b D cs A ad ar cells slots (t + 1) M' N')
    {H : Heap} {locs : List Loc} {ls : Array Slot} (hP : va_P D nm_cl (im_W cs ad (st_hC M) ++ im_W cs ar (st_hR N)) H) (hD : va_D A (im_W cs ad (st_hC M) ++ im_W cs ar (st_hR N))) (hS : va_S A s.heap H locs) (hl : lv_has ls 4 [(0, .ref b), (1, .ref (ad 0)), (2, .ref (ar 0)), (3, .int (nI (5 * t)))]) :
    W p l e room_1 s m #[Value.ref b] below meth c H locs cells slots (lw_Z below #[Value.ref b] s) (F0 m 378 ls []) := by
  have hx := hC.1.1
  have hb := hC.1.2.1
  obtain ⟨hC1, hX, hbl, hbA, hL, hc1, hc2⟩ := hC
  have hC := (⟨hC1, hX, hbl, hbA, hL, hc1, hc2⟩ : lw_C9 p s m c b L xs D cs A cells slots)
  obtain ⟨r, M', N', hf, hg, hR⟩ := hq
  refine lv_aload_n hx hb dl_378 rfl (lv_at hl 1 rfl) ?_
  refine lv_aload_n hx hb dl_379 rfl (lv_at hl 0 rfl) ?_
  refine lv_iload_n hx hb dl_380 rfl (lv_at hl 3 rfl) ?_
  refine lv_iconst (v := nI 1) hx hb dl_381 rfl ?_
  refine lv_iadd hx hb dl_382 ?_
  refine va_sld hx hb hX hbl hbA hS (lw_in (k := 1) (by decide) hL ht) dl_383 ?_
  refine lc_call (ci := 7) (as := [(xs (nI (5 * t) + nI 1).toNatClampNeg)]) (r := (some (.inl r), st_hC M')) hC1 hP hD hS lw_k9C hl.1 ⟨hc1, hc2⟩ mf_83 rfl (tg_83 (xs (nI (5 * t) + nI 1).toNatClampNeg) _ _ hf) (by decide) rfl rfl ⟨_, _, rfl⟩ ml_13_57 mi_83 ms_83 mp_83 (by simp) dl_384 (fun H locs hP hD hS => ?_)
  refine lv_aload_n hx hb dl_387 rfl (lv_at hl 2 rfl) ?_
  refine lv_aload_n hx hb dl_388 rfl (lv_at hl 0 rfl) ?_
  refine lv_iload_n hx hb dl_389 rfl (lv_at hl 3 rfl) ?_
  refine lv_iconst (v := nI 1) hx hb dl_390 rfl ?_
  refine lv_iadd hx hb dl_391 ?_
  refine va_sld hx hb hX hbl hbA hS (lw_in (k := 1) (by decide) hL ht) dl_392 ?_
  have hP := lc_swapP hP
  have hD := lc_swapD hD
  refine lc_call (ci := 8) (as := [(xs (nI (5 * t) + nI 1).toNatClampNeg)]) (r := (some (.inl r), st_hR N')) hC1 hP hD hS lw_k9R hl.1 ⟨hc1, hc2⟩ mf_126 rfl (tg_126 (xs (nI (5 * t) + nI 1).toNatClampNeg) _ _ hg) (by decide) rfl rfl ⟨_, _, rfl⟩ ml_13_60 mi_126 ms_126 mp_126 (by simp [im_v, Value.category]) dl_393 (fun H locs hP hD hS => ?_)
  have hP := lc_swapP hP
  have hD := lc_swapD hD
  refine lv_icmp_eq (tgt := 622) hx hb dl_396 rfl (fun _ => ?_) (fun h9 => absurd rfl h9)
  exact lw_next hC (kk M' N' hR) hP hD hS hl
set_option maxRecDepth 100000 in
set_option maxHeartbeats 4000000 in
theorem lw_c11 {t : Nat} {M N : Nat → Nat → Int32} (hC : lw_C9 p s m c b L xs D cs A cells slots) (ht : 5 * t + 5 ≤ L) (hq : lw_P1 Rl t M N (gn_84 (xs (nI (5 * t) + nI 1).toNatClampNeg)) (gn_127 (xs (nI (5 * t) + nI 1).toNatClampNeg))) (kk : ∀ M' N', Rl (t + 1) M' N' → lw_Lp p l e s m below meth c b D cs A ad ar cells slots (t + 1) M' N')
    {H : Heap} {locs : List Loc} {ls : Array Slot} (hP : va_P D nm_cl (im_W cs ad (st_hC M) ++ im_W cs ar (st_hR N)) H) (hD : va_D A (im_W cs ad (st_hC M) ++ im_W cs ar (st_hR N))) (hS : va_S A s.heap H locs) (hl : lv_has ls 4 [(0, .ref b), (1, .ref (ad 0)), (2, .ref (ar 0)), (3, .int (nI (5 * t)))]) :
    W p l e room_1 s m #[Value.ref b] below meth c H locs cells slots (lw_Z below #[Value.ref b] s) (F0 m 401 ls []) := by
  have hx := hC.1.1
  have hb := hC.1.2.1
  obtain ⟨hC1, hX, hbl, hbA, hL, hc1, hc2⟩ := hC
  have hC := (⟨hC1, hX, hbl, hbA, hL, hc1, hc2⟩ : lw_C9 p s m c b L xs D cs A cells slots)
  obtain ⟨r, M', N', hf, hg, hR⟩ := hq
  refine lv_aload_n hx hb dl_401 rfl (lv_at hl 1 rfl) ?_
  refine lv_aload_n hx hb dl_402 rfl (lv_at hl 0 rfl) ?_
  refine lv_iload_n hx hb dl_403 rfl (lv_at hl 3 rfl) ?_
  refine lv_iconst (v := nI 1) hx hb dl_404 rfl ?_
  refine lv_iadd hx hb dl_405 ?_
  refine va_sld hx hb hX hbl hbA hS (lw_in (k := 1) (by decide) hL ht) dl_406 ?_
  refine lc_call (ci := 7) (as := [(xs (nI (5 * t) + nI 1).toNatClampNeg)]) (r := (some (.inl r), st_hC M')) hC1 hP hD hS lw_k9C hl.1 ⟨hc1, hc2⟩ mf_84 rfl (tg_84 (xs (nI (5 * t) + nI 1).toNatClampNeg) _ _ hf) (by decide) rfl rfl ⟨_, _, rfl⟩ ml_13_61 mi_84 ms_84 mp_84 (by simp) dl_407 (fun H locs hP hD hS => ?_)
  refine lv_aload_n hx hb dl_410 rfl (lv_at hl 2 rfl) ?_
  refine lv_aload_n hx hb dl_411 rfl (lv_at hl 0 rfl) ?_
  refine lv_iload_n hx hb dl_412 rfl (lv_at hl 3 rfl) ?_
  refine lv_iconst (v := nI 1) hx hb dl_413 rfl ?_
  refine lv_iadd hx hb dl_414 ?_
  refine va_sld hx hb hX hbl hbA hS (lw_in (k := 1) (by decide) hL ht) dl_415 ?_
  have hP := lc_swapP hP
  have hD := lc_swapD hD
  refine lc_call (ci := 8) (as := [(xs (nI (5 * t) + nI 1).toNatClampNeg)]) (r := (some (.inl r), st_hR N')) hC1 hP hD hS lw_k9R hl.1 ⟨hc1, hc2⟩ mf_127 rfl (tg_127 (xs (nI (5 * t) + nI 1).toNatClampNeg) _ _ hg) (by decide) rfl rfl ⟨_, _, rfl⟩ ml_13_64 mi_127 ms_127 mp_127 (by simp [im_v, Value.category]) dl_416 (fun H locs hP hD hS => ?_)
  have hP := lc_swapP hP
  have hD := lc_swapD hD
  refine lv_icmp_eq (tgt := 622) hx hb dl_419 rfl (fun _ => ?_) (fun h9 => absurd rfl h9)
  exact lw_next hC (kk M' N' hR) hP hD hS hl
set_option maxRecDepth 100000 in
set_option maxHeartbeats 4000000 in
theorem lw_c12 {t : Nat} {M N : Nat → Nat → Int32} (hC : lw_C9 p s m c b L xs D cs A cells slots) (ht : 5 * t + 5 ≤ L) (hq : lw_P1 Rl t M N (gn_85 (xs (nI (5 * t) + nI 1).toNatClampNeg) (xs (nI (5 * t) + nI 2).toNatClampNeg)) (gn_128 (xs (nI (5 * t) + nI 1).toNatClampNeg) (xs (nI (5 * t) + nI 2).toNatClampNeg))) (kk : ∀ M' N', Rl (t + 1) M' N' → lw_Lp p l e s m below meth c b D cs A ad ar cells slots (t + 1) M' N')
    {H : Heap} {locs : List Loc} {ls : Array Slot} (hP : va_P D nm_cl (im_W cs ad (st_hC M) ++ im_W cs ar (st_hR N)) H) (hD : va_D A (im_W cs ad (st_hC M) ++ im_W cs ar (st_hR N))) (hS : va_S A s.heap H locs) (hl : lv_has ls 4 [(0, .ref b), (1, .ref (ad 0)), (2, .ref (ar 0)), (3, .int (nI (5 * t)))]) :
    W p l e room_1 s m #[Value.ref b] below meth c H locs cells slots (lw_Z below #[Value.ref b] s) (F0 m 424 ls []) := by
  have hx := hC.1.1
  have hb := hC.1.2.1
  obtain ⟨hC1, hX, hbl, hbA, hL, hc1, hc2⟩ := hC
  have hC := (⟨hC1, hX, hbl, hbA, hL, hc1, hc2⟩ : lw_C9 p s m c b L xs D cs A cells slots)
  obtain ⟨r, M', N', hf, hg, hR⟩ := hq
  refine lv_aload_n hx hb dl_424 rfl (lv_at hl 1 rfl) ?_
  refine lv_aload_n hx hb dl_425 rfl (lv_at hl 0 rfl) ?_
  refine lv_iload_n hx hb dl_426 rfl (lv_at hl 3 rfl) ?_
  refine lv_iconst (v := nI 1) hx hb dl_427 rfl ?_
  refine lv_iadd hx hb dl_428 ?_
  refine va_sld hx hb hX hbl hbA hS (lw_in (k := 1) (by decide) hL ht) dl_429 ?_
  refine lv_aload_n hx hb dl_430 rfl (lv_at hl 0 rfl) ?_
  refine lv_iload_n hx hb dl_431 rfl (lv_at hl 3 rfl) ?_
  refine lv_iconst (v := nI 2) hx hb dl_432 rfl ?_
  refine lv_iadd hx hb dl_433 ?_
  refine va_sld hx hb hX hbl hbA hS (lw_in (k := 2) (by decide) hL ht) dl_434 ?_
  refine lc_call (ci := 7) (as := [(xs (nI (5 * t) + nI 1).toNatClampNeg), (xs (nI (5 * t) + nI 2).toNatClampNeg)]) (r := (some (.inl r), st_hC M')) hC1 hP hD hS lw_k9C hl.1 ⟨hc1, hc2⟩ mf_85 rfl (tg_85 (xs (nI (5 * t) + nI 1).toNatClampNeg) (xs (nI (5 * t) + nI 2).toNatClampNeg) _ _ hf) (by decide) rfl rfl ⟨_, _, rfl⟩ ml_13_65 mi_85 ms_85 mp_85 (by simp) dl_435 (fun H locs hP hD hS => ?_)
  refine lv_aload_n hx hb dl_438 rfl (lv_at hl 2 rfl) ?_
  refine lv_aload_n hx hb dl_439 rfl (lv_at hl 0 rfl) ?_
  refine lv_iload_n hx hb dl_440 rfl (lv_at hl 3 rfl) ?_
  refine lv_iconst (v := nI 1) hx hb dl_441 rfl ?_
  refine lv_iadd hx hb dl_442 ?_
  refine va_sld hx hb hX hbl hbA hS (lw_in (k := 1) (by decide) hL ht) dl_443 ?_
  refine lv_aload_n hx hb dl_444 rfl (lv_at hl 0 rfl) ?_
  refine lv_iload_n hx hb dl_445 rfl (lv_at hl 3 rfl) ?_
  refine lv_iconst (v := nI 2) hx hb dl_446 rfl ?_
  refine lv_iadd hx hb dl_447 ?_
  refine va_sld hx hb hX hbl hbA hS (lw_in (k := 2) (by decide) hL ht) dl_448 ?_
  have hP := lc_swapP hP
  have hD := lc_swapD hD
  refine lc_call (ci := 8) (as := [(xs (nI (5 * t) + nI 1).toNatClampNeg), (xs (nI (5 * t) + nI 2).toNatClampNeg)]) (r := (some (.inl r), st_hR N')) hC1 hP hD hS lw_k9R hl.1 ⟨hc1, hc2⟩ mf_128 rfl (tg_128 (xs (nI (5 * t) + nI 1).toNatClampNeg) (xs (nI (5 * t) + nI 2).toNatClampNeg) _ _ hg) (by decide) rfl rfl ⟨_, _, rfl⟩ ml_13_69 mi_128 ms_128 mp_128 (by simp [im_v, Value.category]) dl_449 (fun H locs hP hD hS => ?_)
  have hP := lc_swapP hP
  have hD := lc_swapD hD
  refine lv_icmp_eq (tgt := 622) hx hb dl_452 rfl (fun _ => ?_) (fun h9 => absurd rfl h9)
  exact lw_next hC (kk M' N' hR) hP hD hS hl
set_option maxRecDepth 100000 in
set_option maxHeartbeats 4000000 in
theorem lw_c13 {t : Nat} {M N : Nat → Nat → Int32} (hC : lw_C9 p s m c b L xs D cs A cells slots) (ht : 5 * t + 5 ≤ L) (hq : lw_P1 Rl t M N (gn_86 (xs (nI (5 * t) + nI 1).toNatClampNeg)) (gn_129 (xs (nI (5 * t) + nI 1).toNatClampNeg))) (kk : ∀ M' N', Rl (t + 1) M' N' → lw_Lp p l e s m below meth c b D cs A ad ar cells slots (t + 1) M' N')
    {H : Heap} {locs : List Loc} {ls : Array Slot} (hP : va_P D nm_cl (im_W cs ad (st_hC M) ++ im_W cs ar (st_hR N)) H) (hD : va_D A (im_W cs ad (st_hC M) ++ im_W cs ar (st_hR N))) (hS : va_S A s.heap H locs) (hl : lv_has ls 4 [(0, .ref b), (1, .ref (ad 0)), (2, .ref (ar 0)), (3, .int (nI (5 * t)))]) :
    W p l e room_1 s m #[Value.ref b] below meth c H locs cells slots (lw_Z below #[Value.ref b] s) (F0 m 457 ls []) := by
  have hx := hC.1.1
  have hb := hC.1.2.1
  obtain ⟨hC1, hX, hbl, hbA, hL, hc1, hc2⟩ := hC
  have hC := (⟨hC1, hX, hbl, hbA, hL, hc1, hc2⟩ : lw_C9 p s m c b L xs D cs A cells slots)
  obtain ⟨r, M', N', hf, hg, hR⟩ := hq
  refine lv_aload_n hx hb dl_457 rfl (lv_at hl 1 rfl) ?_
  refine lv_aload_n hx hb dl_458 rfl (lv_at hl 0 rfl) ?_
  refine lv_iload_n hx hb dl_459 rfl (lv_at hl 3 rfl) ?_
  refine lv_iconst (v := nI 1) hx hb dl_460 rfl ?_
  refine lv_iadd hx hb dl_461 ?_
  refine va_sld hx hb hX hbl hbA hS (lw_in (k := 1) (by decide) hL ht) dl_462 ?_
  refine lc_call (ci := 7) (as := [(xs (nI (5 * t) + nI 1).toNatClampNeg)]) (r := (some (.inl r), st_hC M')) hC1 hP hD hS lw_k9C hl.1 ⟨hc1, hc2⟩ mf_86 rfl (tg_86 (xs (nI (5 * t) + nI 1).toNatClampNeg) _ _ hf) (by decide) rfl rfl ⟨_, _, rfl⟩ ml_13_70 mi_86 ms_86 mp_86 (by simp) dl_463 (fun H locs hP hD hS => ?_)
  refine lv_aload_n hx hb dl_466 rfl (lv_at hl 2 rfl) ?_
  refine lv_aload_n hx hb dl_467 rfl (lv_at hl 0 rfl) ?_
  refine lv_iload_n hx hb dl_468 rfl (lv_at hl 3 rfl) ?_
  refine lv_iconst (v := nI 1) hx hb dl_469 rfl ?_
  refine lv_iadd hx hb dl_470 ?_
  refine va_sld hx hb hX hbl hbA hS (lw_in (k := 1) (by decide) hL ht) dl_471 ?_
  have hP := lc_swapP hP
  have hD := lc_swapD hD
  refine lc_call (ci := 8) (as := [(xs (nI (5 * t) + nI 1).toNatClampNeg)]) (r := (some (.inl r), st_hR N')) hC1 hP hD hS lw_k9R hl.1 ⟨hc1, hc2⟩ mf_129 rfl (tg_129 (xs (nI (5 * t) + nI 1).toNatClampNeg) _ _ hg) (by decide) rfl rfl ⟨_, _, rfl⟩ ml_13_73 mi_129 ms_129 mp_129 (by simp [im_v, Value.category]) dl_472 (fun H locs hP hD hS => ?_)
  have hP := lc_swapP hP
  have hD := lc_swapD hD
  refine lv_icmp_eq (tgt := 622) hx hb dl_475 rfl (fun _ => ?_) (fun h9 => absurd rfl h9)
  exact lw_next hC (kk M' N' hR) hP hD hS hl
set_option maxRecDepth 100000 in
set_option maxHeartbeats 4000000 in
theorem lw_c14 {t : Nat} {M N : Nat → Nat → Int32} (hC : lw_C9 p s m c b L xs D cs A cells slots) (ht : 5 * t + 5 ≤ L) (hq : lw_P1 Rl t M N (gn_87 (xs (nI (5 * t) + nI 1).toNatClampNeg) (xs (nI (5 * t) + nI 2).toNatClampNeg)) (gn_130 (xs (nI (5 * t) + nI 1).toNatClampNeg) (xs (nI (5 * t) + nI 2).toNatClampNeg))) (kk : ∀ M' N', Rl (t + 1) M' N' → lw_Lp p l e s m below meth c b D cs A ad ar cells slots (t + 1) M' N')
    {H : Heap} {locs : List Loc} {ls : Array Slot} (hP : va_P D nm_cl (im_W cs ad (st_hC M) ++ im_W cs ar (st_hR N)) H) (hD : va_D A (im_W cs ad (st_hC M) ++ im_W cs ar (st_hR N))) (hS : va_S A s.heap H locs) (hl : lv_has ls 4 [(0, .ref b), (1, .ref (ad 0)), (2, .ref (ar 0)), (3, .int (nI (5 * t)))]) :
    W p l e room_1 s m #[Value.ref b] below meth c H locs cells slots (lw_Z below #[Value.ref b] s) (F0 m 480 ls []) := by
  have hx := hC.1.1
  have hb := hC.1.2.1
  obtain ⟨hC1, hX, hbl, hbA, hL, hc1, hc2⟩ := hC
  have hC := (⟨hC1, hX, hbl, hbA, hL, hc1, hc2⟩ : lw_C9 p s m c b L xs D cs A cells slots)
  obtain ⟨r, M', N', hf, hg, hR⟩ := hq
  refine lv_aload_n hx hb dl_480 rfl (lv_at hl 1 rfl) ?_
  refine lv_aload_n hx hb dl_481 rfl (lv_at hl 0 rfl) ?_
  refine lv_iload_n hx hb dl_482 rfl (lv_at hl 3 rfl) ?_
  refine lv_iconst (v := nI 1) hx hb dl_483 rfl ?_
  refine lv_iadd hx hb dl_484 ?_
  refine va_sld hx hb hX hbl hbA hS (lw_in (k := 1) (by decide) hL ht) dl_485 ?_
  refine lv_aload_n hx hb dl_486 rfl (lv_at hl 0 rfl) ?_
  refine lv_iload_n hx hb dl_487 rfl (lv_at hl 3 rfl) ?_
  refine lv_iconst (v := nI 2) hx hb dl_488 rfl ?_
  refine lv_iadd hx hb dl_489 ?_
  refine va_sld hx hb hX hbl hbA hS (lw_in (k := 2) (by decide) hL ht) dl_490 ?_
  refine lc_call (ci := 7) (as := [(xs (nI (5 * t) + nI 1).toNatClampNeg), (xs (nI (5 * t) + nI 2).toNatClampNeg)]) (r := (some (.inl r), st_hC M')) hC1 hP hD hS lw_k9C hl.1 ⟨hc1, hc2⟩ mf_87 rfl (tg_87 (xs (nI (5 * t) + nI 1).toNatClampNeg) (xs (nI (5 * t) + nI 2).toNatClampNeg) _ _ hf) (by decide) rfl rfl ⟨_, _, rfl⟩ ml_13_74 mi_87 ms_87 mp_87 (by simp) dl_491 (fun H locs hP hD hS => ?_)
  refine lv_aload_n hx hb dl_494 rfl (lv_at hl 2 rfl) ?_
  refine lv_aload_n hx hb dl_495 rfl (lv_at hl 0 rfl) ?_
  refine lv_iload_n hx hb dl_496 rfl (lv_at hl 3 rfl) ?_
  refine lv_iconst (v := nI 1) hx hb dl_497 rfl ?_
  refine lv_iadd hx hb dl_498 ?_
  refine va_sld hx hb hX hbl hbA hS (lw_in (k := 1) (by decide) hL ht) dl_499 ?_
  refine lv_aload_n hx hb dl_500 rfl (lv_at hl 0 rfl) ?_
  refine lv_iload_n hx hb dl_501 rfl (lv_at hl 3 rfl) ?_
  refine lv_iconst (v := nI 2) hx hb dl_502 rfl ?_
  refine lv_iadd hx hb dl_503 ?_
  refine va_sld hx hb hX hbl hbA hS (lw_in (k := 2) (by decide) hL ht) dl_504 ?_
  have hP := lc_swapP hP
  have hD := lc_swapD hD
  refine lc_call (ci := 8) (as := [(xs (nI (5 * t) + nI 1).toNatClampNeg), (xs (nI (5 * t) + nI 2).toNatClampNeg)]) (r := (some (.inl r), st_hR N')) hC1 hP hD hS lw_k9R hl.1 ⟨hc1, hc2⟩ mf_130 rfl (tg_130 (xs (nI (5 * t) + nI 1).toNatClampNeg) (xs (nI (5 * t) + nI 2).toNatClampNeg) _ _ hg) (by decide) rfl rfl ⟨_, _, rfl⟩ ml_13_77 mi_130 ms_130 mp_130 (by simp [im_v, Value.category]) dl_505 (fun H locs hP hD hS => ?_)
  have hP := lc_swapP hP
  have hD := lc_swapD hD
  refine lv_icmp_eq (tgt := 622) hx hb dl_508 rfl (fun _ => ?_) (fun h9 => absurd rfl h9)
  exact lw_next hC (kk M' N' hR) hP hD hS hl
set_option maxRecDepth 100000 in
set_option maxHeartbeats 4000000 in
theorem lw_c15 {t : Nat} {M N : Nat → Nat → Int32} (hC : lw_C9 p s m c b L xs D cs A cells slots) (ht : 5 * t + 5 ≤ L) (hq : lw_P1 Rl t M N (gn_88 (xs (nI (5 * t) + nI 1).toNatClampNeg) (xs (nI (5 * t) + nI 2).toNatClampNeg) (xs (nI (5 * t) + nI 3).toNatClampNeg)) (gn_131 (xs (nI (5 * t) + nI 1).toNatClampNeg) (xs (nI (5 * t) + nI 2).toNatClampNeg) (xs (nI (5 * t) + nI 3).toNatClampNeg))) (kk : ∀ M' N', Rl (t + 1) M' N' → lw_Lp p l e s m below meth c b D cs A ad ar cells slots (t + 1) M' N')
    {H : Heap} {locs : List Loc} {ls : Array Slot} (hP : va_P D nm_cl (im_W cs ad (st_hC M) ++ im_W cs ar (st_hR N)) H) (hD : va_D A (im_W cs ad (st_hC M) ++ im_W cs ar (st_hR N))) (hS : va_S A s.heap H locs) (hl : lv_has ls 4 [(0, .ref b), (1, .ref (ad 0)), (2, .ref (ar 0)), (3, .int (nI (5 * t)))]) :
    W p l e room_1 s m #[Value.ref b] below meth c H locs cells slots (lw_Z below #[Value.ref b] s) (F0 m 513 ls []) := by
  have hx := hC.1.1
  have hb := hC.1.2.1
  obtain ⟨hC1, hX, hbl, hbA, hL, hc1, hc2⟩ := hC
  have hC := (⟨hC1, hX, hbl, hbA, hL, hc1, hc2⟩ : lw_C9 p s m c b L xs D cs A cells slots)
  obtain ⟨r, M', N', hf, hg, hR⟩ := hq
  refine lv_aload_n hx hb dl_513 rfl (lv_at hl 1 rfl) ?_
  refine lv_aload_n hx hb dl_514 rfl (lv_at hl 0 rfl) ?_
  refine lv_iload_n hx hb dl_515 rfl (lv_at hl 3 rfl) ?_
  refine lv_iconst (v := nI 1) hx hb dl_516 rfl ?_
  refine lv_iadd hx hb dl_517 ?_
  refine va_sld hx hb hX hbl hbA hS (lw_in (k := 1) (by decide) hL ht) dl_518 ?_
  refine lv_aload_n hx hb dl_519 rfl (lv_at hl 0 rfl) ?_
  refine lv_iload_n hx hb dl_520 rfl (lv_at hl 3 rfl) ?_
  refine lv_iconst (v := nI 2) hx hb dl_521 rfl ?_
  refine lv_iadd hx hb dl_522 ?_
  refine va_sld hx hb hX hbl hbA hS (lw_in (k := 2) (by decide) hL ht) dl_523 ?_
  refine lv_aload_n hx hb dl_524 rfl (lv_at hl 0 rfl) ?_
  refine lv_iload_n hx hb dl_525 rfl (lv_at hl 3 rfl) ?_
  refine lv_iconst (v := nI 3) hx hb dl_526 rfl ?_
  refine lv_iadd hx hb dl_527 ?_
  refine va_sld hx hb hX hbl hbA hS (lw_in (k := 3) (by decide) hL ht) dl_528 ?_
  refine lc_call (ci := 7) (as := [(xs (nI (5 * t) + nI 1).toNatClampNeg), (xs (nI (5 * t) + nI 2).toNatClampNeg), (xs (nI (5 * t) + nI 3).toNatClampNeg)]) (r := (some (.inl r), st_hC M')) hC1 hP hD hS lw_k9C hl.1 ⟨hc1, hc2⟩ mf_88 rfl (tg_88 (xs (nI (5 * t) + nI 1).toNatClampNeg) (xs (nI (5 * t) + nI 2).toNatClampNeg) (xs (nI (5 * t) + nI 3).toNatClampNeg) _ _ hf) (by decide) rfl rfl ⟨_, _, rfl⟩ ml_13_78 mi_88 ms_88 mp_88 (by simp) dl_529 (fun H locs hP hD hS => ?_)
  refine lv_aload_n hx hb dl_532 rfl (lv_at hl 2 rfl) ?_
  refine lv_aload_n hx hb dl_533 rfl (lv_at hl 0 rfl) ?_
  refine lv_iload_n hx hb dl_534 rfl (lv_at hl 3 rfl) ?_
  refine lv_iconst (v := nI 1) hx hb dl_535 rfl ?_
  refine lv_iadd hx hb dl_536 ?_
  refine va_sld hx hb hX hbl hbA hS (lw_in (k := 1) (by decide) hL ht) dl_537 ?_
  refine lv_aload_n hx hb dl_538 rfl (lv_at hl 0 rfl) ?_
  refine lv_iload_n hx hb dl_539 rfl (lv_at hl 3 rfl) ?_
  refine lv_iconst (v := nI 2) hx hb dl_540 rfl ?_
  refine lv_iadd hx hb dl_541 ?_
  refine va_sld hx hb hX hbl hbA hS (lw_in (k := 2) (by decide) hL ht) dl_542 ?_
  refine lv_aload_n hx hb dl_543 rfl (lv_at hl 0 rfl) ?_
  refine lv_iload_n hx hb dl_544 rfl (lv_at hl 3 rfl) ?_
  refine lv_iconst (v := nI 3) hx hb dl_545 rfl ?_
  refine lv_iadd hx hb dl_546 ?_
  refine va_sld hx hb hX hbl hbA hS (lw_in (k := 3) (by decide) hL ht) dl_547 ?_
  have hP := lc_swapP hP
  have hD := lc_swapD hD
  refine lc_call (ci := 8) (as := [(xs (nI (5 * t) + nI 1).toNatClampNeg), (xs (nI (5 * t) + nI 2).toNatClampNeg), (xs (nI (5 * t) + nI 3).toNatClampNeg)]) (r := (some (.inl r), st_hR N')) hC1 hP hD hS lw_k9R hl.1 ⟨hc1, hc2⟩ mf_131 rfl (tg_131 (xs (nI (5 * t) + nI 1).toNatClampNeg) (xs (nI (5 * t) + nI 2).toNatClampNeg) (xs (nI (5 * t) + nI 3).toNatClampNeg) _ _ hg) (by decide) rfl rfl ⟨_, _, rfl⟩ ml_13_82 mi_131 ms_131 mp_131 (by simp [im_v, Value.category]) dl_548 (fun H locs hP hD hS => ?_)
  have hP := lc_swapP hP
  have hD := lc_swapD hD
  refine lv_icmp_eq (tgt := 622) hx hb dl_551 rfl (fun _ => ?_) (fun h9 => absurd rfl h9)
  exact lw_next hC (kk M' N' hR) hP hD hS hl
set_option maxRecDepth 100000 in
set_option maxHeartbeats 4000000 in
theorem lw_c16 {t : Nat} {M N : Nat → Nat → Int32} (hC : lw_C9 p s m c b L xs D cs A cells slots) (ht : 5 * t + 5 ≤ L) (hq : lw_P1 Rl t M N (gn_89 (xs (nI (5 * t) + nI 1).toNatClampNeg) (xs (nI (5 * t) + nI 2).toNatClampNeg)) (gn_123 (xs (nI (5 * t) + nI 1).toNatClampNeg) (xs (nI (5 * t) + nI 2).toNatClampNeg))) (kk : ∀ M' N', Rl (t + 1) M' N' → lw_Lp p l e s m below meth c b D cs A ad ar cells slots (t + 1) M' N')
    {H : Heap} {locs : List Loc} {ls : Array Slot} (hP : va_P D nm_cl (im_W cs ad (st_hC M) ++ im_W cs ar (st_hR N)) H) (hD : va_D A (im_W cs ad (st_hC M) ++ im_W cs ar (st_hR N))) (hS : va_S A s.heap H locs) (hl : lv_has ls 4 [(0, .ref b), (1, .ref (ad 0)), (2, .ref (ar 0)), (3, .int (nI (5 * t)))]) :
    W p l e room_1 s m #[Value.ref b] below meth c H locs cells slots (lw_Z below #[Value.ref b] s) (F0 m 556 ls []) := by
  have hx := hC.1.1
  have hb := hC.1.2.1
  obtain ⟨hC1, hX, hbl, hbA, hL, hc1, hc2⟩ := hC
  have hC := (⟨hC1, hX, hbl, hbA, hL, hc1, hc2⟩ : lw_C9 p s m c b L xs D cs A cells slots)
  obtain ⟨r, M', N', hf, hg, hR⟩ := hq
  refine lv_aload_n hx hb dl_556 rfl (lv_at hl 1 rfl) ?_
  refine lv_aload_n hx hb dl_557 rfl (lv_at hl 0 rfl) ?_
  refine lv_iload_n hx hb dl_558 rfl (lv_at hl 3 rfl) ?_
  refine lv_iconst (v := nI 1) hx hb dl_559 rfl ?_
  refine lv_iadd hx hb dl_560 ?_
  refine va_sld hx hb hX hbl hbA hS (lw_in (k := 1) (by decide) hL ht) dl_561 ?_
  refine lv_aload_n hx hb dl_562 rfl (lv_at hl 0 rfl) ?_
  refine lv_iload_n hx hb dl_563 rfl (lv_at hl 3 rfl) ?_
  refine lv_iconst (v := nI 2) hx hb dl_564 rfl ?_
  refine lv_iadd hx hb dl_565 ?_
  refine va_sld hx hb hX hbl hbA hS (lw_in (k := 2) (by decide) hL ht) dl_566 ?_
  refine lc_call (ci := 7) (as := [(xs (nI (5 * t) + nI 1).toNatClampNeg), (xs (nI (5 * t) + nI 2).toNatClampNeg)]) (r := (some (.inl r), st_hC M')) hC1 hP hD hS lw_k9C hl.1 ⟨hc1, hc2⟩ mf_89 rfl (tg_89 (xs (nI (5 * t) + nI 1).toNatClampNeg) (xs (nI (5 * t) + nI 2).toNatClampNeg) _ _ hf) (by decide) rfl rfl ⟨_, _, rfl⟩ ml_13_83 mi_89 ms_89 mp_89 (by simp) dl_567 (fun H locs hP hD hS => ?_)
  refine lv_aload_n hx hb dl_570 rfl (lv_at hl 2 rfl) ?_
  refine lv_aload_n hx hb dl_571 rfl (lv_at hl 0 rfl) ?_
  refine lv_iload_n hx hb dl_572 rfl (lv_at hl 3 rfl) ?_
  refine lv_iconst (v := nI 1) hx hb dl_573 rfl ?_
  refine lv_iadd hx hb dl_574 ?_
  refine va_sld hx hb hX hbl hbA hS (lw_in (k := 1) (by decide) hL ht) dl_575 ?_
  refine lv_aload_n hx hb dl_576 rfl (lv_at hl 0 rfl) ?_
  refine lv_iload_n hx hb dl_577 rfl (lv_at hl 3 rfl) ?_
  refine lv_iconst (v := nI 2) hx hb dl_578 rfl ?_
  refine lv_iadd hx hb dl_579 ?_
  refine va_sld hx hb hX hbl hbA hS (lw_in (k := 2) (by decide) hL ht) dl_580 ?_
  have hP := lc_swapP hP
  have hD := lc_swapD hD
  refine lc_call (ci := 8) (as := [(xs (nI (5 * t) + nI 1).toNatClampNeg), (xs (nI (5 * t) + nI 2).toNatClampNeg)]) (r := (some (.inl r), st_hR N')) hC1 hP hD hS lw_k9R hl.1 ⟨hc1, hc2⟩ mf_123 rfl (tg_123 (xs (nI (5 * t) + nI 1).toNatClampNeg) (xs (nI (5 * t) + nI 2).toNatClampNeg) _ _ hg) (by decide) rfl rfl ⟨_, _, rfl⟩ ml_13_86 mi_123 ms_123 mp_123 (by simp [im_v, Value.category]) dl_581 (fun H locs hP hD hS => ?_)
  have hP := lc_swapP hP
  have hD := lc_swapD hD
  refine lv_icmp_eq (tgt := 622) hx hb dl_584 rfl (fun _ => ?_) (fun h9 => absurd rfl h9)
  exact lw_next hC (kk M' N' hR) hP hD hS hl
set_option maxRecDepth 100000 in
set_option maxHeartbeats 4000000 in
theorem lw_c17 {t : Nat} {M N : Nat → Nat → Int32} (hC : lw_C9 p s m c b L xs D cs A cells slots) (ht : 5 * t + 5 ≤ L) (hq : lw_P1 Rl t M N (gn_90 (xs (nI (5 * t) + nI 1).toNatClampNeg) (xs (nI (5 * t) + nI 2).toNatClampNeg)) (gn_132 (xs (nI (5 * t) + nI 1).toNatClampNeg) (xs (nI (5 * t) + nI 2).toNatClampNeg))) (kk : ∀ M' N', Rl (t + 1) M' N' → lw_Lp p l e s m below meth c b D cs A ad ar cells slots (t + 1) M' N')
    {H : Heap} {locs : List Loc} {ls : Array Slot} (hP : va_P D nm_cl (im_W cs ad (st_hC M) ++ im_W cs ar (st_hR N)) H) (hD : va_D A (im_W cs ad (st_hC M) ++ im_W cs ar (st_hR N))) (hS : va_S A s.heap H locs) (hl : lv_has ls 4 [(0, .ref b), (1, .ref (ad 0)), (2, .ref (ar 0)), (3, .int (nI (5 * t)))]) :
    W p l e room_1 s m #[Value.ref b] below meth c H locs cells slots (lw_Z below #[Value.ref b] s) (F0 m 589 ls []) := by
  have hx := hC.1.1
  have hb := hC.1.2.1
  obtain ⟨hC1, hX, hbl, hbA, hL, hc1, hc2⟩ := hC
  have hC := (⟨hC1, hX, hbl, hbA, hL, hc1, hc2⟩ : lw_C9 p s m c b L xs D cs A cells slots)
  obtain ⟨r, M', N', hf, hg, hR⟩ := hq
  refine lv_aload_n hx hb dl_589 rfl (lv_at hl 1 rfl) ?_
  refine lv_aload_n hx hb dl_590 rfl (lv_at hl 0 rfl) ?_
  refine lv_iload_n hx hb dl_591 rfl (lv_at hl 3 rfl) ?_
  refine lv_iconst (v := nI 1) hx hb dl_592 rfl ?_
  refine lv_iadd hx hb dl_593 ?_
  refine va_sld hx hb hX hbl hbA hS (lw_in (k := 1) (by decide) hL ht) dl_594 ?_
  refine lv_aload_n hx hb dl_595 rfl (lv_at hl 0 rfl) ?_
  refine lv_iload_n hx hb dl_596 rfl (lv_at hl 3 rfl) ?_
  refine lv_iconst (v := nI 2) hx hb dl_597 rfl ?_
  refine lv_iadd hx hb dl_598 ?_
  refine va_sld hx hb hX hbl hbA hS (lw_in (k := 2) (by decide) hL ht) dl_599 ?_
  refine lc_call (ci := 7) (as := [(xs (nI (5 * t) + nI 1).toNatClampNeg), (xs (nI (5 * t) + nI 2).toNatClampNeg)]) (r := (some (.inl r), st_hC M')) hC1 hP hD hS lw_k9C hl.1 ⟨hc1, hc2⟩ mf_90 rfl (tg_90 (xs (nI (5 * t) + nI 1).toNatClampNeg) (xs (nI (5 * t) + nI 2).toNatClampNeg) _ _ hf) (by decide) rfl rfl ⟨_, _, rfl⟩ ml_13_87 mi_90 ms_90 mp_90 (by simp) dl_600 (fun H locs hP hD hS => ?_)
  refine lv_aload_n hx hb dl_603 rfl (lv_at hl 2 rfl) ?_
  refine lv_aload_n hx hb dl_604 rfl (lv_at hl 0 rfl) ?_
  refine lv_iload_n hx hb dl_605 rfl (lv_at hl 3 rfl) ?_
  refine lv_iconst (v := nI 1) hx hb dl_606 rfl ?_
  refine lv_iadd hx hb dl_607 ?_
  refine va_sld hx hb hX hbl hbA hS (lw_in (k := 1) (by decide) hL ht) dl_608 ?_
  refine lv_aload_n hx hb dl_609 rfl (lv_at hl 0 rfl) ?_
  refine lv_iload_n hx hb dl_610 rfl (lv_at hl 3 rfl) ?_
  refine lv_iconst (v := nI 2) hx hb dl_611 rfl ?_
  refine lv_iadd hx hb dl_612 ?_
  refine va_sld hx hb hX hbl hbA hS (lw_in (k := 2) (by decide) hL ht) dl_613 ?_
  have hP := lc_swapP hP
  have hD := lc_swapD hD
  refine lc_call (ci := 8) (as := [(xs (nI (5 * t) + nI 1).toNatClampNeg), (xs (nI (5 * t) + nI 2).toNatClampNeg)]) (r := (some (.inl r), st_hR N')) hC1 hP hD hS lw_k9R hl.1 ⟨hc1, hc2⟩ mf_132 rfl (tg_132 (xs (nI (5 * t) + nI 1).toNatClampNeg) (xs (nI (5 * t) + nI 2).toNatClampNeg) _ _ hg) (by decide) rfl rfl ⟨_, _, rfl⟩ ml_13_90 mi_132 ms_132 mp_132 (by simp [im_v, Value.category]) dl_614 (fun H locs hP hD hS => ?_)
  have hP := lc_swapP hP
  have hD := lc_swapD hD
  refine lv_icmp_eq (tgt := 622) hx hb dl_617 rfl (fun _ => ?_) (fun h9 => absurd rfl h9)
  exact lw_next hC (kk M' N' hR) hP hD hS hl
end LW
