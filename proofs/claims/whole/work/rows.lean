section
/-! the tables' words: the skeleton's PART A -/
-- ===== PART A: goes FIRST, ahead of the names: the tables' words, and 'selects' of the private methods out of them =====
/-- a private method of a class that the tables say can be made, by its rows of tables_1 -/
def lw_okq (q : MethodName × Nat) : Prop := (q.1.cls ≠ "java/lang/invoke/MethodHandle" ∧ q.1.cls ≠ "java/lang/invoke/VarHandle") ∧ Cond.instantiable q.1.cls q.2 ∈ tables_1 ∧ Cond.privateMethod q.1 ∈ tables_1 ∧ Cond.instanceMethod q.1 ∈ tables_1
theorem lw_p0 : lw_okq (⟨"FencedModules$Source", "keepsToFreeRegisters", "(I)Z"⟩, 6) := ⟨⟨by decide +kernel, by decide +kernel⟩, List.mem_of_getElem? (i := 23) (by decide +kernel), List.mem_of_getElem? (i := 248) (by decide +kernel), List.mem_of_getElem? (i := 249) (by decide +kernel)⟩
theorem lw_p1 : lw_okq (⟨"FencedModules$Source", "namesWhatIsThere", "(I)Z"⟩, 6) := ⟨⟨by decide +kernel, by decide +kernel⟩, List.mem_of_getElem? (i := 23) (by decide +kernel), List.mem_of_getElem? (i := 268) (by decide +kernel), List.mem_of_getElem? (i := 269) (by decide +kernel)⟩
theorem lw_p2 : lw_okq (⟨"FencedModules$Machine", "write", "(II)V"⟩, 4) := ⟨⟨by decide +kernel, by decide +kernel⟩, List.mem_of_getElem? (i := 65) (by decide +kernel), List.mem_of_getElem? (i := 402) (by decide +kernel), List.mem_of_getElem? (i := 403) (by decide +kernel)⟩
theorem lw_p3 : lw_okq (⟨"FencedModules$Machine", "nextToStep", "()LFencedModules$Sandbox;"⟩, 4) := ⟨⟨by decide +kernel, by decide +kernel⟩, List.mem_of_getElem? (i := 65) (by decide +kernel), List.mem_of_getElem? (i := 439) (by decide +kernel), List.mem_of_getElem? (i := 440) (by decide +kernel)⟩
theorem lw_p4 : lw_okq (⟨"FencedModules$Machine", "giveTurn", "(I)V"⟩, 4) := ⟨⟨by decide +kernel, by decide +kernel⟩, List.mem_of_getElem? (i := 65) (by decide +kernel), List.mem_of_getElem? (i := 443) (by decide +kernel), List.mem_of_getElem? (i := 444) (by decide +kernel)⟩
theorem lw_p5 : lw_okq (⟨"FencedModules$Machine", "execute", "(LFencedModules$Sandbox;)V"⟩, 4) := ⟨⟨by decide +kernel, by decide +kernel⟩, List.mem_of_getElem? (i := 65) (by decide +kernel), List.mem_of_getElem? (i := 450) (by decide +kernel), List.mem_of_getElem? (i := 451) (by decide +kernel)⟩
theorem lw_p6 : lw_okq (⟨"FencedModules$Machine", "answerCall", "(LFencedModules$Sandbox;II)V"⟩, 4) := ⟨⟨by decide +kernel, by decide +kernel⟩, List.mem_of_getElem? (i := 65) (by decide +kernel), List.mem_of_getElem? (i := 465) (by decide +kernel), List.mem_of_getElem? (i := 466) (by decide +kernel)⟩
theorem lw_p7 : lw_okq (⟨"FencedModules$Machine", "print", "(LFencedModules$Sandbox;II)I"⟩, 4) := ⟨⟨by decide +kernel, by decide +kernel⟩, List.mem_of_getElem? (i := 65) (by decide +kernel), List.mem_of_getElem? (i := 496) (by decide +kernel), List.mem_of_getElem? (i := 497) (by decide +kernel)⟩
theorem lw_p8 : lw_okq (⟨"FencedModules$Machine", "send", "(II)I"⟩, 4) := ⟨⟨by decide +kernel, by decide +kernel⟩, List.mem_of_getElem? (i := 65) (by decide +kernel), List.mem_of_getElem? (i := 503) (by decide +kernel), List.mem_of_getElem? (i := 504) (by decide +kernel)⟩
theorem lw_p9 : lw_okq (⟨"FencedModules$Machine", "countStep", "(LFencedModules$Sandbox;)V"⟩, 4) := ⟨⟨by decide +kernel, by decide +kernel⟩, List.mem_of_getElem? (i := 65) (by decide +kernel), List.mem_of_getElem? (i := 518) (by decide +kernel), List.mem_of_getElem? (i := 519) (by decide +kernel)⟩
theorem lw_p10 : lw_okq (⟨"FencedModules$Follower", "reasonToEnd", "(LFencedModules$Source;)I"⟩, 4) := ⟨⟨by decide +kernel, by decide +kernel⟩, List.mem_of_getElem? (i := 172) (by decide +kernel), List.mem_of_getElem? (i := 565) (by decide +kernel), List.mem_of_getElem? (i := 566) (by decide +kernel)⟩
theorem lw_p11 : lw_okq (⟨"FencedModules$Follower", "takesLabel", "(IIII)Z"⟩, 4) := ⟨⟨by decide +kernel, by decide +kernel⟩, List.mem_of_getElem? (i := 172) (by decide +kernel), List.mem_of_getElem? (i := 573) (by decide +kernel), List.mem_of_getElem? (i := 574) (by decide +kernel)⟩
theorem lw_p12 : lw_okq (⟨"FencedModules$Follower", "holdsLabel", "(I)Z"⟩, 4) := ⟨⟨by decide +kernel, by decide +kernel⟩, List.mem_of_getElem? (i := 172) (by decide +kernel), List.mem_of_getElem? (i := 577) (by decide +kernel), List.mem_of_getElem? (i := 578) (by decide +kernel)⟩
theorem lw_p13 : lw_okq (⟨"FencedModules$Follower", "callTakesLabel", "(I)Z"⟩, 4) := ⟨⟨by decide +kernel, by decide +kernel⟩, List.mem_of_getElem? (i := 172) (by decide +kernel), List.mem_of_getElem? (i := 581) (by decide +kernel), List.mem_of_getElem? (i := 582) (by decide +kernel)⟩
theorem lw_p14 : lw_okq (⟨"FencedModules$Follower", "wouldPrintLabel", "(II)Z"⟩, 4) := ⟨⟨by decide +kernel, by decide +kernel⟩, List.mem_of_getElem? (i := 172) (by decide +kernel), List.mem_of_getElem? (i := 586) (by decide +kernel), List.mem_of_getElem? (i := 587) (by decide +kernel)⟩
theorem lw_p15 : lw_okq (⟨"FencedModules$Follower", "doLine", "(LFencedModules$Source;LFencedModules$Sandbox;)I"⟩, 4) := ⟨⟨by decide +kernel, by decide +kernel⟩, List.mem_of_getElem? (i := 172) (by decide +kernel), List.mem_of_getElem? (i := 594) (by decide +kernel), List.mem_of_getElem? (i := 595) (by decide +kernel)⟩
def lw_privs_1 : List (MethodName × Nat) := [(⟨"FencedModules$Source", "keepsToFreeRegisters", "(I)Z"⟩, 6), (⟨"FencedModules$Source", "namesWhatIsThere", "(I)Z"⟩, 6), (⟨"FencedModules$Machine", "write", "(II)V"⟩, 4), (⟨"FencedModules$Machine", "nextToStep", "()LFencedModules$Sandbox;"⟩, 4), (⟨"FencedModules$Machine", "giveTurn", "(I)V"⟩, 4), (⟨"FencedModules$Machine", "execute", "(LFencedModules$Sandbox;)V"⟩, 4), (⟨"FencedModules$Machine", "answerCall", "(LFencedModules$Sandbox;II)V"⟩, 4), (⟨"FencedModules$Machine", "print", "(LFencedModules$Sandbox;II)I"⟩, 4), (⟨"FencedModules$Machine", "send", "(II)I"⟩, 4), (⟨"FencedModules$Machine", "countStep", "(LFencedModules$Sandbox;)V"⟩, 4), (⟨"FencedModules$Follower", "reasonToEnd", "(LFencedModules$Source;)I"⟩, 4), (⟨"FencedModules$Follower", "takesLabel", "(IIII)Z"⟩, 4), (⟨"FencedModules$Follower", "holdsLabel", "(I)Z"⟩, 4), (⟨"FencedModules$Follower", "callTakesLabel", "(I)Z"⟩, 4), (⟨"FencedModules$Follower", "wouldPrintLabel", "(II)Z"⟩, 4), (⟨"FencedModules$Follower", "doLine", "(LFencedModules$Source;LFencedModules$Sandbox;)I"⟩, 4)]
theorem lw_r1 : ∀ q ∈ lw_privs_1, lw_okq q := List.forall_mem_cons.mpr ⟨lw_p0, List.forall_mem_cons.mpr ⟨lw_p1, List.forall_mem_cons.mpr ⟨lw_p2, List.forall_mem_cons.mpr ⟨lw_p3, List.forall_mem_cons.mpr ⟨lw_p4, List.forall_mem_cons.mpr ⟨lw_p5, List.forall_mem_cons.mpr ⟨lw_p6, List.forall_mem_cons.mpr ⟨lw_p7, List.forall_mem_cons.mpr ⟨lw_p8, List.forall_mem_cons.mpr ⟨lw_p9, List.forall_mem_cons.mpr ⟨lw_p10, List.forall_mem_cons.mpr ⟨lw_p11, List.forall_mem_cons.mpr ⟨lw_p12, List.forall_mem_cons.mpr ⟨lw_p13, List.forall_mem_cons.mpr ⟨lw_p14, List.forall_mem_cons.mpr ⟨lw_p15, fun _ h => absurd h List.not_mem_nil⟩⟩⟩⟩⟩⟩⟩⟩⟩⟩⟩⟩⟩⟩⟩⟩
theorem lw_p16 : lw_okq (⟨"FencedModules$Follower", "copyCell", "(II)V"⟩, 4) := ⟨⟨by decide +kernel, by decide +kernel⟩, List.mem_of_getElem? (i := 172) (by decide +kernel), List.mem_of_getElem? (i := 598) (by decide +kernel), List.mem_of_getElem? (i := 599) (by decide +kernel)⟩
theorem lw_p17 : lw_okq (⟨"FencedModules$Follower", "answerCall", "(LFencedModules$Sandbox;I)I"⟩, 4) := ⟨⟨by decide +kernel, by decide +kernel⟩, List.mem_of_getElem? (i := 172) (by decide +kernel), List.mem_of_getElem? (i := 604) (by decide +kernel), List.mem_of_getElem? (i := 605) (by decide +kernel)⟩
theorem lw_p18 : lw_okq (⟨"FencedModules$Follower", "putInt", "(II)V"⟩, 4) := ⟨⟨by decide +kernel, by decide +kernel⟩, List.mem_of_getElem? (i := 172) (by decide +kernel), List.mem_of_getElem? (i := 609) (by decide +kernel), List.mem_of_getElem? (i := 610) (by decide +kernel)⟩
theorem lw_p19 : lw_okq (⟨"FencedModules$Follower", "compute", "(IIII)V"⟩, 4) := ⟨⟨by decide +kernel, by decide +kernel⟩, List.mem_of_getElem? (i := 172) (by decide +kernel), List.mem_of_getElem? (i := 615) (by decide +kernel), List.mem_of_getElem? (i := 616) (by decide +kernel)⟩
theorem lw_p20 : lw_okq (⟨"FencedModulesModel", "can", "()Z"⟩, 32) := ⟨⟨by decide +kernel, by decide +kernel⟩, List.mem_of_getElem? (i := 624) (by decide +kernel), List.mem_of_getElem? (i := 749) (by decide +kernel), List.mem_of_getElem? (i := 750) (by decide +kernel)⟩
theorem lw_p21 : lw_okq (⟨"FencedModulesModel", "fits", "(I)Z"⟩, 32) := ⟨⟨by decide +kernel, by decide +kernel⟩, List.mem_of_getElem? (i := 624) (by decide +kernel), List.mem_of_getElem? (i := 753) (by decide +kernel), List.mem_of_getElem? (i := 754) (by decide +kernel)⟩
theorem lw_p22 : lw_okq (⟨"FencedModulesModel", "first", "(I)I"⟩, 32) := ⟨⟨by decide +kernel, by decide +kernel⟩, List.mem_of_getElem? (i := 624) (by decide +kernel), List.mem_of_getElem? (i := 757) (by decide +kernel), List.mem_of_getElem? (i := 758) (by decide +kernel)⟩
theorem lw_p23 : lw_okq (⟨"FencedModulesModel", "translate", "(II)V"⟩, 32) := ⟨⟨by decide +kernel, by decide +kernel⟩, List.mem_of_getElem? (i := 624) (by decide +kernel), List.mem_of_getElem? (i := 761) (by decide +kernel), List.mem_of_getElem? (i := 762) (by decide +kernel)⟩
theorem lw_p24 : lw_okq (⟨"FencedModulesModel", "add", "(I)V"⟩, 32) := ⟨⟨by decide +kernel, by decide +kernel⟩, List.mem_of_getElem? (i := 624) (by decide +kernel), List.mem_of_getElem? (i := 768) (by decide +kernel), List.mem_of_getElem? (i := 769) (by decide +kernel)⟩
theorem lw_p25 : lw_okq (⟨"FencedModulesModel", "target", "(I)I"⟩, 32) := ⟨⟨by decide +kernel, by decide +kernel⟩, List.mem_of_getElem? (i := 624) (by decide +kernel), List.mem_of_getElem? (i := 772) (by decide +kernel), List.mem_of_getElem? (i := 773) (by decide +kernel)⟩
theorem lw_p26 : lw_okq (⟨"FencedModulesModel", "safe", "(II)Z"⟩, 32) := ⟨⟨by decide +kernel, by decide +kernel⟩, List.mem_of_getElem? (i := 624) (by decide +kernel), List.mem_of_getElem? (i := 788) (by decide +kernel), List.mem_of_getElem? (i := 789) (by decide +kernel)⟩
theorem lw_p27 : lw_okq (⟨"FencedModulesModel", "keeps", "(IIII)Z"⟩, 32) := ⟨⟨by decide +kernel, by decide +kernel⟩, List.mem_of_getElem? (i := 624) (by decide +kernel), List.mem_of_getElem? (i := 792) (by decide +kernel), List.mem_of_getElem? (i := 793) (by decide +kernel)⟩
theorem lw_p28 : lw_okq (⟨"FencedModulesModel", "isWord", "(IIIII)Z"⟩, 32) := ⟨⟨by decide +kernel, by decide +kernel⟩, List.mem_of_getElem? (i := 624) (by decide +kernel), List.mem_of_getElem? (i := 796) (by decide +kernel), List.mem_of_getElem? (i := 797) (by decide +kernel)⟩
theorem lw_p29 : lw_okq (⟨"FencedModulesModel", "pass", "()V"⟩, 32) := ⟨⟨by decide +kernel, by decide +kernel⟩, List.mem_of_getElem? (i := 624) (by decide +kernel), List.mem_of_getElem? (i := 813) (by decide +kernel), List.mem_of_getElem? (i := 814) (by decide +kernel)⟩
theorem lw_p30 : lw_okq (⟨"FencedModulesModel", "step", "(I)V"⟩, 32) := ⟨⟨by decide +kernel, by decide +kernel⟩, List.mem_of_getElem? (i := 624) (by decide +kernel), List.mem_of_getElem? (i := 817) (by decide +kernel), List.mem_of_getElem? (i := 818) (by decide +kernel)⟩
theorem lw_p31 : lw_okq (⟨"FencedModulesModel", "note", "(IIII)V"⟩, 32) := ⟨⟨by decide +kernel, by decide +kernel⟩, List.mem_of_getElem? (i := 624) (by decide +kernel), List.mem_of_getElem? (i := 821) (by decide +kernel), List.mem_of_getElem? (i := 822) (by decide +kernel)⟩
def lw_privs_2 : List (MethodName × Nat) := [(⟨"FencedModules$Follower", "copyCell", "(II)V"⟩, 4), (⟨"FencedModules$Follower", "answerCall", "(LFencedModules$Sandbox;I)I"⟩, 4), (⟨"FencedModules$Follower", "putInt", "(II)V"⟩, 4), (⟨"FencedModules$Follower", "compute", "(IIII)V"⟩, 4), (⟨"FencedModulesModel", "can", "()Z"⟩, 32), (⟨"FencedModulesModel", "fits", "(I)Z"⟩, 32), (⟨"FencedModulesModel", "first", "(I)I"⟩, 32), (⟨"FencedModulesModel", "translate", "(II)V"⟩, 32), (⟨"FencedModulesModel", "add", "(I)V"⟩, 32), (⟨"FencedModulesModel", "target", "(I)I"⟩, 32), (⟨"FencedModulesModel", "safe", "(II)Z"⟩, 32), (⟨"FencedModulesModel", "keeps", "(IIII)Z"⟩, 32), (⟨"FencedModulesModel", "isWord", "(IIIII)Z"⟩, 32), (⟨"FencedModulesModel", "pass", "()V"⟩, 32), (⟨"FencedModulesModel", "step", "(I)V"⟩, 32), (⟨"FencedModulesModel", "note", "(IIII)V"⟩, 32)]
theorem lw_r2 : ∀ q ∈ lw_privs_2, lw_okq q := List.forall_mem_cons.mpr ⟨lw_p16, List.forall_mem_cons.mpr ⟨lw_p17, List.forall_mem_cons.mpr ⟨lw_p18, List.forall_mem_cons.mpr ⟨lw_p19, List.forall_mem_cons.mpr ⟨lw_p20, List.forall_mem_cons.mpr ⟨lw_p21, List.forall_mem_cons.mpr ⟨lw_p22, List.forall_mem_cons.mpr ⟨lw_p23, List.forall_mem_cons.mpr ⟨lw_p24, List.forall_mem_cons.mpr ⟨lw_p25, List.forall_mem_cons.mpr ⟨lw_p26, List.forall_mem_cons.mpr ⟨lw_p27, List.forall_mem_cons.mpr ⟨lw_p28, List.forall_mem_cons.mpr ⟨lw_p29, List.forall_mem_cons.mpr ⟨lw_p30, List.forall_mem_cons.mpr ⟨lw_p31, fun _ h => absurd h List.not_mem_nil⟩⟩⟩⟩⟩⟩⟩⟩⟩⟩⟩⟩⟩⟩⟩⟩
theorem lw_p32 : lw_okq (⟨"FencedModulesModel", "host", "(II)V"⟩, 32) := ⟨⟨by decide +kernel, by decide +kernel⟩, List.mem_of_getElem? (i := 624) (by decide +kernel), List.mem_of_getElem? (i := 825) (by decide +kernel), List.mem_of_getElem? (i := 826) (by decide +kernel)⟩
theorem lw_p33 : lw_okq (⟨"FencedModulesModel", "put", "(II)V"⟩, 32) := ⟨⟨by decide +kernel, by decide +kernel⟩, List.mem_of_getElem? (i := 624) (by decide +kernel), List.mem_of_getElem? (i := 829) (by decide +kernel), List.mem_of_getElem? (i := 830) (by decide +kernel)⟩
theorem lw_p34 : lw_okq (⟨"FencedModulesModel", "become", "(IIZ)V"⟩, 32) := ⟨⟨by decide +kernel, by decide +kernel⟩, List.mem_of_getElem? (i := 624) (by decide +kernel), List.mem_of_getElem? (i := 846) (by decide +kernel), List.mem_of_getElem? (i := 847) (by decide +kernel)⟩
theorem lw_p35 : lw_okq (⟨"FencedModulesModel", "along", "(I)I"⟩, 32) := ⟨⟨by decide +kernel, by decide +kernel⟩, List.mem_of_getElem? (i := 624) (by decide +kernel), List.mem_of_getElem? (i := 850) (by decide +kernel), List.mem_of_getElem? (i := 851) (by decide +kernel)⟩
theorem lw_p36 : lw_okq (⟨"FencedModulesModel", "ask", "(II)I"⟩, 32) := ⟨⟨by decide +kernel, by decide +kernel⟩, List.mem_of_getElem? (i := 624) (by decide +kernel), List.mem_of_getElem? (i := 854) (by decide +kernel), List.mem_of_getElem? (i := 855) (by decide +kernel)⟩
theorem lw_p37 : lw_okq (⟨"FencedModulesModel", "anyNamed", "(II)Z"⟩, 32) := ⟨⟨by decide +kernel, by decide +kernel⟩, List.mem_of_getElem? (i := 624) (by decide +kernel), List.mem_of_getElem? (i := 858) (by decide +kernel), List.mem_of_getElem? (i := 859) (by decide +kernel)⟩
def lw_privs_3 : List (MethodName × Nat) := [(⟨"FencedModulesModel", "host", "(II)V"⟩, 32), (⟨"FencedModulesModel", "put", "(II)V"⟩, 32), (⟨"FencedModulesModel", "become", "(IIZ)V"⟩, 32), (⟨"FencedModulesModel", "along", "(I)I"⟩, 32), (⟨"FencedModulesModel", "ask", "(II)I"⟩, 32), (⟨"FencedModulesModel", "anyNamed", "(II)Z"⟩, 32)]
theorem lw_r3 : ∀ q ∈ lw_privs_3, lw_okq q := List.forall_mem_cons.mpr ⟨lw_p32, List.forall_mem_cons.mpr ⟨lw_p33, List.forall_mem_cons.mpr ⟨lw_p34, List.forall_mem_cons.mpr ⟨lw_p35, List.forall_mem_cons.mpr ⟨lw_p36, List.forall_mem_cons.mpr ⟨lw_p37, fun _ h => absurd h List.not_mem_nil⟩⟩⟩⟩⟩⟩
def lw_privs : List (MethodName × Nat) := lw_privs_1 ++ (lw_privs_2 ++ (lw_privs_3))
def lw_tbl : List Cond := k2_sels lw_privs ++ tables_1
theorem lw_privs_ok : ∀ q ∈ lw_privs, lw_okq q := by
  show ∀ q ∈ lw_privs_1 ++ (lw_privs_2 ++ (lw_privs_3)), lw_okq q
  exact List.forall_mem_append.mpr ⟨lw_r1, List.forall_mem_append.mpr ⟨lw_r2, lw_r3⟩⟩
end
section
/-! names: classes, fields, methods (by wip/whole/gen_names.py) -/
def nm_R : Nat → String := fun k => match k with
  | 0 => "FencedModules$CallList"
  | 1 => "FencedModules$Code"
  | 2 => "FencedModules$Desk"
  | 3 => "FencedModules$Follower"
  | 4 => "FencedModules$Machine"
  | 5 => "FencedModules$Sandbox"
  | 6 => "FencedModules$Source"
  | 7 => "FencedModules"
  | 8 => "FencedModulesModel"
  | 9 => "FencedModules$Rewriter"
  | 10 => "FencedModules$Verifier"
  | 11 => "FencedModules$Words"
  | 12 => "java/util/Arrays"
  | _ => "FencedModulesLaw"
def nm_T0 : u_T := fun k => match k with
  | 0 => ("FencedModules$CallList", "numbers", "[I", true)
  | 1 => ("FencedModules$CallList", "firsts", "[I", true)
  | 2 => ("FencedModules$CallList", "seconds", "[I", true)
  | _ => ("FencedModules$CallList", "count", "I", false)
def nm_t0 : Nat → FieldType := fun k => match k with
  | 0 => .array .int
  | 1 => .array .int
  | 2 => .array .int
  | _ => .int
theorem nm_n0 : ∀ a, a < 4 → ∀ b, b < 4 → a ≠ b → (nm_T0 a).2.1 ≠ (nm_T0 b).2.1 := by decide +kernel
theorem nm_o0 : ∀ k, k < 4 → parseFieldDescriptor (nm_T0 k).2.2.1 = some (nm_t0 k) := by decide +kernel
set_option maxRecDepth 20000 in
theorem nm_i0 : ∀ w ∈ u_ws (nm_R 0) nm_T0 4, w ∈ lw_tbl := by decide +kernel
def nm_T1 : u_T := fun k => match k with
  | 0 => ("FencedModules$Code", "words", "[I", true)
  | _ => ("FencedModules$Code", "count", "I", false)
def nm_t1 : Nat → FieldType := fun k => match k with
  | 0 => .array .int
  | _ => .int
theorem nm_n1 : ∀ a, a < 2 → ∀ b, b < 2 → a ≠ b → (nm_T1 a).2.1 ≠ (nm_T1 b).2.1 := by decide +kernel
theorem nm_o1 : ∀ k, k < 2 → parseFieldDescriptor (nm_T1 k).2.2.1 = some (nm_t1 k) := by decide +kernel
set_option maxRecDepth 20000 in
theorem nm_i1 : ∀ w ∈ u_ws (nm_R 1) nm_T1 2, w ∈ lw_tbl := by decide +kernel
def nm_T2 : u_T := fun k => match k with
  | 0 => ("FencedModules$Desk", "calls", "LFencedModules$CallList;", true)
  | 1 => ("FencedModules$Desk", "allocated", "I", false)
  | _ => ("FencedModules$Desk", "taken", "I", false)
def nm_t2 : Nat → FieldType := fun k => match k with
  | 0 => .object "FencedModules$CallList"
  | 1 => .int
  | _ => .int
theorem nm_n2 : ∀ a, a < 3 → ∀ b, b < 3 → a ≠ b → (nm_T2 a).2.1 ≠ (nm_T2 b).2.1 := by decide +kernel
theorem nm_o2 : ∀ k, k < 3 → parseFieldDescriptor (nm_T2 k).2.2.1 = some (nm_t2 k) := by decide +kernel
set_option maxRecDepth 20000 in
theorem nm_i2 : ∀ w ∈ u_ws (nm_R 2) nm_T2 3, w ∈ lw_tbl := by decide +kernel
def nm_T3 : u_T := fun k => match k with
  | 0 => ("FencedModules$Follower", "desk", "LFencedModules$Desk;", true)
  | 1 => ("FencedModules$Follower", "ints", "[I", true)
  | 2 => ("FencedModules$Follower", "labels", "[I", true)
  | _ => ("FencedModules$Follower", "place", "I", false)
def nm_t3 : Nat → FieldType := fun k => match k with
  | 0 => .object "FencedModules$Desk"
  | 1 => .array .int
  | 2 => .array .int
  | _ => .int
theorem nm_n3 : ∀ a, a < 4 → ∀ b, b < 4 → a ≠ b → (nm_T3 a).2.1 ≠ (nm_T3 b).2.1 := by decide +kernel
theorem nm_o3 : ∀ k, k < 4 → parseFieldDescriptor (nm_T3 k).2.2.1 = some (nm_t3 k) := by decide +kernel
set_option maxRecDepth 20000 in
theorem nm_i3 : ∀ w ∈ u_ws (nm_R 3) nm_T3 4, w ∈ lw_tbl := by decide +kernel
def nm_T4 : u_T := fun k => match k with
  | 0 => ("FencedModules$Machine", "memory", "[I", true)
  | 1 => ("FencedModules$Machine", "sandboxes", "[LFencedModules$Sandbox;", true)
  | 2 => ("FencedModules$Machine", "turn", "I", false)
  | _ => ("FencedModules$Machine", "stepsInTurn", "I", false)
def nm_t4 : Nat → FieldType := fun k => match k with
  | 0 => .array .int
  | 1 => .array (.object "FencedModules$Sandbox")
  | 2 => .int
  | _ => .int
theorem nm_n4 : ∀ a, a < 4 → ∀ b, b < 4 → a ≠ b → (nm_T4 a).2.1 ≠ (nm_T4 b).2.1 := by decide +kernel
theorem nm_o4 : ∀ k, k < 4 → parseFieldDescriptor (nm_T4 k).2.2.1 = some (nm_t4 k) := by decide +kernel
set_option maxRecDepth 20000 in
theorem nm_i4 : ∀ w ∈ u_ws (nm_R 4) nm_T4 4, w ∈ lw_tbl := by decide +kernel
def nm_T5 : u_T := fun k => match k with
  | 0 => ("FencedModules$Sandbox", "number", "I", true)
  | 1 => ("FencedModules$Sandbox", "registers", "[I", true)
  | 2 => ("FencedModules$Sandbox", "inputs", "[I", true)
  | 3 => ("FencedModules$Sandbox", "desk", "LFencedModules$Desk;", true)
  | 4 => ("FencedModules$Sandbox", "inputCount", "I", false)
  | 5 => ("FencedModules$Sandbox", "pc", "I", false)
  | 6 => ("FencedModules$Sandbox", "state", "I", false)
  | 7 => ("FencedModules$Sandbox", "mailbox", "[I", true)
  | 8 => ("FencedModules$Sandbox", "outputs", "[I", true)
  | 9 => ("FencedModules$Sandbox", "mailCount", "I", false)
  | _ => ("FencedModules$Sandbox", "outputCount", "I", false)
def nm_t5 : Nat → FieldType := fun k => match k with
  | 0 => .int
  | 1 => .array .int
  | 2 => .array .int
  | 3 => .object "FencedModules$Desk"
  | 4 => .int
  | 5 => .int
  | 6 => .int
  | 7 => .array .int
  | 8 => .array .int
  | 9 => .int
  | _ => .int
theorem nm_n5 : ∀ a, a < 11 → ∀ b, b < 11 → a ≠ b → (nm_T5 a).2.1 ≠ (nm_T5 b).2.1 := by decide +kernel
theorem nm_o5 : ∀ k, k < 11 → parseFieldDescriptor (nm_T5 k).2.2.1 = some (nm_t5 k) := by decide +kernel
set_option maxRecDepth 20000 in
theorem nm_i5 : ∀ w ∈ u_ws (nm_R 5) nm_T5 11, w ∈ lw_tbl := by decide +kernel
def nm_T6 : u_T := fun k => match k with
  | 0 => ("FencedModules$Source", "ops", "[I", true)
  | 1 => ("FencedModules$Source", "as", "[I", true)
  | 2 => ("FencedModules$Source", "bs", "[I", true)
  | 3 => ("FencedModules$Source", "is", "[I", true)
  | 4 => ("FencedModules$Source", "places", "[I", true)
  | _ => ("FencedModules$Source", "count", "I", false)
def nm_t6 : Nat → FieldType := fun k => match k with
  | 0 => .array .int
  | 1 => .array .int
  | 2 => .array .int
  | 3 => .array .int
  | 4 => .array .int
  | _ => .int
theorem nm_n6 : ∀ a, a < 6 → ∀ b, b < 6 → a ≠ b → (nm_T6 a).2.1 ≠ (nm_T6 b).2.1 := by decide +kernel
theorem nm_o6 : ∀ k, k < 6 → parseFieldDescriptor (nm_T6 k).2.2.1 = some (nm_t6 k) := by decide +kernel
set_option maxRecDepth 20000 in
theorem nm_i6 : ∀ w ∈ u_ws (nm_R 6) nm_T6 6, w ∈ lw_tbl := by decide +kernel
def nm_T7 : u_T := fun k => match k with
  | 0 => ("FencedModules", "source", "LFencedModules$Source;", true)
  | 1 => ("FencedModules", "code", "LFencedModules$Code;", true)
  | 2 => ("FencedModules", "machine", "LFencedModules$Machine;", true)
  | _ => ("FencedModules", "follower", "LFencedModules$Follower;", true)
def nm_t7 : Nat → FieldType := fun k => match k with
  | 0 => .object "FencedModules$Source"
  | 1 => .object "FencedModules$Code"
  | 2 => .object "FencedModules$Machine"
  | _ => .object "FencedModules$Follower"
theorem nm_n7 : ∀ a, a < 4 → ∀ b, b < 4 → a ≠ b → (nm_T7 a).2.1 ≠ (nm_T7 b).2.1 := by decide +kernel
theorem nm_o7 : ∀ k, k < 4 → parseFieldDescriptor (nm_T7 k).2.2.1 = some (nm_t7 k) := by decide +kernel
set_option maxRecDepth 20000 in
theorem nm_i7 : ∀ w ∈ u_ws (nm_R 7) nm_T7 4, w ∈ lw_tbl := by decide +kernel
def nm_T8 : u_T := fun k => match k with
  | 0 => ("FencedModulesModel", "memory", "[I", true)
  | 1 => ("FencedModulesModel", "state", "[I", true)
  | 2 => ("FencedModulesModel", "register", "[I", true)
  | 3 => ("FencedModulesModel", "pc", "[I", true)
  | 4 => ("FencedModulesModel", "grown", "[I", true)
  | 5 => ("FencedModulesModel", "mail", "[I", true)
  | 6 => ("FencedModulesModel", "mails", "[I", true)
  | 7 => ("FencedModulesModel", "input", "[I", true)
  | 8 => ("FencedModulesModel", "fed", "[I", true)
  | 9 => ("FencedModulesModel", "taken", "[I", true)
  | 10 => ("FencedModulesModel", "out", "[I", true)
  | 11 => ("FencedModulesModel", "outs", "[I", true)
  | 12 => ("FencedModulesModel", "calls", "[I", true)
  | 13 => ("FencedModulesModel", "called", "[I", true)
  | 14 => ("FencedModulesModel", "turn", "I", false)
  | 15 => ("FencedModulesModel", "inTurn", "I", false)
  | 16 => ("FencedModulesModel", "lines", "I", false)
  | 17 => ("FencedModulesModel", "lineOp", "[I", true)
  | 18 => ("FencedModulesModel", "lineA", "[I", true)
  | 19 => ("FencedModulesModel", "lineB", "[I", true)
  | 20 => ("FencedModulesModel", "lineI", "[I", true)
  | 21 => ("FencedModulesModel", "isSet", "[Z", true)
  | 22 => ("FencedModulesModel", "label", "[I", true)
  | 23 => ("FencedModulesModel", "words", "I", false)
  | 24 => ("FencedModulesModel", "module", "[I", true)
  | 25 => ("FencedModulesModel", "cell", "[I", true)
  | 26 => ("FencedModulesModel", "named", "[Z", true)
  | 27 => ("FencedModulesModel", "place", "I", false)
  | 28 => ("FencedModulesModel", "followBreak", "I", false)
  | 29 => ("FencedModulesModel", "followTaken", "I", false)
  | 30 => ("FencedModulesModel", "traces", "I", false)
  | _ => ("FencedModulesModel", "traced", "[I", true)
def nm_t8 : Nat → FieldType := fun k => match k with
  | 0 => .array .int
  | 1 => .array .int
  | 2 => .array .int
  | 3 => .array .int
  | 4 => .array .int
  | 5 => .array .int
  | 6 => .array .int
  | 7 => .array .int
  | 8 => .array .int
  | 9 => .array .int
  | 10 => .array .int
  | 11 => .array .int
  | 12 => .array .int
  | 13 => .array .int
  | 14 => .int
  | 15 => .int
  | 16 => .int
  | 17 => .array .int
  | 18 => .array .int
  | 19 => .array .int
  | 20 => .array .int
  | 21 => .array .boolean
  | 22 => .array .int
  | 23 => .int
  | 24 => .array .int
  | 25 => .array .int
  | 26 => .array .boolean
  | 27 => .int
  | 28 => .int
  | 29 => .int
  | 30 => .int
  | _ => .array .int
theorem nm_n8 : ∀ a, a < 32 → ∀ b, b < 32 → a ≠ b → (nm_T8 a).2.1 ≠ (nm_T8 b).2.1 := by decide +kernel
theorem nm_o8 : ∀ k, k < 32 → parseFieldDescriptor (nm_T8 k).2.2.1 = some (nm_t8 k) := by decide +kernel
set_option maxRecDepth 20000 in
theorem nm_i8 : ∀ w ∈ u_ws (nm_R 8) nm_T8 32, w ∈ lw_tbl := by decide +kernel
abbrev nm_cl : List vw_C := [(nm_R 0, nm_T0, 4), (nm_R 1, nm_T1, 2), (nm_R 2, nm_T2, 3), (nm_R 3, nm_T3, 4), (nm_R 4, nm_T4, 4), (nm_R 5, nm_T5, 11), (nm_R 6, nm_T6, 6), (nm_R 7, nm_T7, 4), (nm_R 8, nm_T8, 32)]
def nm_ty : Nat → Nat → FieldType := fun c => match c with
  | 0 => nm_t0
  | 1 => nm_t1
  | 2 => nm_t2
  | 3 => nm_t3
  | 4 => nm_t4
  | 5 => nm_t5
  | 6 => nm_t6
  | 7 => nm_t7
  | _ => nm_t8
abbrev cm_0 : ByteArray := prog_2_method_1_code
abbrev cm_1 : ByteArray := prog_2_method_2_code
abbrev cm_2 : ByteArray := prog_2_method_3_code
abbrev cm_3 : ByteArray := prog_2_method_4_code
abbrev cm_4 : ByteArray := prog_3_method_1_code
abbrev cm_5 : ByteArray := prog_3_method_2_code
abbrev cm_6 : ByteArray := prog_3_method_3_code
abbrev cm_7 : ByteArray := prog_3_method_4_code
abbrev cm_8 : ByteArray := prog_3_method_5_code
abbrev cm_9 : ByteArray := prog_4_method_1_code
abbrev cm_10 : ByteArray := prog_4_method_2_code
abbrev cm_11 : ByteArray := prog_4_method_3_code
abbrev cm_12 : ByteArray := prog_4_method_4_code
abbrev cm_13 : ByteArray := prog_4_method_5_code
abbrev cm_14 : ByteArray := prog_4_method_6_code
abbrev cm_15 : ByteArray := prog_4_method_7_code
abbrev cm_16 : ByteArray := prog_4_method_8_code
abbrev cm_17 : ByteArray := prog_5_method_1_code
abbrev cm_18 : ByteArray := prog_5_method_2_code
abbrev cm_19 : ByteArray := prog_5_method_3_code
abbrev cm_20 : ByteArray := prog_5_method_4_code
abbrev cm_21 : ByteArray := prog_5_method_5_code
abbrev cm_22 : ByteArray := prog_5_method_6_code
abbrev cm_23 : ByteArray := prog_5_method_7_code
abbrev cm_24 : ByteArray := prog_5_method_8_code
abbrev cm_25 : ByteArray := prog_5_method_9_code
abbrev cm_26 : ByteArray := prog_5_method_10_code
abbrev cm_27 : ByteArray := prog_5_method_11_code
abbrev cm_28 : ByteArray := prog_5_method_12_code
abbrev cm_29 : ByteArray := prog_5_method_13_code
abbrev cm_30 : ByteArray := prog_6_method_1_code
abbrev cm_31 : ByteArray := prog_6_method_2_code
abbrev cm_32 : ByteArray := prog_6_method_3_code
abbrev cm_33 : ByteArray := prog_6_method_4_code
abbrev cm_34 : ByteArray := prog_6_method_5_code
abbrev cm_35 : ByteArray := prog_6_method_6_code
abbrev cm_36 : ByteArray := prog_6_method_7_code
abbrev cm_37 : ByteArray := prog_6_method_8_code
abbrev cm_38 : ByteArray := prog_6_method_9_code
abbrev cm_39 : ByteArray := prog_6_method_10_code
abbrev cm_40 : ByteArray := prog_6_method_11_code
abbrev cm_41 : ByteArray := prog_6_method_12_code
abbrev cm_42 : ByteArray := prog_6_method_13_code
abbrev cm_43 : ByteArray := prog_6_method_14_code
abbrev cm_44 : ByteArray := prog_8_method_1_code
abbrev cm_45 : ByteArray := prog_8_method_2_code
abbrev cm_46 : ByteArray := prog_8_method_3_code
abbrev cm_47 : ByteArray := prog_8_method_4_code
abbrev cm_48 : ByteArray := prog_8_method_5_code
abbrev cm_49 : ByteArray := prog_8_method_6_code
abbrev cm_50 : ByteArray := prog_8_method_7_code
abbrev cm_51 : ByteArray := prog_8_method_8_code
abbrev cm_52 : ByteArray := prog_8_method_9_code
abbrev cm_53 : ByteArray := prog_8_method_10_code
abbrev cm_54 : ByteArray := prog_8_method_11_code
abbrev cm_55 : ByteArray := prog_9_method_1_code
abbrev cm_56 : ByteArray := prog_9_method_2_code
abbrev cm_57 : ByteArray := prog_9_method_3_code
abbrev cm_58 : ByteArray := prog_9_method_4_code
abbrev cm_59 : ByteArray := prog_9_method_5_code
abbrev cm_60 : ByteArray := prog_9_method_6_code
abbrev cm_61 : ByteArray := prog_9_method_7_code
abbrev cm_62 : ByteArray := prog_9_method_8_code
abbrev cm_63 : ByteArray := prog_9_method_9_code
abbrev cm_64 : ByteArray := prog_9_method_10_code
abbrev cm_65 : ByteArray := prog_9_method_11_code
abbrev cm_66 : ByteArray := prog_9_method_12_code
abbrev cm_67 : ByteArray := prog_9_method_13_code
abbrev cm_68 : ByteArray := prog_9_method_14_code
abbrev cm_69 : ByteArray := prog_9_method_15_code
abbrev cm_70 : ByteArray := prog_9_method_16_code
abbrev cm_71 : ByteArray := prog_9_method_17_code
abbrev cm_72 : ByteArray := prog_1_method_1_code
abbrev cm_73 : ByteArray := prog_1_method_2_code
abbrev cm_74 : ByteArray := prog_1_method_3_code
abbrev cm_75 : ByteArray := prog_1_method_4_code
abbrev cm_76 : ByteArray := prog_1_method_5_code
abbrev cm_77 : ByteArray := prog_1_method_6_code
abbrev cm_78 : ByteArray := prog_1_method_7_code
abbrev cm_79 : ByteArray := prog_1_method_8_code
abbrev cm_80 : ByteArray := prog_1_method_9_code
abbrev cm_81 : ByteArray := prog_1_method_10_code
abbrev cm_82 : ByteArray := prog_1_method_11_code
abbrev cm_83 : ByteArray := prog_1_method_12_code
abbrev cm_84 : ByteArray := prog_1_method_13_code
abbrev cm_85 : ByteArray := prog_1_method_14_code
abbrev cm_86 : ByteArray := prog_1_method_15_code
abbrev cm_87 : ByteArray := prog_1_method_16_code
abbrev cm_88 : ByteArray := prog_1_method_17_code
abbrev cm_89 : ByteArray := prog_1_method_18_code
abbrev cm_90 : ByteArray := prog_1_method_19_code
abbrev cm_91 : ByteArray := prog_13_method_1_code
abbrev cm_92 : ByteArray := prog_13_method_2_code
abbrev cm_93 : ByteArray := prog_13_method_3_code
abbrev cm_94 : ByteArray := prog_13_method_4_code
abbrev cm_95 : ByteArray := prog_13_method_5_code
abbrev cm_96 : ByteArray := prog_13_method_6_code
abbrev cm_97 : ByteArray := prog_13_method_7_code
abbrev cm_98 : ByteArray := prog_13_method_8_code
abbrev cm_99 : ByteArray := prog_13_method_9_code
abbrev cm_100 : ByteArray := prog_13_method_10_code
abbrev cm_101 : ByteArray := prog_13_method_11_code
abbrev cm_102 : ByteArray := prog_13_method_12_code
abbrev cm_103 : ByteArray := prog_13_method_13_code
abbrev cm_104 : ByteArray := prog_13_method_14_code
abbrev cm_105 : ByteArray := prog_13_method_15_code
abbrev cm_106 : ByteArray := prog_13_method_16_code
abbrev cm_107 : ByteArray := prog_13_method_17_code
abbrev cm_108 : ByteArray := prog_13_method_18_code
abbrev cm_109 : ByteArray := prog_13_method_19_code
abbrev cm_110 : ByteArray := prog_13_method_20_code
abbrev cm_111 : ByteArray := prog_13_method_21_code
abbrev cm_112 : ByteArray := prog_13_method_22_code
abbrev cm_113 : ByteArray := prog_13_method_23_code
abbrev cm_114 : ByteArray := prog_13_method_24_code
abbrev cm_115 : ByteArray := prog_13_method_25_code
abbrev cm_116 : ByteArray := prog_13_method_26_code
abbrev cm_117 : ByteArray := prog_13_method_27_code
abbrev cm_118 : ByteArray := prog_13_method_28_code
abbrev cm_119 : ByteArray := prog_13_method_29_code
abbrev cm_120 : ByteArray := prog_13_method_30_code
abbrev cm_121 : ByteArray := prog_13_method_31_code
abbrev cm_122 : ByteArray := prog_13_method_32_code
abbrev cm_123 : ByteArray := prog_13_method_33_code
abbrev cm_124 : ByteArray := prog_13_method_34_code
abbrev cm_125 : ByteArray := prog_13_method_35_code
abbrev cm_126 : ByteArray := prog_13_method_36_code
abbrev cm_127 : ByteArray := prog_13_method_37_code
abbrev cm_128 : ByteArray := prog_13_method_38_code
abbrev cm_129 : ByteArray := prog_13_method_39_code
abbrev cm_130 : ByteArray := prog_13_method_40_code
abbrev cm_131 : ByteArray := prog_13_method_41_code
abbrev cm_132 : ByteArray := prog_13_method_42_code
abbrev cm_133 : ByteArray := prog_7_method_2_code
abbrev cm_134 : ByteArray := prog_7_method_3_code
abbrev cm_135 : ByteArray := prog_7_method_4_code
abbrev cm_136 : ByteArray := prog_7_method_5_code
abbrev cm_137 : ByteArray := prog_7_method_6_code
abbrev cm_138 : ByteArray := prog_7_method_7_code
abbrev cm_139 : ByteArray := prog_10_method_2_code
abbrev cm_140 : ByteArray := prog_10_method_3_code
abbrev cm_141 : ByteArray := prog_10_method_4_code
abbrev cm_142 : ByteArray := prog_10_method_5_code
abbrev cm_143 : ByteArray := prog_11_method_2_code
abbrev cm_144 : ByteArray := prog_11_method_3_code
abbrev cm_145 : ByteArray := prog_11_method_4_code
abbrev cm_146 : ByteArray := prog_11_method_5_code
abbrev cm_147 : ByteArray := prog_11_method_6_code
abbrev cm_148 : ByteArray := prog_11_method_7_code
abbrev cm_149 : ByteArray := prog_11_method_8_code
abbrev cm_150 : ByteArray := prog_14_method_103_code
end
section
theorem dm_0_0 : decode cm_0 0 = .ok (.aload_n 0, 1) := by decide +kernel
theorem dm_0_1 : decode cm_0 1 = .ok (.invokespecial 1, 3) := by decide +kernel
theorem dm_0_4 : decode cm_0 4 = .ok (.aload_n 0, 1) := by decide +kernel
theorem dm_0_5 : decode cm_0 5 = .ok (.bipush 16, 2) := by decide +kernel
theorem dm_0_7 : decode cm_0 7 = .ok (.newarray .int, 2) := by decide +kernel
theorem dm_0_9 : decode cm_0 9 = .ok (.putfield 9, 3) := by decide +kernel
theorem dm_0_12 : decode cm_0 12 = .ok (.aload_n 0, 1) := by decide +kernel
theorem dm_0_13 : decode cm_0 13 = .ok (.bipush 16, 2) := by decide +kernel
theorem dm_0_15 : decode cm_0 15 = .ok (.newarray .int, 2) := by decide +kernel
theorem dm_0_17 : decode cm_0 17 = .ok (.putfield 13, 3) := by decide +kernel
theorem dm_0_20 : decode cm_0 20 = .ok (.aload_n 0, 1) := by decide +kernel
theorem dm_0_21 : decode cm_0 21 = .ok (.bipush 16, 2) := by decide +kernel
theorem dm_0_23 : decode cm_0 23 = .ok (.newarray .int, 2) := by decide +kernel
theorem dm_0_25 : decode cm_0 25 = .ok (.putfield 16, 3) := by decide +kernel
theorem dm_0_28 : decode cm_0 28 = .ok (.return_, 1) := by decide +kernel
theorem dm_1_0 : decode cm_1 0 = .ok (.aload_n 0, 1) := by decide +kernel
theorem dm_1_1 : decode cm_1 1 = .ok (.iconst 0, 1) := by decide +kernel
theorem dm_1_2 : decode cm_1 2 = .ok (.putfield 19, 3) := by decide +kernel
theorem dm_1_5 : decode cm_1 5 = .ok (.return_, 1) := by decide +kernel
theorem dm_2_0 : decode cm_2 0 = .ok (.aload_n 0, 1) := by decide +kernel
theorem dm_2_1 : decode cm_2 1 = .ok (.getfield 19, 3) := by decide +kernel
theorem dm_2_4 : decode cm_2 4 = .ok (.ifCond .lt 42, 3) := by decide +kernel
theorem dm_2_7 : decode cm_2 7 = .ok (.aload_n 0, 1) := by decide +kernel
theorem dm_2_8 : decode cm_2 8 = .ok (.getfield 19, 3) := by decide +kernel
theorem dm_2_11 : decode cm_2 11 = .ok (.bipush 16, 2) := by decide +kernel
theorem dm_2_13 : decode cm_2 13 = .ok (.if_icmp .ge 33, 3) := by decide +kernel
theorem dm_2_16 : decode cm_2 16 = .ok (.aload_n 0, 1) := by decide +kernel
theorem dm_2_17 : decode cm_2 17 = .ok (.getfield 9, 3) := by decide +kernel
theorem dm_2_20 : decode cm_2 20 = .ok (.aload_n 0, 1) := by decide +kernel
theorem dm_2_21 : decode cm_2 21 = .ok (.getfield 19, 3) := by decide +kernel
theorem dm_2_24 : decode cm_2 24 = .ok (.iload_n 1, 1) := by decide +kernel
theorem dm_2_25 : decode cm_2 25 = .ok (.iastore, 1) := by decide +kernel
theorem dm_2_26 : decode cm_2 26 = .ok (.aload_n 0, 1) := by decide +kernel
theorem dm_2_27 : decode cm_2 27 = .ok (.getfield 13, 3) := by decide +kernel
theorem dm_2_30 : decode cm_2 30 = .ok (.aload_n 0, 1) := by decide +kernel
theorem dm_2_31 : decode cm_2 31 = .ok (.getfield 19, 3) := by decide +kernel
theorem dm_2_34 : decode cm_2 34 = .ok (.iload_n 2, 1) := by decide +kernel
theorem dm_2_35 : decode cm_2 35 = .ok (.iastore, 1) := by decide +kernel
theorem dm_2_36 : decode cm_2 36 = .ok (.aload_n 0, 1) := by decide +kernel
theorem dm_2_37 : decode cm_2 37 = .ok (.getfield 16, 3) := by decide +kernel
theorem dm_2_40 : decode cm_2 40 = .ok (.aload_n 0, 1) := by decide +kernel
theorem dm_2_41 : decode cm_2 41 = .ok (.getfield 19, 3) := by decide +kernel
theorem dm_2_44 : decode cm_2 44 = .ok (.iload_n 3, 1) := by decide +kernel
theorem dm_2_45 : decode cm_2 45 = .ok (.iastore, 1) := by decide +kernel
theorem dm_2_46 : decode cm_2 46 = .ok (.aload_n 0, 1) := by decide +kernel
theorem dm_2_47 : decode cm_2 47 = .ok (.dup, 1) := by decide +kernel
theorem dm_2_48 : decode cm_2 48 = .ok (.getfield 19, 3) := by decide +kernel
theorem dm_2_51 : decode cm_2 51 = .ok (.iconst 1, 1) := by decide +kernel
theorem dm_2_52 : decode cm_2 52 = .ok (.iadd, 1) := by decide +kernel
theorem dm_2_53 : decode cm_2 53 = .ok (.putfield 19, 3) := by decide +kernel
theorem dm_2_56 : decode cm_2 56 = .ok (.return_, 1) := by decide +kernel
theorem dm_3_0 : decode cm_3 0 = .ok (.iload_n 1, 1) := by decide +kernel
theorem dm_3_1 : decode cm_3 1 = .ok (.iconst (-1), 1) := by decide +kernel
theorem dm_3_2 : decode cm_3 2 = .ok (.if_icmp .ne 8, 3) := by decide +kernel
theorem dm_3_5 : decode cm_3 5 = .ok (.aload_n 0, 1) := by decide +kernel
theorem dm_3_6 : decode cm_3 6 = .ok (.getfield 19, 3) := by decide +kernel
theorem dm_3_9 : decode cm_3 9 = .ok (.ireturn, 1) := by decide +kernel
theorem dm_3_10 : decode cm_3 10 = .ok (.iload_n 1, 1) := by decide +kernel
theorem dm_3_11 : decode cm_3 11 = .ok (.ifCond .lt 17, 3) := by decide +kernel
theorem dm_3_14 : decode cm_3 14 = .ok (.iload_n 1, 1) := by decide +kernel
theorem dm_3_15 : decode cm_3 15 = .ok (.bipush 16, 2) := by decide +kernel
theorem dm_3_17 : decode cm_3 17 = .ok (.if_icmp .ge 11, 3) := by decide +kernel
theorem dm_3_20 : decode cm_3 20 = .ok (.iload_n 1, 1) := by decide +kernel
theorem dm_3_21 : decode cm_3 21 = .ok (.aload_n 0, 1) := by decide +kernel
theorem dm_3_22 : decode cm_3 22 = .ok (.getfield 19, 3) := by decide +kernel
theorem dm_3_25 : decode cm_3 25 = .ok (.if_icmp .lt 5, 3) := by decide +kernel
theorem dm_3_28 : decode cm_3 28 = .ok (.iconst 0, 1) := by decide +kernel
theorem dm_3_29 : decode cm_3 29 = .ok (.ireturn, 1) := by decide +kernel
theorem dm_3_30 : decode cm_3 30 = .ok (.iload_n 2, 1) := by decide +kernel
theorem dm_3_31 : decode cm_3 31 = .ok (.tableswitch 46 0 2 #[25, 32, 39], 25) := by decide +kernel
theorem dm_3_56 : decode cm_3 56 = .ok (.aload_n 0, 1) := by decide +kernel
theorem dm_3_57 : decode cm_3 57 = .ok (.getfield 9, 3) := by decide +kernel
theorem dm_3_60 : decode cm_3 60 = .ok (.iload_n 1, 1) := by decide +kernel
theorem dm_3_61 : decode cm_3 61 = .ok (.iaload, 1) := by decide +kernel
theorem dm_3_62 : decode cm_3 62 = .ok (.ireturn, 1) := by decide +kernel
theorem dm_3_63 : decode cm_3 63 = .ok (.aload_n 0, 1) := by decide +kernel
theorem dm_3_64 : decode cm_3 64 = .ok (.getfield 13, 3) := by decide +kernel
theorem dm_3_67 : decode cm_3 67 = .ok (.iload_n 1, 1) := by decide +kernel
theorem dm_3_68 : decode cm_3 68 = .ok (.iaload, 1) := by decide +kernel
theorem dm_3_69 : decode cm_3 69 = .ok (.ireturn, 1) := by decide +kernel
theorem dm_3_70 : decode cm_3 70 = .ok (.aload_n 0, 1) := by decide +kernel
theorem dm_3_71 : decode cm_3 71 = .ok (.getfield 16, 3) := by decide +kernel
theorem dm_3_74 : decode cm_3 74 = .ok (.iload_n 1, 1) := by decide +kernel
theorem dm_3_75 : decode cm_3 75 = .ok (.iaload, 1) := by decide +kernel
theorem dm_3_76 : decode cm_3 76 = .ok (.ireturn, 1) := by decide +kernel
theorem dm_3_77 : decode cm_3 77 = .ok (.iconst 0, 1) := by decide +kernel
theorem dm_3_78 : decode cm_3 78 = .ok (.ireturn, 1) := by decide +kernel
theorem dm_4_0 : decode cm_4 0 = .ok (.aload_n 0, 1) := by decide +kernel
theorem dm_4_1 : decode cm_4 1 = .ok (.invokespecial 1, 3) := by decide +kernel
theorem dm_4_4 : decode cm_4 4 = .ok (.aload_n 0, 1) := by decide +kernel
theorem dm_4_5 : decode cm_4 5 = .ok (.bipush 31, 2) := by decide +kernel
theorem dm_4_7 : decode cm_4 7 = .ok (.newarray .int, 2) := by decide +kernel
theorem dm_4_9 : decode cm_4 9 = .ok (.putfield 9, 3) := by decide +kernel
theorem dm_4_12 : decode cm_4 12 = .ok (.return_, 1) := by decide +kernel
theorem dm_5_0 : decode cm_5 0 = .ok (.aload_n 0, 1) := by decide +kernel
theorem dm_5_1 : decode cm_5 1 = .ok (.iconst 0, 1) := by decide +kernel
theorem dm_5_2 : decode cm_5 2 = .ok (.putfield 13, 3) := by decide +kernel
theorem dm_5_5 : decode cm_5 5 = .ok (.return_, 1) := by decide +kernel
theorem dm_6_0 : decode cm_6 0 = .ok (.aload_n 0, 1) := by decide +kernel
theorem dm_6_1 : decode cm_6 1 = .ok (.getfield 13, 3) := by decide +kernel
theorem dm_6_4 : decode cm_6 4 = .ok (.bipush 31, 2) := by decide +kernel
theorem dm_6_6 : decode cm_6 6 = .ok (.if_icmp .lt 5, 3) := by decide +kernel
theorem dm_6_9 : decode cm_6 9 = .ok (.iconst 0, 1) := by decide +kernel
theorem dm_6_10 : decode cm_6 10 = .ok (.ireturn, 1) := by decide +kernel
theorem dm_6_11 : decode cm_6 11 = .ok (.aload_n 0, 1) := by decide +kernel
theorem dm_6_12 : decode cm_6 12 = .ok (.getfield 9, 3) := by decide +kernel
theorem dm_6_15 : decode cm_6 15 = .ok (.aload_n 0, 1) := by decide +kernel
theorem dm_6_16 : decode cm_6 16 = .ok (.getfield 13, 3) := by decide +kernel
theorem dm_6_19 : decode cm_6 19 = .ok (.iload_n 1, 1) := by decide +kernel
theorem dm_6_20 : decode cm_6 20 = .ok (.iastore, 1) := by decide +kernel
theorem dm_6_21 : decode cm_6 21 = .ok (.aload_n 0, 1) := by decide +kernel
theorem dm_6_22 : decode cm_6 22 = .ok (.dup, 1) := by decide +kernel
theorem dm_6_23 : decode cm_6 23 = .ok (.getfield 13, 3) := by decide +kernel
theorem dm_6_26 : decode cm_6 26 = .ok (.iconst 1, 1) := by decide +kernel
theorem dm_6_27 : decode cm_6 27 = .ok (.iadd, 1) := by decide +kernel
theorem dm_6_28 : decode cm_6 28 = .ok (.putfield 13, 3) := by decide +kernel
theorem dm_6_31 : decode cm_6 31 = .ok (.iconst 1, 1) := by decide +kernel
theorem dm_6_32 : decode cm_6 32 = .ok (.ireturn, 1) := by decide +kernel
theorem dm_7_0 : decode cm_7 0 = .ok (.aload_n 0, 1) := by decide +kernel
theorem dm_7_1 : decode cm_7 1 = .ok (.getfield 13, 3) := by decide +kernel
theorem dm_7_4 : decode cm_7 4 = .ok (.ireturn, 1) := by decide +kernel
theorem dm_8_0 : decode cm_8 0 = .ok (.iload_n 1, 1) := by decide +kernel
theorem dm_8_1 : decode cm_8 1 = .ok (.ifCond .lt 20, 3) := by decide +kernel
theorem dm_8_4 : decode cm_8 4 = .ok (.iload_n 1, 1) := by decide +kernel
theorem dm_8_5 : decode cm_8 5 = .ok (.aload_n 0, 1) := by decide +kernel
theorem dm_8_6 : decode cm_8 6 = .ok (.getfield 13, 3) := by decide +kernel
theorem dm_8_9 : decode cm_8 9 = .ok (.if_icmp .ge 12, 3) := by decide +kernel
theorem dm_8_12 : decode cm_8 12 = .ok (.aload_n 0, 1) := by decide +kernel
theorem dm_8_13 : decode cm_8 13 = .ok (.getfield 9, 3) := by decide +kernel
theorem dm_8_16 : decode cm_8 16 = .ok (.iload_n 1, 1) := by decide +kernel
theorem dm_8_17 : decode cm_8 17 = .ok (.iaload, 1) := by decide +kernel
theorem dm_8_18 : decode cm_8 18 = .ok (.goto 4, 3) := by decide +kernel
theorem dm_8_21 : decode cm_8 21 = .ok (.iconst 0, 1) := by decide +kernel
theorem dm_8_22 : decode cm_8 22 = .ok (.ireturn, 1) := by decide +kernel
theorem dm_9_0 : decode cm_9 0 = .ok (.aload_n 0, 1) := by decide +kernel
theorem dm_9_1 : decode cm_9 1 = .ok (.invokespecial 1, 3) := by decide +kernel
theorem dm_9_4 : decode cm_9 4 = .ok (.aload_n 0, 1) := by decide +kernel
theorem dm_9_5 : decode cm_9 5 = .ok (.new 7, 3) := by decide +kernel
theorem dm_9_8 : decode cm_9 8 = .ok (.dup, 1) := by decide +kernel
theorem dm_9_9 : decode cm_9 9 = .ok (.invokespecial 9, 3) := by decide +kernel
theorem dm_9_12 : decode cm_9 12 = .ok (.putfield 10, 3) := by decide +kernel
theorem dm_9_15 : decode cm_9 15 = .ok (.return_, 1) := by decide +kernel
theorem dm_10_0 : decode cm_10 0 = .ok (.iload_n 0, 1) := by decide +kernel
theorem dm_10_1 : decode cm_10 1 = .ok (.ifCond .lt 13, 3) := by decide +kernel
theorem dm_10_4 : decode cm_10 4 = .ok (.iload_n 0, 1) := by decide +kernel
theorem dm_10_5 : decode cm_10 5 = .ok (.bipush 6, 2) := by decide +kernel
theorem dm_10_7 : decode cm_10 7 = .ok (.if_icmp .gt 7, 3) := by decide +kernel
theorem dm_10_10 : decode cm_10 10 = .ok (.iconst 1, 1) := by decide +kernel
theorem dm_10_11 : decode cm_10 11 = .ok (.goto 4, 3) := by decide +kernel
theorem dm_10_14 : decode cm_10 14 = .ok (.iconst 0, 1) := by decide +kernel
theorem dm_10_15 : decode cm_10 15 = .ok (.ireturn, 1) := by decide +kernel
theorem dm_11_0 : decode cm_11 0 = .ok (.iload_n 0, 1) := by decide +kernel
theorem dm_11_1 : decode cm_11 1 = .ok (.tableswitch 39 1 5 #[35, 39, 35, 37, 37], 35) := by decide +kernel
theorem dm_11_36 : decode cm_11 36 = .ok (.iconst 1, 1) := by decide +kernel
theorem dm_11_37 : decode cm_11 37 = .ok (.ireturn, 1) := by decide +kernel
theorem dm_11_38 : decode cm_11 38 = .ok (.iconst 2, 1) := by decide +kernel
theorem dm_11_39 : decode cm_11 39 = .ok (.ireturn, 1) := by decide +kernel
theorem dm_11_40 : decode cm_11 40 = .ok (.iconst 0, 1) := by decide +kernel
theorem dm_11_41 : decode cm_11 41 = .ok (.ireturn, 1) := by decide +kernel
theorem dm_12_0 : decode cm_12 0 = .ok (.iload_n 0, 1) := by decide +kernel
theorem dm_12_1 : decode cm_12 1 = .ok (.ifCond .lt 25, 3) := by decide +kernel
theorem dm_12_4 : decode cm_12 4 = .ok (.iload_n 0, 1) := by decide +kernel
theorem dm_12_5 : decode cm_12 5 = .ok (.bipush 16, 2) := by decide +kernel
theorem dm_12_7 : decode cm_12 7 = .ok (.if_icmp .gt 19, 3) := by decide +kernel
theorem dm_12_10 : decode cm_12 10 = .ok (.iload_n 1, 1) := by decide +kernel
theorem dm_12_11 : decode cm_12 11 = .ok (.ifCond .lt 15, 3) := by decide +kernel
theorem dm_12_14 : decode cm_12 14 = .ok (.iload_n 1, 1) := by decide +kernel
theorem dm_12_15 : decode cm_12 15 = .ok (.bipush 16, 2) := by decide +kernel
theorem dm_12_17 : decode cm_12 17 = .ok (.iload_n 0, 1) := by decide +kernel
theorem dm_12_18 : decode cm_12 18 = .ok (.isub, 1) := by decide +kernel
theorem dm_12_19 : decode cm_12 19 = .ok (.if_icmp .gt 7, 3) := by decide +kernel
theorem dm_12_22 : decode cm_12 22 = .ok (.iconst 1, 1) := by decide +kernel
theorem dm_12_23 : decode cm_12 23 = .ok (.goto 4, 3) := by decide +kernel
theorem dm_12_26 : decode cm_12 26 = .ok (.iconst 0, 1) := by decide +kernel
theorem dm_12_27 : decode cm_12 27 = .ok (.ireturn, 1) := by decide +kernel
theorem dm_13_0 : decode cm_13 0 = .ok (.aload_n 0, 1) := by decide +kernel
theorem dm_13_1 : decode cm_13 1 = .ok (.getfield 10, 3) := by decide +kernel
theorem dm_13_4 : decode cm_13 4 = .ok (.invokevirtual 18, 3) := by decide +kernel
theorem dm_13_7 : decode cm_13 7 = .ok (.aload_n 0, 1) := by decide +kernel
theorem dm_13_8 : decode cm_13 8 = .ok (.iconst 0, 1) := by decide +kernel
theorem dm_13_9 : decode cm_13 9 = .ok (.putfield 21, 3) := by decide +kernel
theorem dm_13_12 : decode cm_13 12 = .ok (.aload_n 0, 1) := by decide +kernel
theorem dm_13_13 : decode cm_13 13 = .ok (.iconst 0, 1) := by decide +kernel
theorem dm_13_14 : decode cm_13 14 = .ok (.putfield 25, 3) := by decide +kernel
theorem dm_13_17 : decode cm_13 17 = .ok (.return_, 1) := by decide +kernel
theorem dm_14_0 : decode cm_14 0 = .ok (.iload_n 1, 1) := by decide +kernel
theorem dm_14_1 : decode cm_14 1 = .ok (.invokestatic 28, 3) := by decide +kernel
theorem dm_14_4 : decode cm_14 4 = .ok (.istore 4, 2) := by decide +kernel
theorem dm_14_6 : decode cm_14 6 = .ok (.aload_n 0, 1) := by decide +kernel
theorem dm_14_7 : decode cm_14 7 = .ok (.getfield 10, 3) := by decide +kernel
theorem dm_14_10 : decode cm_14 10 = .ok (.iload_n 1, 1) := by decide +kernel
theorem dm_14_11 : decode cm_14 11 = .ok (.iload 4, 2) := by decide +kernel
theorem dm_14_13 : decode cm_14 13 = .ok (.iconst 1, 1) := by decide +kernel
theorem dm_14_14 : decode cm_14 14 = .ok (.if_icmp .lt 7, 3) := by decide +kernel
theorem dm_14_17 : decode cm_14 17 = .ok (.iload_n 2, 1) := by decide +kernel
theorem dm_14_18 : decode cm_14 18 = .ok (.goto 4, 3) := by decide +kernel
theorem dm_14_21 : decode cm_14 21 = .ok (.iconst 0, 1) := by decide +kernel
theorem dm_14_22 : decode cm_14 22 = .ok (.iload 4, 2) := by decide +kernel
theorem dm_14_24 : decode cm_14 24 = .ok (.iconst 2, 1) := by decide +kernel
theorem dm_14_25 : decode cm_14 25 = .ok (.if_icmp .lt 7, 3) := by decide +kernel
theorem dm_14_28 : decode cm_14 28 = .ok (.iload_n 3, 1) := by decide +kernel
theorem dm_14_29 : decode cm_14 29 = .ok (.goto 4, 3) := by decide +kernel
theorem dm_14_32 : decode cm_14 32 = .ok (.iconst 0, 1) := by decide +kernel
theorem dm_14_33 : decode cm_14 33 = .ok (.invokevirtual 32, 3) := by decide +kernel
theorem dm_14_36 : decode cm_14 36 = .ok (.return_, 1) := by decide +kernel
theorem dm_15_0 : decode cm_15 0 = .ok (.iload_n 1, 1) := by decide +kernel
theorem dm_15_1 : decode cm_15 1 = .ok (.iconst 1, 1) := by decide +kernel
theorem dm_15_2 : decode cm_15 2 = .ok (.if_icmp .lt 14, 3) := by decide +kernel
theorem dm_15_5 : decode cm_15 5 = .ok (.iload_n 1, 1) := by decide +kernel
theorem dm_15_6 : decode cm_15 6 = .ok (.bipush 16, 2) := by decide +kernel
theorem dm_15_8 : decode cm_15 8 = .ok (.aload_n 0, 1) := by decide +kernel
theorem dm_15_9 : decode cm_15 9 = .ok (.getfield 21, 3) := by decide +kernel
theorem dm_15_12 : decode cm_15 12 = .ok (.isub, 1) := by decide +kernel
theorem dm_15_13 : decode cm_15 13 = .ok (.if_icmp .le 5, 3) := by decide +kernel
theorem dm_15_16 : decode cm_15 16 = .ok (.iconst (-1), 1) := by decide +kernel
theorem dm_15_17 : decode cm_15 17 = .ok (.ireturn, 1) := by decide +kernel
theorem dm_15_18 : decode cm_15 18 = .ok (.aload_n 0, 1) := by decide +kernel
theorem dm_15_19 : decode cm_15 19 = .ok (.getfield 21, 3) := by decide +kernel
theorem dm_15_22 : decode cm_15 22 = .ok (.istore_n 2, 1) := by decide +kernel
theorem dm_15_23 : decode cm_15 23 = .ok (.aload_n 0, 1) := by decide +kernel
theorem dm_15_24 : decode cm_15 24 = .ok (.dup, 1) := by decide +kernel
theorem dm_15_25 : decode cm_15 25 = .ok (.getfield 21, 3) := by decide +kernel
theorem dm_15_28 : decode cm_15 28 = .ok (.iload_n 1, 1) := by decide +kernel
theorem dm_15_29 : decode cm_15 29 = .ok (.iadd, 1) := by decide +kernel
theorem dm_15_30 : decode cm_15 30 = .ok (.putfield 21, 3) := by decide +kernel
theorem dm_15_33 : decode cm_15 33 = .ok (.iload_n 2, 1) := by decide +kernel
theorem dm_15_34 : decode cm_15 34 = .ok (.ireturn, 1) := by decide +kernel
theorem dm_16_0 : decode cm_16 0 = .ok (.aload_n 0, 1) := by decide +kernel
theorem dm_16_1 : decode cm_16 1 = .ok (.getfield 25, 3) := by decide +kernel
theorem dm_16_4 : decode cm_16 4 = .ok (.ifCond .lt 14, 3) := by decide +kernel
theorem dm_16_7 : decode cm_16 7 = .ok (.aload_n 0, 1) := by decide +kernel
theorem dm_16_8 : decode cm_16 8 = .ok (.getfield 25, 3) := by decide +kernel
theorem dm_16_11 : decode cm_16 11 = .ok (.aload_n 1, 1) := by decide +kernel
theorem dm_16_12 : decode cm_16 12 = .ok (.getfield 36, 3) := by decide +kernel
theorem dm_16_15 : decode cm_16 15 = .ok (.if_icmp .lt 5, 3) := by decide +kernel
theorem dm_16_18 : decode cm_16 18 = .ok (.iconst (-1), 1) := by decide +kernel
theorem dm_16_19 : decode cm_16 19 = .ok (.ireturn, 1) := by decide +kernel
theorem dm_16_20 : decode cm_16 20 = .ok (.aload_n 1, 1) := by decide +kernel
theorem dm_16_21 : decode cm_16 21 = .ok (.getfield 39, 3) := by decide +kernel
theorem dm_16_24 : decode cm_16 24 = .ok (.aload_n 0, 1) := by decide +kernel
theorem dm_16_25 : decode cm_16 25 = .ok (.getfield 25, 3) := by decide +kernel
theorem dm_16_28 : decode cm_16 28 = .ok (.iaload, 1) := by decide +kernel
theorem dm_16_29 : decode cm_16 29 = .ok (.istore_n 2, 1) := by decide +kernel
theorem dm_16_30 : decode cm_16 30 = .ok (.aload_n 0, 1) := by decide +kernel
theorem dm_16_31 : decode cm_16 31 = .ok (.dup, 1) := by decide +kernel
theorem dm_16_32 : decode cm_16 32 = .ok (.getfield 25, 3) := by decide +kernel
theorem dm_16_35 : decode cm_16 35 = .ok (.iconst 1, 1) := by decide +kernel
theorem dm_16_36 : decode cm_16 36 = .ok (.iadd, 1) := by decide +kernel
theorem dm_16_37 : decode cm_16 37 = .ok (.putfield 25, 3) := by decide +kernel
theorem dm_16_40 : decode cm_16 40 = .ok (.iload_n 2, 1) := by decide +kernel
theorem dm_16_41 : decode cm_16 41 = .ok (.ireturn, 1) := by decide +kernel
theorem dm_17_0 : decode cm_17 0 = .ok (.aload_n 0, 1) := by decide +kernel
theorem dm_17_1 : decode cm_17 1 = .ok (.invokespecial 7, 3) := by decide +kernel
theorem dm_17_4 : decode cm_17 4 = .ok (.aload_n 0, 1) := by decide +kernel
theorem dm_17_5 : decode cm_17 5 = .ok (.new 13, 3) := by decide +kernel
theorem dm_17_8 : decode cm_17 8 = .ok (.dup, 1) := by decide +kernel
theorem dm_17_9 : decode cm_17 9 = .ok (.invokespecial 15, 3) := by decide +kernel
theorem dm_17_12 : decode cm_17 12 = .ok (.putfield 16, 3) := by decide +kernel
theorem dm_17_15 : decode cm_17 15 = .ok (.aload_n 0, 1) := by decide +kernel
theorem dm_17_16 : decode cm_17 16 = .ok (.bipush 21, 2) := by decide +kernel
theorem dm_17_18 : decode cm_17 18 = .ok (.newarray .int, 2) := by decide +kernel
theorem dm_17_20 : decode cm_17 20 = .ok (.putfield 20, 3) := by decide +kernel
theorem dm_17_23 : decode cm_17 23 = .ok (.aload_n 0, 1) := by decide +kernel
theorem dm_17_24 : decode cm_17 24 = .ok (.bipush 21, 2) := by decide +kernel
theorem dm_17_26 : decode cm_17 26 = .ok (.newarray .int, 2) := by decide +kernel
theorem dm_17_28 : decode cm_17 28 = .ok (.putfield 24, 3) := by decide +kernel
theorem dm_17_31 : decode cm_17 31 = .ok (.return_, 1) := by decide +kernel
theorem dm_18_0 : decode cm_18 0 = .ok (.aload_n 0, 1) := by decide +kernel
theorem dm_18_1 : decode cm_18 1 = .ok (.getfield 16, 3) := by decide +kernel
theorem dm_18_4 : decode cm_18 4 = .ok (.invokevirtual 27, 3) := by decide +kernel
theorem dm_18_7 : decode cm_18 7 = .ok (.aload_n 0, 1) := by decide +kernel
theorem dm_18_8 : decode cm_18 8 = .ok (.getfield 20, 3) := by decide +kernel
theorem dm_18_11 : decode cm_18 11 = .ok (.iconst 0, 1) := by decide +kernel
theorem dm_18_12 : decode cm_18 12 = .ok (.invokestatic 30, 3) := by decide +kernel
theorem dm_18_15 : decode cm_18 15 = .ok (.aload_n 0, 1) := by decide +kernel
theorem dm_18_16 : decode cm_18 16 = .ok (.getfield 24, 3) := by decide +kernel
theorem dm_18_19 : decode cm_18 19 = .ok (.iconst (-1), 1) := by decide +kernel
theorem dm_18_20 : decode cm_18 20 = .ok (.invokestatic 30, 3) := by decide +kernel
theorem dm_18_23 : decode cm_18 23 = .ok (.aload_n 0, 1) := by decide +kernel
theorem dm_18_24 : decode cm_18 24 = .ok (.iconst 0, 1) := by decide +kernel
theorem dm_18_25 : decode cm_18 25 = .ok (.putfield 36, 3) := by decide +kernel
theorem dm_18_28 : decode cm_18 28 = .ok (.iconst 0, 1) := by decide +kernel
theorem dm_18_29 : decode cm_18 29 = .ok (.istore 4, 2) := by decide +kernel
theorem dm_18_31 : decode cm_18 31 = .ok (.iconst 0, 1) := by decide +kernel
theorem dm_18_32 : decode cm_18 32 = .ok (.istore 5, 2) := by decide +kernel
theorem dm_18_34 : decode cm_18 34 = .ok (.iload 5, 2) := by decide +kernel
theorem dm_18_36 : decode cm_18 36 = .ok (.iload_n 3, 1) := by decide +kernel
theorem dm_18_37 : decode cm_18 37 = .ok (.if_icmp .ge 34, 3) := by decide +kernel
theorem dm_18_40 : decode cm_18 40 = .ok (.iload 4, 2) := by decide +kernel
theorem dm_18_42 : decode cm_18 42 = .ok (.ifCond .ne 29, 3) := by decide +kernel
theorem dm_18_45 : decode cm_18 45 = .ok (.aload_n 0, 1) := by decide +kernel
theorem dm_18_46 : decode cm_18 46 = .ok (.aload_n 1, 1) := by decide +kernel
theorem dm_18_47 : decode cm_18 47 = .ok (.invokevirtual 40, 3) := by decide +kernel
theorem dm_18_50 : decode cm_18 50 = .ok (.istore 4, 2) := by decide +kernel
theorem dm_18_52 : decode cm_18 52 = .ok (.iload 4, 2) := by decide +kernel
theorem dm_18_54 : decode cm_18 54 = .ok (.ifCond .ne 11, 3) := by decide +kernel
theorem dm_18_57 : decode cm_18 57 = .ok (.aload_n 0, 1) := by decide +kernel
theorem dm_18_58 : decode cm_18 58 = .ok (.aload_n 1, 1) := by decide +kernel
theorem dm_18_59 : decode cm_18 59 = .ok (.aload_n 2, 1) := by decide +kernel
theorem dm_18_60 : decode cm_18 60 = .ok (.invokevirtual 44, 3) := by decide +kernel
theorem dm_18_63 : decode cm_18 63 = .ok (.istore 4, 2) := by decide +kernel
theorem dm_18_65 : decode cm_18 65 = .ok (.iinc 5 1, 3) := by decide +kernel
theorem dm_18_68 : decode cm_18 68 = .ok (.goto (-34), 3) := by decide +kernel
theorem dm_18_71 : decode cm_18 71 = .ok (.iload 4, 2) := by decide +kernel
theorem dm_18_73 : decode cm_18 73 = .ok (.ireturn, 1) := by decide +kernel
theorem dm_19_0 : decode cm_19 0 = .ok (.aload_n 1, 1) := by decide +kernel
theorem dm_19_1 : decode cm_19 1 = .ok (.aload_n 0, 1) := by decide +kernel
theorem dm_19_2 : decode cm_19 2 = .ok (.getfield 36, 3) := by decide +kernel
theorem dm_19_5 : decode cm_19 5 = .ok (.invokevirtual 48, 3) := by decide +kernel
theorem dm_19_8 : decode cm_19 8 = .ok (.istore_n 2, 1) := by decide +kernel
theorem dm_19_9 : decode cm_19 9 = .ok (.aload_n 1, 1) := by decide +kernel
theorem dm_19_10 : decode cm_19 10 = .ok (.aload_n 0, 1) := by decide +kernel
theorem dm_19_11 : decode cm_19 11 = .ok (.getfield 36, 3) := by decide +kernel
theorem dm_19_14 : decode cm_19 14 = .ok (.invokevirtual 52, 3) := by decide +kernel
theorem dm_19_17 : decode cm_19 17 = .ok (.istore_n 3, 1) := by decide +kernel
theorem dm_19_18 : decode cm_19 18 = .ok (.aload_n 1, 1) := by decide +kernel
theorem dm_19_19 : decode cm_19 19 = .ok (.aload_n 0, 1) := by decide +kernel
theorem dm_19_20 : decode cm_19 20 = .ok (.getfield 36, 3) := by decide +kernel
theorem dm_19_23 : decode cm_19 23 = .ok (.invokevirtual 55, 3) := by decide +kernel
theorem dm_19_26 : decode cm_19 26 = .ok (.istore 4, 2) := by decide +kernel
theorem dm_19_28 : decode cm_19 28 = .ok (.aload_n 1, 1) := by decide +kernel
theorem dm_19_29 : decode cm_19 29 = .ok (.aload_n 0, 1) := by decide +kernel
theorem dm_19_30 : decode cm_19 30 = .ok (.getfield 36, 3) := by decide +kernel
theorem dm_19_33 : decode cm_19 33 = .ok (.invokevirtual 58, 3) := by decide +kernel
theorem dm_19_36 : decode cm_19 36 = .ok (.istore 5, 2) := by decide +kernel
theorem dm_19_38 : decode cm_19 38 = .ok (.iload_n 2, 1) := by decide +kernel
theorem dm_19_39 : decode cm_19 39 = .ok (.ifCond .ne 5, 3) := by decide +kernel
theorem dm_19_42 : decode cm_19 42 = .ok (.iconst 2, 1) := by decide +kernel
theorem dm_19_43 : decode cm_19 43 = .ok (.ireturn, 1) := by decide +kernel
theorem dm_19_44 : decode cm_19 44 = .ok (.aload_n 0, 1) := by decide +kernel
theorem dm_19_45 : decode cm_19 45 = .ok (.iload_n 2, 1) := by decide +kernel
theorem dm_19_46 : decode cm_19 46 = .ok (.iload_n 3, 1) := by decide +kernel
theorem dm_19_47 : decode cm_19 47 = .ok (.iload 4, 2) := by decide +kernel
theorem dm_19_49 : decode cm_19 49 = .ok (.iload 5, 2) := by decide +kernel
theorem dm_19_51 : decode cm_19 51 = .ok (.invokevirtual 61, 3) := by decide +kernel
theorem dm_19_54 : decode cm_19 54 = .ok (.ifCond .eq 5, 3) := by decide +kernel
theorem dm_19_57 : decode cm_19 57 = .ok (.iconst 3, 1) := by decide +kernel
theorem dm_19_58 : decode cm_19 58 = .ok (.ireturn, 1) := by decide +kernel
theorem dm_19_59 : decode cm_19 59 = .ok (.iload_n 2, 1) := by decide +kernel
theorem dm_19_60 : decode cm_19 60 = .ok (.bipush 13, 2) := by decide +kernel
theorem dm_19_62 : decode cm_19 62 = .ok (.if_icmp .ne 13, 3) := by decide +kernel
theorem dm_19_65 : decode cm_19 65 = .ok (.aload_n 0, 1) := by decide +kernel
theorem dm_19_66 : decode cm_19 66 = .ok (.iload_n 3, 1) := by decide +kernel
theorem dm_19_67 : decode cm_19 67 = .ok (.invokevirtual 67, 3) := by decide +kernel
theorem dm_19_70 : decode cm_19 70 = .ok (.ifCond .ne 5, 3) := by decide +kernel
theorem dm_19_73 : decode cm_19 73 = .ok (.iconst 4, 1) := by decide +kernel
theorem dm_19_74 : decode cm_19 74 = .ok (.ireturn, 1) := by decide +kernel
theorem dm_19_75 : decode cm_19 75 = .ok (.iload_n 2, 1) := by decide +kernel
theorem dm_19_76 : decode cm_19 76 = .ok (.bipush 8, 2) := by decide +kernel
theorem dm_19_78 : decode cm_19 78 = .ok (.if_icmp .eq 9, 3) := by decide +kernel
theorem dm_19_81 : decode cm_19 81 = .ok (.iload_n 2, 1) := by decide +kernel
theorem dm_19_82 : decode cm_19 82 = .ok (.bipush 9, 2) := by decide +kernel
theorem dm_19_84 : decode cm_19 84 = .ok (.if_icmp .ne 21, 3) := by decide +kernel
theorem dm_19_87 : decode cm_19 87 = .ok (.aload_n 0, 1) := by decide +kernel
theorem dm_19_88 : decode cm_19 88 = .ok (.getfield 20, 3) := by decide +kernel
theorem dm_19_91 : decode cm_19 91 = .ok (.iload 4, 2) := by decide +kernel
theorem dm_19_93 : decode cm_19 93 = .ok (.iaload, 1) := by decide +kernel
theorem dm_19_94 : decode cm_19 94 = .ok (.iload 5, 2) := by decide +kernel
theorem dm_19_96 : decode cm_19 96 = .ok (.iadd, 1) := by decide +kernel
theorem dm_19_97 : decode cm_19 97 = .ok (.invokestatic 71, 3) := by decide +kernel
theorem dm_19_100 : decode cm_19 100 = .ok (.ifCond .ne 5, 3) := by decide +kernel
theorem dm_19_103 : decode cm_19 103 = .ok (.iconst 5, 1) := by decide +kernel
theorem dm_19_104 : decode cm_19 104 = .ok (.ireturn, 1) := by decide +kernel
theorem dm_19_105 : decode cm_19 105 = .ok (.iconst 0, 1) := by decide +kernel
theorem dm_19_106 : decode cm_19 106 = .ok (.ireturn, 1) := by decide +kernel
theorem dm_20_0 : decode cm_20 0 = .ok (.iload_n 1, 1) := by decide +kernel
theorem dm_20_1 : decode cm_20 1 = .ok (.tableswitch 121 2 14 #[67, 86, 86, 86, 108, 108, 108, 108, 86, 86, 121, 121, 114], 67) := by decide +kernel
theorem dm_20_68 : decode cm_20 68 = .ok (.aload_n 0, 1) := by decide +kernel
theorem dm_20_69 : decode cm_20 69 = .ok (.iload_n 3, 1) := by decide +kernel
theorem dm_20_70 : decode cm_20 70 = .ok (.invokevirtual 67, 3) := by decide +kernel
theorem dm_20_73 : decode cm_20 73 = .ok (.ifCond .eq 12, 3) := by decide +kernel
theorem dm_20_76 : decode cm_20 76 = .ok (.iload 4, 2) := by decide +kernel
theorem dm_20_78 : decode cm_20 78 = .ok (.ifCond .eq 7, 3) := by decide +kernel
theorem dm_20_81 : decode cm_20 81 = .ok (.iconst 1, 1) := by decide +kernel
theorem dm_20_82 : decode cm_20 82 = .ok (.goto 4, 3) := by decide +kernel
theorem dm_20_85 : decode cm_20 85 = .ok (.iconst 0, 1) := by decide +kernel
theorem dm_20_86 : decode cm_20 86 = .ok (.ireturn, 1) := by decide +kernel
theorem dm_20_87 : decode cm_20 87 = .ok (.aload_n 0, 1) := by decide +kernel
theorem dm_20_88 : decode cm_20 88 = .ok (.iload_n 2, 1) := by decide +kernel
theorem dm_20_89 : decode cm_20 89 = .ok (.invokevirtual 67, 3) := by decide +kernel
theorem dm_20_92 : decode cm_20 92 = .ok (.ifCond .ne 11, 3) := by decide +kernel
theorem dm_20_95 : decode cm_20 95 = .ok (.aload_n 0, 1) := by decide +kernel
theorem dm_20_96 : decode cm_20 96 = .ok (.iload_n 3, 1) := by decide +kernel
theorem dm_20_97 : decode cm_20 97 = .ok (.invokevirtual 67, 3) := by decide +kernel
theorem dm_20_100 : decode cm_20 100 = .ok (.ifCond .eq 7, 3) := by decide +kernel
theorem dm_20_103 : decode cm_20 103 = .ok (.iconst 1, 1) := by decide +kernel
theorem dm_20_104 : decode cm_20 104 = .ok (.goto 4, 3) := by decide +kernel
theorem dm_20_107 : decode cm_20 107 = .ok (.iconst 0, 1) := by decide +kernel
theorem dm_20_108 : decode cm_20 108 = .ok (.ireturn, 1) := by decide +kernel
theorem dm_20_109 : decode cm_20 109 = .ok (.aload_n 0, 1) := by decide +kernel
theorem dm_20_110 : decode cm_20 110 = .ok (.iload_n 3, 1) := by decide +kernel
theorem dm_20_111 : decode cm_20 111 = .ok (.invokevirtual 67, 3) := by decide +kernel
theorem dm_20_114 : decode cm_20 114 = .ok (.ireturn, 1) := by decide +kernel
theorem dm_20_115 : decode cm_20 115 = .ok (.aload_n 0, 1) := by decide +kernel
theorem dm_20_116 : decode cm_20 116 = .ok (.iload 4, 2) := by decide +kernel
theorem dm_20_118 : decode cm_20 118 = .ok (.invokevirtual 74, 3) := by decide +kernel
theorem dm_20_121 : decode cm_20 121 = .ok (.ireturn, 1) := by decide +kernel
theorem dm_20_122 : decode cm_20 122 = .ok (.iconst 0, 1) := by decide +kernel
theorem dm_20_123 : decode cm_20 123 = .ok (.ireturn, 1) := by decide +kernel
theorem dm_21_0 : decode cm_21 0 = .ok (.iload_n 1, 1) := by decide +kernel
theorem dm_21_1 : decode cm_21 1 = .ok (.invokestatic 77, 3) := by decide +kernel
theorem dm_21_4 : decode cm_21 4 = .ok (.istore_n 2, 1) := by decide +kernel
theorem dm_21_5 : decode cm_21 5 = .ok (.iload_n 2, 1) := by decide +kernel
theorem dm_21_6 : decode cm_21 6 = .ok (.iconst 1, 1) := by decide +kernel
theorem dm_21_7 : decode cm_21 7 = .ok (.if_icmp .lt 11, 3) := by decide +kernel
theorem dm_21_10 : decode cm_21 10 = .ok (.aload_n 0, 1) := by decide +kernel
theorem dm_21_11 : decode cm_21 11 = .ok (.iconst 1, 1) := by decide +kernel
theorem dm_21_12 : decode cm_21 12 = .ok (.invokevirtual 67, 3) := by decide +kernel
theorem dm_21_15 : decode cm_21 15 = .ok (.ifCond .ne 16, 3) := by decide +kernel
theorem dm_21_18 : decode cm_21 18 = .ok (.iload_n 2, 1) := by decide +kernel
theorem dm_21_19 : decode cm_21 19 = .ok (.iconst 2, 1) := by decide +kernel
theorem dm_21_20 : decode cm_21 20 = .ok (.if_icmp .lt 13, 3) := by decide +kernel
theorem dm_21_23 : decode cm_21 23 = .ok (.aload_n 0, 1) := by decide +kernel
theorem dm_21_24 : decode cm_21 24 = .ok (.iconst 2, 1) := by decide +kernel
theorem dm_21_25 : decode cm_21 25 = .ok (.invokevirtual 67, 3) := by decide +kernel
theorem dm_21_28 : decode cm_21 28 = .ok (.ifCond .eq 5, 3) := by decide +kernel
theorem dm_21_31 : decode cm_21 31 = .ok (.iconst 1, 1) := by decide +kernel
theorem dm_21_32 : decode cm_21 32 = .ok (.ireturn, 1) := by decide +kernel
theorem dm_21_33 : decode cm_21 33 = .ok (.iload_n 1, 1) := by decide +kernel
theorem dm_21_34 : decode cm_21 34 = .ok (.iconst 4, 1) := by decide +kernel
theorem dm_21_35 : decode cm_21 35 = .ok (.if_icmp .ne 26, 3) := by decide +kernel
theorem dm_21_38 : decode cm_21 38 = .ok (.aload_n 0, 1) := by decide +kernel
theorem dm_21_39 : decode cm_21 39 = .ok (.aload_n 0, 1) := by decide +kernel
theorem dm_21_40 : decode cm_21 40 = .ok (.getfield 20, 3) := by decide +kernel
theorem dm_21_43 : decode cm_21 43 = .ok (.iconst 1, 1) := by decide +kernel
theorem dm_21_44 : decode cm_21 44 = .ok (.iaload, 1) := by decide +kernel
theorem dm_21_45 : decode cm_21 45 = .ok (.aload_n 0, 1) := by decide +kernel
theorem dm_21_46 : decode cm_21 46 = .ok (.getfield 20, 3) := by decide +kernel
theorem dm_21_49 : decode cm_21 49 = .ok (.iconst 2, 1) := by decide +kernel
theorem dm_21_50 : decode cm_21 50 = .ok (.iaload, 1) := by decide +kernel
theorem dm_21_51 : decode cm_21 51 = .ok (.invokevirtual 80, 3) := by decide +kernel
theorem dm_21_54 : decode cm_21 54 = .ok (.ifCond .eq 7, 3) := by decide +kernel
theorem dm_21_57 : decode cm_21 57 = .ok (.iconst 1, 1) := by decide +kernel
theorem dm_21_58 : decode cm_21 58 = .ok (.goto 4, 3) := by decide +kernel
theorem dm_21_61 : decode cm_21 61 = .ok (.iconst 0, 1) := by decide +kernel
theorem dm_21_62 : decode cm_21 62 = .ok (.ireturn, 1) := by decide +kernel
theorem dm_22_0 : decode cm_22 0 = .ok (.iload_n 1, 1) := by decide +kernel
theorem dm_22_1 : decode cm_22 1 = .ok (.iload_n 2, 1) := by decide +kernel
theorem dm_22_2 : decode cm_22 2 = .ok (.invokestatic 84, 3) := by decide +kernel
theorem dm_22_5 : decode cm_22 5 = .ok (.ifCond .ne 5, 3) := by decide +kernel
theorem dm_22_8 : decode cm_22 8 = .ok (.iconst 0, 1) := by decide +kernel
theorem dm_22_9 : decode cm_22 9 = .ok (.ireturn, 1) := by decide +kernel
theorem dm_22_10 : decode cm_22 10 = .ok (.iconst 0, 1) := by decide +kernel
theorem dm_22_11 : decode cm_22 11 = .ok (.istore_n 3, 1) := by decide +kernel
theorem dm_22_12 : decode cm_22 12 = .ok (.iload_n 3, 1) := by decide +kernel
theorem dm_22_13 : decode cm_22 13 = .ok (.iload_n 2, 1) := by decide +kernel
theorem dm_22_14 : decode cm_22 14 = .ok (.if_icmp .ge 23, 3) := by decide +kernel
theorem dm_22_17 : decode cm_22 17 = .ok (.aload_n 0, 1) := by decide +kernel
theorem dm_22_18 : decode cm_22 18 = .ok (.iconst 5, 1) := by decide +kernel
theorem dm_22_19 : decode cm_22 19 = .ok (.iload_n 1, 1) := by decide +kernel
theorem dm_22_20 : decode cm_22 20 = .ok (.iadd, 1) := by decide +kernel
theorem dm_22_21 : decode cm_22 21 = .ok (.iload_n 3, 1) := by decide +kernel
theorem dm_22_22 : decode cm_22 22 = .ok (.iadd, 1) := by decide +kernel
theorem dm_22_23 : decode cm_22 23 = .ok (.invokevirtual 67, 3) := by decide +kernel
theorem dm_22_26 : decode cm_22 26 = .ok (.ifCond .eq 5, 3) := by decide +kernel
theorem dm_22_29 : decode cm_22 29 = .ok (.iconst 1, 1) := by decide +kernel
theorem dm_22_30 : decode cm_22 30 = .ok (.ireturn, 1) := by decide +kernel
theorem dm_22_31 : decode cm_22 31 = .ok (.iinc 3 1, 3) := by decide +kernel
theorem dm_22_34 : decode cm_22 34 = .ok (.goto (-22), 3) := by decide +kernel
theorem dm_22_37 : decode cm_22 37 = .ok (.iconst 0, 1) := by decide +kernel
theorem dm_22_38 : decode cm_22 38 = .ok (.ireturn, 1) := by decide +kernel
theorem dm_23_0 : decode cm_23 0 = .ok (.aload_n 0, 1) := by decide +kernel
theorem dm_23_1 : decode cm_23 1 = .ok (.getfield 24, 3) := by decide +kernel
theorem dm_23_4 : decode cm_23 4 = .ok (.iload_n 1, 1) := by decide +kernel
theorem dm_23_5 : decode cm_23 5 = .ok (.iaload, 1) := by decide +kernel
theorem dm_23_6 : decode cm_23 6 = .ok (.iconst (-1), 1) := by decide +kernel
theorem dm_23_7 : decode cm_23 7 = .ok (.if_icmp .eq 7, 3) := by decide +kernel
theorem dm_23_10 : decode cm_23 10 = .ok (.iconst 1, 1) := by decide +kernel
theorem dm_23_11 : decode cm_23 11 = .ok (.goto 4, 3) := by decide +kernel
theorem dm_23_14 : decode cm_23 14 = .ok (.iconst 0, 1) := by decide +kernel
theorem dm_23_15 : decode cm_23 15 = .ok (.ireturn, 1) := by decide +kernel
theorem dm_24_0 : decode cm_24 0 = .ok (.iload_n 0, 1) := by decide +kernel
theorem dm_24_1 : decode cm_24 1 = .ok (.ifCond .lt 13, 3) := by decide +kernel
theorem dm_24_4 : decode cm_24 4 = .ok (.iload_n 0, 1) := by decide +kernel
theorem dm_24_5 : decode cm_24 5 = .ok (.bipush 16, 2) := by decide +kernel
theorem dm_24_7 : decode cm_24 7 = .ok (.if_icmp .ge 7, 3) := by decide +kernel
theorem dm_24_10 : decode cm_24 10 = .ok (.iconst 1, 1) := by decide +kernel
theorem dm_24_11 : decode cm_24 11 = .ok (.goto 4, 3) := by decide +kernel
theorem dm_24_14 : decode cm_24 14 = .ok (.iconst 0, 1) := by decide +kernel
theorem dm_24_15 : decode cm_24 15 = .ok (.ireturn, 1) := by decide +kernel
theorem dm_25_0 : decode cm_25 0 = .ok (.aload_n 1, 1) := by decide +kernel
theorem dm_25_1 : decode cm_25 1 = .ok (.aload_n 0, 1) := by decide +kernel
theorem dm_25_2 : decode cm_25 2 = .ok (.getfield 36, 3) := by decide +kernel
theorem dm_25_5 : decode cm_25 5 = .ok (.invokevirtual 48, 3) := by decide +kernel
theorem dm_25_8 : decode cm_25 8 = .ok (.istore_n 3, 1) := by decide +kernel
theorem dm_25_9 : decode cm_25 9 = .ok (.aload_n 1, 1) := by decide +kernel
theorem dm_25_10 : decode cm_25 10 = .ok (.aload_n 0, 1) := by decide +kernel
theorem dm_25_11 : decode cm_25 11 = .ok (.getfield 36, 3) := by decide +kernel
theorem dm_25_14 : decode cm_25 14 = .ok (.invokevirtual 52, 3) := by decide +kernel
theorem dm_25_17 : decode cm_25 17 = .ok (.istore 4, 2) := by decide +kernel
theorem dm_25_19 : decode cm_25 19 = .ok (.aload_n 1, 1) := by decide +kernel
theorem dm_25_20 : decode cm_25 20 = .ok (.aload_n 0, 1) := by decide +kernel
theorem dm_25_21 : decode cm_25 21 = .ok (.getfield 36, 3) := by decide +kernel
theorem dm_25_24 : decode cm_25 24 = .ok (.invokevirtual 55, 3) := by decide +kernel
theorem dm_25_27 : decode cm_25 27 = .ok (.istore 5, 2) := by decide +kernel
theorem dm_25_29 : decode cm_25 29 = .ok (.aload_n 1, 1) := by decide +kernel
theorem dm_25_30 : decode cm_25 30 = .ok (.aload_n 0, 1) := by decide +kernel
theorem dm_25_31 : decode cm_25 31 = .ok (.getfield 36, 3) := by decide +kernel
theorem dm_25_34 : decode cm_25 34 = .ok (.invokevirtual 58, 3) := by decide +kernel
theorem dm_25_37 : decode cm_25 37 = .ok (.istore 6, 2) := by decide +kernel
theorem dm_25_39 : decode cm_25 39 = .ok (.aload_n 0, 1) := by decide +kernel
theorem dm_25_40 : decode cm_25 40 = .ok (.getfield 36, 3) := by decide +kernel
theorem dm_25_43 : decode cm_25 43 = .ok (.iconst 1, 1) := by decide +kernel
theorem dm_25_44 : decode cm_25 44 = .ok (.iadd, 1) := by decide +kernel
theorem dm_25_45 : decode cm_25 45 = .ok (.istore 7, 2) := by decide +kernel
theorem dm_25_47 : decode cm_25 47 = .ok (.iconst 0, 1) := by decide +kernel
theorem dm_25_48 : decode cm_25 48 = .ok (.istore 8, 2) := by decide +kernel
theorem dm_25_50 : decode cm_25 50 = .ok (.iload_n 3, 1) := by decide +kernel
theorem dm_25_51 : decode cm_25 51 = .ok (.tableswitch 159 8 15 #[45, 66, 87, 87, 87, 119, 135, 147], 45) := by decide +kernel
theorem dm_25_96 : decode cm_25 96 = .ok (.aload_n 0, 1) := by decide +kernel
theorem dm_25_97 : decode cm_25 97 = .ok (.iconst 5, 1) := by decide +kernel
theorem dm_25_98 : decode cm_25 98 = .ok (.aload_n 0, 1) := by decide +kernel
theorem dm_25_99 : decode cm_25 99 = .ok (.getfield 20, 3) := by decide +kernel
theorem dm_25_102 : decode cm_25 102 = .ok (.iload 5, 2) := by decide +kernel
theorem dm_25_104 : decode cm_25 104 = .ok (.iaload, 1) := by decide +kernel
theorem dm_25_105 : decode cm_25 105 = .ok (.iadd, 1) := by decide +kernel
theorem dm_25_106 : decode cm_25 106 = .ok (.iload 6, 2) := by decide +kernel
theorem dm_25_108 : decode cm_25 108 = .ok (.iadd, 1) := by decide +kernel
theorem dm_25_109 : decode cm_25 109 = .ok (.iload 4, 2) := by decide +kernel
theorem dm_25_111 : decode cm_25 111 = .ok (.invokevirtual 87, 3) := by decide +kernel
theorem dm_25_114 : decode cm_25 114 = .ok (.goto 107, 3) := by decide +kernel
theorem dm_25_117 : decode cm_25 117 = .ok (.aload_n 0, 1) := by decide +kernel
theorem dm_25_118 : decode cm_25 118 = .ok (.iload 4, 2) := by decide +kernel
theorem dm_25_120 : decode cm_25 120 = .ok (.iconst 5, 1) := by decide +kernel
theorem dm_25_121 : decode cm_25 121 = .ok (.aload_n 0, 1) := by decide +kernel
theorem dm_25_122 : decode cm_25 122 = .ok (.getfield 20, 3) := by decide +kernel
theorem dm_25_125 : decode cm_25 125 = .ok (.iload 5, 2) := by decide +kernel
theorem dm_25_127 : decode cm_25 127 = .ok (.iaload, 1) := by decide +kernel
theorem dm_25_128 : decode cm_25 128 = .ok (.iadd, 1) := by decide +kernel
theorem dm_25_129 : decode cm_25 129 = .ok (.iload 6, 2) := by decide +kernel
theorem dm_25_131 : decode cm_25 131 = .ok (.iadd, 1) := by decide +kernel
theorem dm_25_132 : decode cm_25 132 = .ok (.invokevirtual 87, 3) := by decide +kernel
theorem dm_25_135 : decode cm_25 135 = .ok (.goto 86, 3) := by decide +kernel
theorem dm_25_138 : decode cm_25 138 = .ok (.iload_n 3, 1) := by decide +kernel
theorem dm_25_139 : decode cm_25 139 = .ok (.aload_n 0, 1) := by decide +kernel
theorem dm_25_140 : decode cm_25 140 = .ok (.getfield 20, 3) := by decide +kernel
theorem dm_25_143 : decode cm_25 143 = .ok (.iload 4, 2) := by decide +kernel
theorem dm_25_145 : decode cm_25 145 = .ok (.iaload, 1) := by decide +kernel
theorem dm_25_146 : decode cm_25 146 = .ok (.aload_n 0, 1) := by decide +kernel
theorem dm_25_147 : decode cm_25 147 = .ok (.getfield 20, 3) := by decide +kernel
theorem dm_25_150 : decode cm_25 150 = .ok (.iload 5, 2) := by decide +kernel
theorem dm_25_152 : decode cm_25 152 = .ok (.iaload, 1) := by decide +kernel
theorem dm_25_153 : decode cm_25 153 = .ok (.invokestatic 91, 3) := by decide +kernel
theorem dm_25_156 : decode cm_25 156 = .ok (.ifCond .eq 65, 3) := by decide +kernel
theorem dm_25_159 : decode cm_25 159 = .ok (.aload_n 1, 1) := by decide +kernel
theorem dm_25_160 : decode cm_25 160 = .ok (.iload 6, 2) := by decide +kernel
theorem dm_25_162 : decode cm_25 162 = .ok (.invokevirtual 95, 3) := by decide +kernel
theorem dm_25_165 : decode cm_25 165 = .ok (.istore 7, 2) := by decide +kernel
theorem dm_25_167 : decode cm_25 167 = .ok (.goto 54, 3) := by decide +kernel
theorem dm_25_170 : decode cm_25 170 = .ok (.aload_n 1, 1) := by decide +kernel
theorem dm_25_171 : decode cm_25 171 = .ok (.aload_n 0, 1) := by decide +kernel
theorem dm_25_172 : decode cm_25 172 = .ok (.getfield 24, 3) := by decide +kernel
theorem dm_25_175 : decode cm_25 175 = .ok (.iload 4, 2) := by decide +kernel
theorem dm_25_177 : decode cm_25 177 = .ok (.iaload, 1) := by decide +kernel
theorem dm_25_178 : decode cm_25 178 = .ok (.invokevirtual 95, 3) := by decide +kernel
theorem dm_25_181 : decode cm_25 181 = .ok (.istore 7, 2) := by decide +kernel
theorem dm_25_183 : decode cm_25 183 = .ok (.goto 38, 3) := by decide +kernel
theorem dm_25_186 : decode cm_25 186 = .ok (.aload_n 0, 1) := by decide +kernel
theorem dm_25_187 : decode cm_25 187 = .ok (.aload_n 2, 1) := by decide +kernel
theorem dm_25_188 : decode cm_25 188 = .ok (.iload 6, 2) := by decide +kernel
theorem dm_25_190 : decode cm_25 190 = .ok (.invokevirtual 98, 3) := by decide +kernel
theorem dm_25_193 : decode cm_25 193 = .ok (.istore 8, 2) := by decide +kernel
theorem dm_25_195 : decode cm_25 195 = .ok (.goto 26, 3) := by decide +kernel
theorem dm_25_198 : decode cm_25 198 = .ok (.aload_n 0, 1) := by decide +kernel
theorem dm_25_199 : decode cm_25 199 = .ok (.getfield 24, 3) := by decide +kernel
theorem dm_25_202 : decode cm_25 202 = .ok (.iload 4, 2) := by decide +kernel
theorem dm_25_204 : decode cm_25 204 = .ok (.iload 6, 2) := by decide +kernel
theorem dm_25_206 : decode cm_25 206 = .ok (.iastore, 1) := by decide +kernel
theorem dm_25_207 : decode cm_25 207 = .ok (.goto 14, 3) := by decide +kernel
theorem dm_25_210 : decode cm_25 210 = .ok (.aload_n 0, 1) := by decide +kernel
theorem dm_25_211 : decode cm_25 211 = .ok (.iload_n 3, 1) := by decide +kernel
theorem dm_25_212 : decode cm_25 212 = .ok (.iload 4, 2) := by decide +kernel
theorem dm_25_214 : decode cm_25 214 = .ok (.iload 5, 2) := by decide +kernel
theorem dm_25_216 : decode cm_25 216 = .ok (.iload 6, 2) := by decide +kernel
theorem dm_25_218 : decode cm_25 218 = .ok (.invokevirtual 102, 3) := by decide +kernel
theorem dm_25_221 : decode cm_25 221 = .ok (.aload_n 0, 1) := by decide +kernel
theorem dm_25_222 : decode cm_25 222 = .ok (.iload 7, 2) := by decide +kernel
theorem dm_25_224 : decode cm_25 224 = .ok (.putfield 36, 3) := by decide +kernel
theorem dm_25_227 : decode cm_25 227 = .ok (.iload 8, 2) := by decide +kernel
theorem dm_25_229 : decode cm_25 229 = .ok (.ireturn, 1) := by decide +kernel
theorem dm_26_0 : decode cm_26 0 = .ok (.aload_n 0, 1) := by decide +kernel
theorem dm_26_1 : decode cm_26 1 = .ok (.getfield 20, 3) := by decide +kernel
theorem dm_26_4 : decode cm_26 4 = .ok (.iload_n 2, 1) := by decide +kernel
theorem dm_26_5 : decode cm_26 5 = .ok (.aload_n 0, 1) := by decide +kernel
theorem dm_26_6 : decode cm_26 6 = .ok (.getfield 20, 3) := by decide +kernel
theorem dm_26_9 : decode cm_26 9 = .ok (.iload_n 1, 1) := by decide +kernel
theorem dm_26_10 : decode cm_26 10 = .ok (.iaload, 1) := by decide +kernel
theorem dm_26_11 : decode cm_26 11 = .ok (.iastore, 1) := by decide +kernel
theorem dm_26_12 : decode cm_26 12 = .ok (.aload_n 0, 1) := by decide +kernel
theorem dm_26_13 : decode cm_26 13 = .ok (.getfield 24, 3) := by decide +kernel
theorem dm_26_16 : decode cm_26 16 = .ok (.iload_n 2, 1) := by decide +kernel
theorem dm_26_17 : decode cm_26 17 = .ok (.aload_n 0, 1) := by decide +kernel
theorem dm_26_18 : decode cm_26 18 = .ok (.getfield 24, 3) := by decide +kernel
theorem dm_26_21 : decode cm_26 21 = .ok (.iload_n 1, 1) := by decide +kernel
theorem dm_26_22 : decode cm_26 22 = .ok (.iaload, 1) := by decide +kernel
theorem dm_26_23 : decode cm_26 23 = .ok (.iastore, 1) := by decide +kernel
theorem dm_26_24 : decode cm_26 24 = .ok (.return_, 1) := by decide +kernel
theorem dm_27_0 : decode cm_27 0 = .ok (.aload_n 0, 1) := by decide +kernel
theorem dm_27_1 : decode cm_27 1 = .ok (.getfield 20, 3) := by decide +kernel
theorem dm_27_4 : decode cm_27 4 = .ok (.iload_n 1, 1) := by decide +kernel
theorem dm_27_5 : decode cm_27 5 = .ok (.iload_n 2, 1) := by decide +kernel
theorem dm_27_6 : decode cm_27 6 = .ok (.iastore, 1) := by decide +kernel
theorem dm_27_7 : decode cm_27 7 = .ok (.aload_n 0, 1) := by decide +kernel
theorem dm_27_8 : decode cm_27 8 = .ok (.getfield 24, 3) := by decide +kernel
theorem dm_27_11 : decode cm_27 11 = .ok (.iload_n 1, 1) := by decide +kernel
theorem dm_27_12 : decode cm_27 12 = .ok (.iconst (-1), 1) := by decide +kernel
theorem dm_27_13 : decode cm_27 13 = .ok (.iastore, 1) := by decide +kernel
theorem dm_27_14 : decode cm_27 14 = .ok (.return_, 1) := by decide +kernel
theorem dm_28_0 : decode cm_28 0 = .ok (.iload_n 1, 1) := by decide +kernel
theorem dm_28_1 : decode cm_28 1 = .ok (.iconst 2, 1) := by decide +kernel
theorem dm_28_2 : decode cm_28 2 = .ok (.if_icmp .ne 20, 3) := by decide +kernel
theorem dm_28_5 : decode cm_28 5 = .ok (.aload_n 0, 1) := by decide +kernel
theorem dm_28_6 : decode cm_28 6 = .ok (.iload_n 3, 1) := by decide +kernel
theorem dm_28_7 : decode cm_28 7 = .ok (.invokevirtual 67, 3) := by decide +kernel
theorem dm_28_10 : decode cm_28 10 = .ok (.ifCond .eq 12, 3) := by decide +kernel
theorem dm_28_13 : decode cm_28 13 = .ok (.aload_n 0, 1) := by decide +kernel
theorem dm_28_14 : decode cm_28 14 = .ok (.iload_n 3, 1) := by decide +kernel
theorem dm_28_15 : decode cm_28 15 = .ok (.iload_n 2, 1) := by decide +kernel
theorem dm_28_16 : decode cm_28 16 = .ok (.invokevirtual 87, 3) := by decide +kernel
theorem dm_28_19 : decode cm_28 19 = .ok (.goto 26, 3) := by decide +kernel
theorem dm_28_22 : decode cm_28 22 = .ok (.aload_n 0, 1) := by decide +kernel
theorem dm_28_23 : decode cm_28 23 = .ok (.iload_n 2, 1) := by decide +kernel
theorem dm_28_24 : decode cm_28 24 = .ok (.iload_n 1, 1) := by decide +kernel
theorem dm_28_25 : decode cm_28 25 = .ok (.aload_n 0, 1) := by decide +kernel
theorem dm_28_26 : decode cm_28 26 = .ok (.getfield 20, 3) := by decide +kernel
theorem dm_28_29 : decode cm_28 29 = .ok (.iload_n 2, 1) := by decide +kernel
theorem dm_28_30 : decode cm_28 30 = .ok (.iaload, 1) := by decide +kernel
theorem dm_28_31 : decode cm_28 31 = .ok (.aload_n 0, 1) := by decide +kernel
theorem dm_28_32 : decode cm_28 32 = .ok (.getfield 20, 3) := by decide +kernel
theorem dm_28_35 : decode cm_28 35 = .ok (.iload_n 3, 1) := by decide +kernel
theorem dm_28_36 : decode cm_28 36 = .ok (.iaload, 1) := by decide +kernel
theorem dm_28_37 : decode cm_28 37 = .ok (.iload 4, 2) := by decide +kernel
theorem dm_28_39 : decode cm_28 39 = .ok (.invokestatic 106, 3) := by decide +kernel
theorem dm_28_42 : decode cm_28 42 = .ok (.invokevirtual 110, 3) := by decide +kernel
theorem dm_28_45 : decode cm_28 45 = .ok (.return_, 1) := by decide +kernel
theorem dm_29_0 : decode cm_29 0 = .ok (.aload_n 0, 1) := by decide +kernel
theorem dm_29_1 : decode cm_29 1 = .ok (.getfield 16, 3) := by decide +kernel
theorem dm_29_4 : decode cm_29 4 = .ok (.iload_n 2, 1) := by decide +kernel
theorem dm_29_5 : decode cm_29 5 = .ok (.aload_n 0, 1) := by decide +kernel
theorem dm_29_6 : decode cm_29 6 = .ok (.getfield 20, 3) := by decide +kernel
theorem dm_29_9 : decode cm_29 9 = .ok (.iconst 1, 1) := by decide +kernel
theorem dm_29_10 : decode cm_29 10 = .ok (.iaload, 1) := by decide +kernel
theorem dm_29_11 : decode cm_29 11 = .ok (.aload_n 0, 1) := by decide +kernel
theorem dm_29_12 : decode cm_29 12 = .ok (.getfield 20, 3) := by decide +kernel
theorem dm_29_15 : decode cm_29 15 = .ok (.iconst 2, 1) := by decide +kernel
theorem dm_29_16 : decode cm_29 16 = .ok (.iaload, 1) := by decide +kernel
theorem dm_29_17 : decode cm_29 17 = .ok (.invokevirtual 113, 3) := by decide +kernel
theorem dm_29_20 : decode cm_29 20 = .ok (.iload_n 2, 1) := by decide +kernel
theorem dm_29_21 : decode cm_29 21 = .ok (.tableswitch 119 0 4 #[35, 37, 46, 62, 83], 35) := by decide +kernel
theorem dm_29_56 : decode cm_29 56 = .ok (.iconst 1, 1) := by decide +kernel
theorem dm_29_57 : decode cm_29 57 = .ok (.ireturn, 1) := by decide +kernel
theorem dm_29_58 : decode cm_29 58 = .ok (.aload_n 0, 1) := by decide +kernel
theorem dm_29_59 : decode cm_29 59 = .ok (.iconst 1, 1) := by decide +kernel
theorem dm_29_60 : decode cm_29 60 = .ok (.iconst 0, 1) := by decide +kernel
theorem dm_29_61 : decode cm_29 61 = .ok (.invokevirtual 110, 3) := by decide +kernel
theorem dm_29_64 : decode cm_29 64 = .ok (.goto 82, 3) := by decide +kernel
theorem dm_29_67 : decode cm_29 67 = .ok (.aload_n 0, 1) := by decide +kernel
theorem dm_29_68 : decode cm_29 68 = .ok (.iconst 1, 1) := by decide +kernel
theorem dm_29_69 : decode cm_29 69 = .ok (.aload_n 0, 1) := by decide +kernel
theorem dm_29_70 : decode cm_29 70 = .ok (.getfield 16, 3) := by decide +kernel
theorem dm_29_73 : decode cm_29 73 = .ok (.aload_n 1, 1) := by decide +kernel
theorem dm_29_74 : decode cm_29 74 = .ok (.invokevirtual 117, 3) := by decide +kernel
theorem dm_29_77 : decode cm_29 77 = .ok (.invokevirtual 110, 3) := by decide +kernel
theorem dm_29_80 : decode cm_29 80 = .ok (.goto 66, 3) := by decide +kernel
theorem dm_29_83 : decode cm_29 83 = .ok (.aload_n 0, 1) := by decide +kernel
theorem dm_29_84 : decode cm_29 84 = .ok (.iconst 1, 1) := by decide +kernel
theorem dm_29_85 : decode cm_29 85 = .ok (.aload_n 0, 1) := by decide +kernel
theorem dm_29_86 : decode cm_29 86 = .ok (.getfield 16, 3) := by decide +kernel
theorem dm_29_89 : decode cm_29 89 = .ok (.aload_n 0, 1) := by decide +kernel
theorem dm_29_90 : decode cm_29 90 = .ok (.getfield 20, 3) := by decide +kernel
theorem dm_29_93 : decode cm_29 93 = .ok (.iconst 1, 1) := by decide +kernel
theorem dm_29_94 : decode cm_29 94 = .ok (.iaload, 1) := by decide +kernel
theorem dm_29_95 : decode cm_29 95 = .ok (.invokevirtual 121, 3) := by decide +kernel
theorem dm_29_98 : decode cm_29 98 = .ok (.invokevirtual 110, 3) := by decide +kernel
theorem dm_29_101 : decode cm_29 101 = .ok (.goto 45, 3) := by decide +kernel
theorem dm_29_104 : decode cm_29 104 = .ok (.aload_n 0, 1) := by decide +kernel
theorem dm_29_105 : decode cm_29 105 = .ok (.iconst 1, 1) := by decide +kernel
theorem dm_29_106 : decode cm_29 106 = .ok (.aload_n 0, 1) := by decide +kernel
theorem dm_29_107 : decode cm_29 107 = .ok (.getfield 20, 3) := by decide +kernel
theorem dm_29_110 : decode cm_29 110 = .ok (.iconst 1, 1) := by decide +kernel
theorem dm_29_111 : decode cm_29 111 = .ok (.iaload, 1) := by decide +kernel
theorem dm_29_112 : decode cm_29 112 = .ok (.aload_n 0, 1) := by decide +kernel
theorem dm_29_113 : decode cm_29 113 = .ok (.getfield 20, 3) := by decide +kernel
theorem dm_29_116 : decode cm_29 116 = .ok (.iconst 2, 1) := by decide +kernel
theorem dm_29_117 : decode cm_29 117 = .ok (.iaload, 1) := by decide +kernel
theorem dm_29_118 : decode cm_29 118 = .ok (.invokestatic 84, 3) := by decide +kernel
theorem dm_29_121 : decode cm_29 121 = .ok (.ifCond .eq 12, 3) := by decide +kernel
theorem dm_29_124 : decode cm_29 124 = .ok (.aload_n 0, 1) := by decide +kernel
theorem dm_29_125 : decode cm_29 125 = .ok (.getfield 20, 3) := by decide +kernel
theorem dm_29_128 : decode cm_29 128 = .ok (.iconst 2, 1) := by decide +kernel
theorem dm_29_129 : decode cm_29 129 = .ok (.iaload, 1) := by decide +kernel
theorem dm_29_130 : decode cm_29 130 = .ok (.goto 4, 3) := by decide +kernel
theorem dm_29_133 : decode cm_29 133 = .ok (.iconst (-1), 1) := by decide +kernel
theorem dm_29_134 : decode cm_29 134 = .ok (.invokevirtual 110, 3) := by decide +kernel
theorem dm_29_137 : decode cm_29 137 = .ok (.goto 9, 3) := by decide +kernel
theorem dm_29_140 : decode cm_29 140 = .ok (.aload_n 0, 1) := by decide +kernel
theorem dm_29_141 : decode cm_29 141 = .ok (.iconst 1, 1) := by decide +kernel
theorem dm_29_142 : decode cm_29 142 = .ok (.iconst (-1), 1) := by decide +kernel
theorem dm_29_143 : decode cm_29 143 = .ok (.invokevirtual 110, 3) := by decide +kernel
theorem dm_29_146 : decode cm_29 146 = .ok (.iconst 0, 1) := by decide +kernel
theorem dm_29_147 : decode cm_29 147 = .ok (.ireturn, 1) := by decide +kernel
theorem dm_30_0 : decode cm_30 0 = .ok (.aload_n 0, 1) := by decide +kernel
theorem dm_30_1 : decode cm_30 1 = .ok (.invokespecial 1, 3) := by decide +kernel
theorem dm_30_4 : decode cm_30 4 = .ok (.aload_n 0, 1) := by decide +kernel
theorem dm_30_5 : decode cm_30 5 = .ok (.sipush 256, 3) := by decide +kernel
theorem dm_30_8 : decode cm_30 8 = .ok (.newarray .int, 2) := by decide +kernel
theorem dm_30_10 : decode cm_30 10 = .ok (.putfield 9, 3) := by decide +kernel
theorem dm_30_13 : decode cm_30 13 = .ok (.aload_n 0, 1) := by decide +kernel
theorem dm_30_14 : decode cm_30 14 = .ok (.iconst 3, 1) := by decide +kernel
theorem dm_30_15 : decode cm_30 15 = .ok (.anewarray 13, 3) := by decide +kernel
theorem dm_30_18 : decode cm_30 18 = .ok (.putfield 15, 3) := by decide +kernel
theorem dm_30_21 : decode cm_30 21 = .ok (.iconst 0, 1) := by decide +kernel
theorem dm_30_22 : decode cm_30 22 = .ok (.istore_n 1, 1) := by decide +kernel
theorem dm_30_23 : decode cm_30 23 = .ok (.iload_n 1, 1) := by decide +kernel
theorem dm_30_24 : decode cm_30 24 = .ok (.iconst 3, 1) := by decide +kernel
theorem dm_30_25 : decode cm_30 25 = .ok (.if_icmp .ge 23, 3) := by decide +kernel
theorem dm_30_28 : decode cm_30 28 = .ok (.aload_n 0, 1) := by decide +kernel
theorem dm_30_29 : decode cm_30 29 = .ok (.getfield 15, 3) := by decide +kernel
theorem dm_30_32 : decode cm_30 32 = .ok (.iload_n 1, 1) := by decide +kernel
theorem dm_30_33 : decode cm_30 33 = .ok (.new 13, 3) := by decide +kernel
theorem dm_30_36 : decode cm_30 36 = .ok (.dup, 1) := by decide +kernel
theorem dm_30_37 : decode cm_30 37 = .ok (.iload_n 1, 1) := by decide +kernel
theorem dm_30_38 : decode cm_30 38 = .ok (.invokespecial 19, 3) := by decide +kernel
theorem dm_30_41 : decode cm_30 41 = .ok (.aastore, 1) := by decide +kernel
theorem dm_30_42 : decode cm_30 42 = .ok (.iinc 1 1, 3) := by decide +kernel
theorem dm_30_45 : decode cm_30 45 = .ok (.goto (-22), 3) := by decide +kernel
theorem dm_30_48 : decode cm_30 48 = .ok (.return_, 1) := by decide +kernel
theorem dm_31_0 : decode cm_31 0 = .ok (.iload_n 1, 1) := by decide +kernel
theorem dm_31_1 : decode cm_31 1 = .ok (.invokestatic 22, 3) := by decide +kernel
theorem dm_31_4 : decode cm_31 4 = .ok (.ifCond .eq 12, 3) := by decide +kernel
theorem dm_31_7 : decode cm_31 7 = .ok (.aload_n 0, 1) := by decide +kernel
theorem dm_31_8 : decode cm_31 8 = .ok (.getfield 15, 3) := by decide +kernel
theorem dm_31_11 : decode cm_31 11 = .ok (.iload_n 1, 1) := by decide +kernel
theorem dm_31_12 : decode cm_31 12 = .ok (.aaload, 1) := by decide +kernel
theorem dm_31_13 : decode cm_31 13 = .ok (.goto 4, 3) := by decide +kernel
theorem dm_31_16 : decode cm_31 16 = .ok (.aconst_null, 1) := by decide +kernel
theorem dm_31_17 : decode cm_31 17 = .ok (.areturn, 1) := by decide +kernel
theorem dm_32_0 : decode cm_32 0 = .ok (.iload_n 1, 1) := by decide +kernel
theorem dm_32_1 : decode cm_32 1 = .ok (.ifCond .lt 19, 3) := by decide +kernel
theorem dm_32_4 : decode cm_32 4 = .ok (.iload_n 1, 1) := by decide +kernel
theorem dm_32_5 : decode cm_32 5 = .ok (.sipush 256, 3) := by decide +kernel
theorem dm_32_8 : decode cm_32 8 = .ok (.if_icmp .ge 12, 3) := by decide +kernel
theorem dm_32_11 : decode cm_32 11 = .ok (.aload_n 0, 1) := by decide +kernel
theorem dm_32_12 : decode cm_32 12 = .ok (.getfield 9, 3) := by decide +kernel
theorem dm_32_15 : decode cm_32 15 = .ok (.iload_n 1, 1) := by decide +kernel
theorem dm_32_16 : decode cm_32 16 = .ok (.iaload, 1) := by decide +kernel
theorem dm_32_17 : decode cm_32 17 = .ok (.goto 4, 3) := by decide +kernel
theorem dm_32_20 : decode cm_32 20 = .ok (.iconst 0, 1) := by decide +kernel
theorem dm_32_21 : decode cm_32 21 = .ok (.ireturn, 1) := by decide +kernel
theorem dm_33_0 : decode cm_33 0 = .ok (.iload_n 1, 1) := by decide +kernel
theorem dm_33_1 : decode cm_33 1 = .ok (.ifCond .lt 17, 3) := by decide +kernel
theorem dm_33_4 : decode cm_33 4 = .ok (.iload_n 1, 1) := by decide +kernel
theorem dm_33_5 : decode cm_33 5 = .ok (.sipush 256, 3) := by decide +kernel
theorem dm_33_8 : decode cm_33 8 = .ok (.if_icmp .ge 10, 3) := by decide +kernel
theorem dm_33_11 : decode cm_33 11 = .ok (.aload_n 0, 1) := by decide +kernel
theorem dm_33_12 : decode cm_33 12 = .ok (.getfield 9, 3) := by decide +kernel
theorem dm_33_15 : decode cm_33 15 = .ok (.iload_n 1, 1) := by decide +kernel
theorem dm_33_16 : decode cm_33 16 = .ok (.iload_n 2, 1) := by decide +kernel
theorem dm_33_17 : decode cm_33 17 = .ok (.iastore, 1) := by decide +kernel
theorem dm_33_18 : decode cm_33 18 = .ok (.return_, 1) := by decide +kernel
theorem dm_34_0 : decode cm_34 0 = .ok (.aload_n 0, 1) := by decide +kernel
theorem dm_34_1 : decode cm_34 1 = .ok (.iload_n 2, 1) := by decide +kernel
theorem dm_34_2 : decode cm_34 2 = .ok (.invokevirtual 26, 3) := by decide +kernel
theorem dm_34_5 : decode cm_34 5 = .ok (.astore_n 3, 1) := by decide +kernel
theorem dm_34_6 : decode cm_34 6 = .ok (.aload_n 3, 1) := by decide +kernel
theorem dm_34_7 : decode cm_34 7 = .ok (.ifnonnull 4, 3) := by decide +kernel
theorem dm_34_10 : decode cm_34 10 = .ok (.return_, 1) := by decide +kernel
theorem dm_34_11 : decode cm_34 11 = .ok (.iconst 0, 1) := by decide +kernel
theorem dm_34_12 : decode cm_34 12 = .ok (.istore 4, 2) := by decide +kernel
theorem dm_34_14 : decode cm_34 14 = .ok (.iload 4, 2) := by decide +kernel
theorem dm_34_16 : decode cm_34 16 = .ok (.bipush 32, 2) := by decide +kernel
theorem dm_34_18 : decode cm_34 18 = .ok (.if_icmp .ge 26, 3) := by decide +kernel
theorem dm_34_21 : decode cm_34 21 = .ok (.aload_n 0, 1) := by decide +kernel
theorem dm_34_22 : decode cm_34 22 = .ok (.iload_n 2, 1) := by decide +kernel
theorem dm_34_23 : decode cm_34 23 = .ok (.invokestatic 30, 3) := by decide +kernel
theorem dm_34_26 : decode cm_34 26 = .ok (.iload 4, 2) := by decide +kernel
theorem dm_34_28 : decode cm_34 28 = .ok (.iadd, 1) := by decide +kernel
theorem dm_34_29 : decode cm_34 29 = .ok (.aload_n 1, 1) := by decide +kernel
theorem dm_34_30 : decode cm_34 30 = .ok (.iload 4, 2) := by decide +kernel
theorem dm_34_32 : decode cm_34 32 = .ok (.invokevirtual 34, 3) := by decide +kernel
theorem dm_34_35 : decode cm_34 35 = .ok (.invokevirtual 39, 3) := by decide +kernel
theorem dm_34_38 : decode cm_34 38 = .ok (.iinc 4 1, 3) := by decide +kernel
theorem dm_34_41 : decode cm_34 41 = .ok (.goto (-27), 3) := by decide +kernel
theorem dm_34_44 : decode cm_34 44 = .ok (.iconst 0, 1) := by decide +kernel
theorem dm_34_45 : decode cm_34 45 = .ok (.istore 4, 2) := by decide +kernel
theorem dm_34_47 : decode cm_34 47 = .ok (.iload 4, 2) := by decide +kernel
theorem dm_34_49 : decode cm_34 49 = .ok (.bipush 16, 2) := by decide +kernel
theorem dm_34_51 : decode cm_34 51 = .ok (.if_icmp .ge 21, 3) := by decide +kernel
theorem dm_34_54 : decode cm_34 54 = .ok (.aload_n 0, 1) := by decide +kernel
theorem dm_34_55 : decode cm_34 55 = .ok (.iload_n 2, 1) := by decide +kernel
theorem dm_34_56 : decode cm_34 56 = .ok (.invokestatic 43, 3) := by decide +kernel
theorem dm_34_59 : decode cm_34 59 = .ok (.iload 4, 2) := by decide +kernel
theorem dm_34_61 : decode cm_34 61 = .ok (.iadd, 1) := by decide +kernel
theorem dm_34_62 : decode cm_34 62 = .ok (.iconst 0, 1) := by decide +kernel
theorem dm_34_63 : decode cm_34 63 = .ok (.invokevirtual 39, 3) := by decide +kernel
theorem dm_34_66 : decode cm_34 66 = .ok (.iinc 4 1, 3) := by decide +kernel
theorem dm_34_69 : decode cm_34 69 = .ok (.goto (-22), 3) := by decide +kernel
theorem dm_34_72 : decode cm_34 72 = .ok (.aload_n 3, 1) := by decide +kernel
theorem dm_34_73 : decode cm_34 73 = .ok (.invokevirtual 46, 3) := by decide +kernel
theorem dm_34_76 : decode cm_34 76 = .ok (.aload_n 0, 1) := by decide +kernel
theorem dm_34_77 : decode cm_34 77 = .ok (.getfield 49, 3) := by decide +kernel
theorem dm_34_80 : decode cm_34 80 = .ok (.iload_n 2, 1) := by decide +kernel
theorem dm_34_81 : decode cm_34 81 = .ok (.if_icmp .ne 8, 3) := by decide +kernel
theorem dm_34_84 : decode cm_34 84 = .ok (.aload_n 0, 1) := by decide +kernel
theorem dm_34_85 : decode cm_34 85 = .ok (.iconst 0, 1) := by decide +kernel
theorem dm_34_86 : decode cm_34 86 = .ok (.putfield 53, 3) := by decide +kernel
theorem dm_34_89 : decode cm_34 89 = .ok (.return_, 1) := by decide +kernel
theorem dm_35_0 : decode cm_35 0 = .ok (.iconst 0, 1) := by decide +kernel
theorem dm_35_1 : decode cm_35 1 = .ok (.istore_n 2, 1) := by decide +kernel
theorem dm_35_2 : decode cm_35 2 = .ok (.iload_n 2, 1) := by decide +kernel
theorem dm_35_3 : decode cm_35 3 = .ok (.iload_n 1, 1) := by decide +kernel
theorem dm_35_4 : decode cm_35 4 = .ok (.if_icmp .ge 30, 3) := by decide +kernel
theorem dm_35_7 : decode cm_35 7 = .ok (.aload_n 0, 1) := by decide +kernel
theorem dm_35_8 : decode cm_35 8 = .ok (.invokevirtual 56, 3) := by decide +kernel
theorem dm_35_11 : decode cm_35 11 = .ok (.astore_n 3, 1) := by decide +kernel
theorem dm_35_12 : decode cm_35 12 = .ok (.aload_n 3, 1) := by decide +kernel
theorem dm_35_13 : decode cm_35 13 = .ok (.ifnonnull 5, 3) := by decide +kernel
theorem dm_35_16 : decode cm_35 16 = .ok (.iload_n 2, 1) := by decide +kernel
theorem dm_35_17 : decode cm_35 17 = .ok (.ireturn, 1) := by decide +kernel
theorem dm_35_18 : decode cm_35 18 = .ok (.aload_n 0, 1) := by decide +kernel
theorem dm_35_19 : decode cm_35 19 = .ok (.aload_n 3, 1) := by decide +kernel
theorem dm_35_20 : decode cm_35 20 = .ok (.invokevirtual 60, 3) := by decide +kernel
theorem dm_35_23 : decode cm_35 23 = .ok (.aload_n 0, 1) := by decide +kernel
theorem dm_35_24 : decode cm_35 24 = .ok (.aload_n 3, 1) := by decide +kernel
theorem dm_35_25 : decode cm_35 25 = .ok (.invokevirtual 64, 3) := by decide +kernel
theorem dm_35_28 : decode cm_35 28 = .ok (.iinc 2 1, 3) := by decide +kernel
theorem dm_35_31 : decode cm_35 31 = .ok (.goto (-29), 3) := by decide +kernel
theorem dm_35_34 : decode cm_35 34 = .ok (.iload_n 1, 1) := by decide +kernel
theorem dm_35_35 : decode cm_35 35 = .ok (.ireturn, 1) := by decide +kernel
theorem dm_36_0 : decode cm_36 0 = .ok (.aload_n 0, 1) := by decide +kernel
theorem dm_36_1 : decode cm_36 1 = .ok (.getfield 49, 3) := by decide +kernel
theorem dm_36_4 : decode cm_36 4 = .ok (.istore_n 1, 1) := by decide +kernel
theorem dm_36_5 : decode cm_36 5 = .ok (.iconst 0, 1) := by decide +kernel
theorem dm_36_6 : decode cm_36 6 = .ok (.istore_n 2, 1) := by decide +kernel
theorem dm_36_7 : decode cm_36 7 = .ok (.iload_n 2, 1) := by decide +kernel
theorem dm_36_8 : decode cm_36 8 = .ok (.iconst 3, 1) := by decide +kernel
theorem dm_36_9 : decode cm_36 9 = .ok (.if_icmp .ge 47, 3) := by decide +kernel
theorem dm_36_12 : decode cm_36 12 = .ok (.aload_n 0, 1) := by decide +kernel
theorem dm_36_13 : decode cm_36 13 = .ok (.iload_n 1, 1) := by decide +kernel
theorem dm_36_14 : decode cm_36 14 = .ok (.invokevirtual 26, 3) := by decide +kernel
theorem dm_36_17 : decode cm_36 17 = .ok (.astore_n 3, 1) := by decide +kernel
theorem dm_36_18 : decode cm_36 18 = .ok (.aload_n 3, 1) := by decide +kernel
theorem dm_36_19 : decode cm_36 19 = .ok (.ifnull 26, 3) := by decide +kernel
theorem dm_36_22 : decode cm_36 22 = .ok (.aload_n 3, 1) := by decide +kernel
theorem dm_36_23 : decode cm_36 23 = .ok (.getfield 67, 3) := by decide +kernel
theorem dm_36_26 : decode cm_36 26 = .ok (.iconst 1, 1) := by decide +kernel
theorem dm_36_27 : decode cm_36 27 = .ok (.if_icmp .ne 18, 3) := by decide +kernel
theorem dm_36_30 : decode cm_36 30 = .ok (.iload_n 1, 1) := by decide +kernel
theorem dm_36_31 : decode cm_36 31 = .ok (.aload_n 0, 1) := by decide +kernel
theorem dm_36_32 : decode cm_36 32 = .ok (.getfield 49, 3) := by decide +kernel
theorem dm_36_35 : decode cm_36 35 = .ok (.if_icmp .eq 8, 3) := by decide +kernel
theorem dm_36_38 : decode cm_36 38 = .ok (.aload_n 0, 1) := by decide +kernel
theorem dm_36_39 : decode cm_36 39 = .ok (.iload_n 1, 1) := by decide +kernel
theorem dm_36_40 : decode cm_36 40 = .ok (.invokevirtual 70, 3) := by decide +kernel
theorem dm_36_43 : decode cm_36 43 = .ok (.aload_n 3, 1) := by decide +kernel
theorem dm_36_44 : decode cm_36 44 = .ok (.areturn, 1) := by decide +kernel
theorem dm_36_45 : decode cm_36 45 = .ok (.iload_n 1, 1) := by decide +kernel
theorem dm_36_46 : decode cm_36 46 = .ok (.invokestatic 73, 3) := by decide +kernel
theorem dm_36_49 : decode cm_36 49 = .ok (.istore_n 1, 1) := by decide +kernel
theorem dm_36_50 : decode cm_36 50 = .ok (.iinc 2 1, 3) := by decide +kernel
theorem dm_36_53 : decode cm_36 53 = .ok (.goto (-46), 3) := by decide +kernel
theorem dm_36_56 : decode cm_36 56 = .ok (.aconst_null, 1) := by decide +kernel
theorem dm_36_57 : decode cm_36 57 = .ok (.areturn, 1) := by decide +kernel
theorem dm_37_0 : decode cm_37 0 = .ok (.aload_n 0, 1) := by decide +kernel
theorem dm_37_1 : decode cm_37 1 = .ok (.dup, 1) := by decide +kernel
theorem dm_37_2 : decode cm_37 2 = .ok (.getfield 53, 3) := by decide +kernel
theorem dm_37_5 : decode cm_37 5 = .ok (.iconst 1, 1) := by decide +kernel
theorem dm_37_6 : decode cm_37 6 = .ok (.iadd, 1) := by decide +kernel
theorem dm_37_7 : decode cm_37 7 = .ok (.putfield 53, 3) := by decide +kernel
theorem dm_37_10 : decode cm_37 10 = .ok (.aload_n 0, 1) := by decide +kernel
theorem dm_37_11 : decode cm_37 11 = .ok (.getfield 53, 3) := by decide +kernel
theorem dm_37_14 : decode cm_37 14 = .ok (.iconst 3, 1) := by decide +kernel
theorem dm_37_15 : decode cm_37 15 = .ok (.if_icmp .ge 11, 3) := by decide +kernel
theorem dm_37_18 : decode cm_37 18 = .ok (.aload_n 1, 1) := by decide +kernel
theorem dm_37_19 : decode cm_37 19 = .ok (.getfield 67, 3) := by decide +kernel
theorem dm_37_22 : decode cm_37 22 = .ok (.iconst 1, 1) := by decide +kernel
theorem dm_37_23 : decode cm_37 23 = .ok (.if_icmp .eq 14, 3) := by decide +kernel
theorem dm_37_26 : decode cm_37 26 = .ok (.aload_n 0, 1) := by decide +kernel
theorem dm_37_27 : decode cm_37 27 = .ok (.aload_n 0, 1) := by decide +kernel
theorem dm_37_28 : decode cm_37 28 = .ok (.getfield 49, 3) := by decide +kernel
theorem dm_37_31 : decode cm_37 31 = .ok (.invokestatic 73, 3) := by decide +kernel
theorem dm_37_34 : decode cm_37 34 = .ok (.invokevirtual 70, 3) := by decide +kernel
theorem dm_37_37 : decode cm_37 37 = .ok (.return_, 1) := by decide +kernel
theorem dm_38_0 : decode cm_38 0 = .ok (.aload_n 0, 1) := by decide +kernel
theorem dm_38_1 : decode cm_38 1 = .ok (.iload_n 1, 1) := by decide +kernel
theorem dm_38_2 : decode cm_38 2 = .ok (.putfield 49, 3) := by decide +kernel
theorem dm_38_5 : decode cm_38 5 = .ok (.aload_n 0, 1) := by decide +kernel
theorem dm_38_6 : decode cm_38 6 = .ok (.iconst 0, 1) := by decide +kernel
theorem dm_38_7 : decode cm_38 7 = .ok (.putfield 53, 3) := by decide +kernel
theorem dm_38_10 : decode cm_38 10 = .ok (.return_, 1) := by decide +kernel
theorem dm_39_0 : decode cm_39 0 = .ok (.iload_n 0, 1) := by decide +kernel
theorem dm_39_1 : decode cm_39 1 = .ok (.iconst 1, 1) := by decide +kernel
theorem dm_39_2 : decode cm_39 2 = .ok (.iadd, 1) := by decide +kernel
theorem dm_39_3 : decode cm_39 3 = .ok (.iconst 3, 1) := by decide +kernel
theorem dm_39_4 : decode cm_39 4 = .ok (.if_icmp .ge 9, 3) := by decide +kernel
theorem dm_39_7 : decode cm_39 7 = .ok (.iload_n 0, 1) := by decide +kernel
theorem dm_39_8 : decode cm_39 8 = .ok (.iconst 1, 1) := by decide +kernel
theorem dm_39_9 : decode cm_39 9 = .ok (.iadd, 1) := by decide +kernel
theorem dm_39_10 : decode cm_39 10 = .ok (.goto 4, 3) := by decide +kernel
theorem dm_39_13 : decode cm_39 13 = .ok (.iconst 0, 1) := by decide +kernel
theorem dm_39_14 : decode cm_39 14 = .ok (.ireturn, 1) := by decide +kernel
theorem dm_40_0 : decode cm_40 0 = .ok (.aload_n 1, 1) := by decide +kernel
theorem dm_40_1 : decode cm_40 1 = .ok (.getfield 76, 3) := by decide +kernel
theorem dm_40_4 : decode cm_40 4 = .ok (.istore_n 2, 1) := by decide +kernel
theorem dm_40_5 : decode cm_40 5 = .ok (.aload_n 0, 1) := by decide +kernel
theorem dm_40_6 : decode cm_40 6 = .ok (.iload_n 2, 1) := by decide +kernel
theorem dm_40_7 : decode cm_40 7 = .ok (.invokevirtual 79, 3) := by decide +kernel
theorem dm_40_10 : decode cm_40 10 = .ok (.istore_n 3, 1) := by decide +kernel
theorem dm_40_11 : decode cm_40 11 = .ok (.iload_n 3, 1) := by decide +kernel
theorem dm_40_12 : decode cm_40 12 = .ok (.invokestatic 82, 3) := by decide +kernel
theorem dm_40_15 : decode cm_40 15 = .ok (.istore 4, 2) := by decide +kernel
theorem dm_40_17 : decode cm_40 17 = .ok (.iload_n 3, 1) := by decide +kernel
theorem dm_40_18 : decode cm_40 18 = .ok (.invokestatic 87, 3) := by decide +kernel
theorem dm_40_21 : decode cm_40 21 = .ok (.istore 5, 2) := by decide +kernel
theorem dm_40_23 : decode cm_40 23 = .ok (.iload_n 3, 1) := by decide +kernel
theorem dm_40_24 : decode cm_40 24 = .ok (.invokestatic 90, 3) := by decide +kernel
theorem dm_40_27 : decode cm_40 27 = .ok (.istore 6, 2) := by decide +kernel
theorem dm_40_29 : decode cm_40 29 = .ok (.iload_n 3, 1) := by decide +kernel
theorem dm_40_30 : decode cm_40 30 = .ok (.invokestatic 93, 3) := by decide +kernel
theorem dm_40_33 : decode cm_40 33 = .ok (.istore 7, 2) := by decide +kernel
theorem dm_40_35 : decode cm_40 35 = .ok (.aload_n 1, 1) := by decide +kernel
theorem dm_40_36 : decode cm_40 36 = .ok (.getfield 96, 3) := by decide +kernel
theorem dm_40_39 : decode cm_40 39 = .ok (.astore 8, 2) := by decide +kernel
theorem dm_40_41 : decode cm_40 41 = .ok (.aload_n 1, 1) := by decide +kernel
theorem dm_40_42 : decode cm_40 42 = .ok (.iload_n 2, 1) := by decide +kernel
theorem dm_40_43 : decode cm_40 43 = .ok (.iconst 1, 1) := by decide +kernel
theorem dm_40_44 : decode cm_40 44 = .ok (.iadd, 1) := by decide +kernel
theorem dm_40_45 : decode cm_40 45 = .ok (.putfield 76, 3) := by decide +kernel
theorem dm_40_48 : decode cm_40 48 = .ok (.iload 4, 2) := by decide +kernel
theorem dm_40_50 : decode cm_40 50 = .ok (.tableswitch 181 0 15 #[172, 181, 181, 181, 181, 181, 181, 181, 78, 98, 118, 118, 118, 149, 161, 172], 78) := by decide +kernel
theorem dm_40_128 : decode cm_40 128 = .ok (.aload 8, 2) := by decide +kernel
theorem dm_40_130 : decode cm_40 130 = .ok (.iload 5, 2) := by decide +kernel
theorem dm_40_132 : decode cm_40 132 = .ok (.aload_n 0, 1) := by decide +kernel
theorem dm_40_133 : decode cm_40 133 = .ok (.aload 8, 2) := by decide +kernel
theorem dm_40_135 : decode cm_40 135 = .ok (.iload 6, 2) := by decide +kernel
theorem dm_40_137 : decode cm_40 137 = .ok (.iaload, 1) := by decide +kernel
theorem dm_40_138 : decode cm_40 138 = .ok (.iload 7, 2) := by decide +kernel
theorem dm_40_140 : decode cm_40 140 = .ok (.iadd, 1) := by decide +kernel
theorem dm_40_141 : decode cm_40 141 = .ok (.invokevirtual 79, 3) := by decide +kernel
theorem dm_40_144 : decode cm_40 144 = .ok (.iastore, 1) := by decide +kernel
theorem dm_40_145 : decode cm_40 145 = .ok (.goto 108, 3) := by decide +kernel
theorem dm_40_148 : decode cm_40 148 = .ok (.aload_n 0, 1) := by decide +kernel
theorem dm_40_149 : decode cm_40 149 = .ok (.aload 8, 2) := by decide +kernel
theorem dm_40_151 : decode cm_40 151 = .ok (.iload 6, 2) := by decide +kernel
theorem dm_40_153 : decode cm_40 153 = .ok (.iaload, 1) := by decide +kernel
theorem dm_40_154 : decode cm_40 154 = .ok (.iload 7, 2) := by decide +kernel
theorem dm_40_156 : decode cm_40 156 = .ok (.iadd, 1) := by decide +kernel
theorem dm_40_157 : decode cm_40 157 = .ok (.aload 8, 2) := by decide +kernel
theorem dm_40_159 : decode cm_40 159 = .ok (.iload 5, 2) := by decide +kernel
theorem dm_40_161 : decode cm_40 161 = .ok (.iaload, 1) := by decide +kernel
theorem dm_40_162 : decode cm_40 162 = .ok (.invokevirtual 39, 3) := by decide +kernel
theorem dm_40_165 : decode cm_40 165 = .ok (.goto 88, 3) := by decide +kernel
theorem dm_40_168 : decode cm_40 168 = .ok (.iload 4, 2) := by decide +kernel
theorem dm_40_170 : decode cm_40 170 = .ok (.aload 8, 2) := by decide +kernel
theorem dm_40_172 : decode cm_40 172 = .ok (.iload 5, 2) := by decide +kernel
theorem dm_40_174 : decode cm_40 174 = .ok (.iaload, 1) := by decide +kernel
theorem dm_40_175 : decode cm_40 175 = .ok (.aload 8, 2) := by decide +kernel
theorem dm_40_177 : decode cm_40 177 = .ok (.iload 6, 2) := by decide +kernel
theorem dm_40_179 : decode cm_40 179 = .ok (.iaload, 1) := by decide +kernel
theorem dm_40_180 : decode cm_40 180 = .ok (.invokestatic 99, 3) := by decide +kernel
theorem dm_40_183 : decode cm_40 183 = .ok (.ifCond .eq 70, 3) := by decide +kernel
theorem dm_40_186 : decode cm_40 186 = .ok (.aload_n 1, 1) := by decide +kernel
theorem dm_40_187 : decode cm_40 187 = .ok (.iload_n 2, 1) := by decide +kernel
theorem dm_40_188 : decode cm_40 188 = .ok (.iconst 1, 1) := by decide +kernel
theorem dm_40_189 : decode cm_40 189 = .ok (.iadd, 1) := by decide +kernel
theorem dm_40_190 : decode cm_40 190 = .ok (.iload 7, 2) := by decide +kernel
theorem dm_40_192 : decode cm_40 192 = .ok (.iadd, 1) := by decide +kernel
theorem dm_40_193 : decode cm_40 193 = .ok (.putfield 76, 3) := by decide +kernel
theorem dm_40_196 : decode cm_40 196 = .ok (.goto 57, 3) := by decide +kernel
theorem dm_40_199 : decode cm_40 199 = .ok (.aload_n 1, 1) := by decide +kernel
theorem dm_40_200 : decode cm_40 200 = .ok (.aload 8, 2) := by decide +kernel
theorem dm_40_202 : decode cm_40 202 = .ok (.iload 5, 2) := by decide +kernel
theorem dm_40_204 : decode cm_40 204 = .ok (.iaload, 1) := by decide +kernel
theorem dm_40_205 : decode cm_40 205 = .ok (.putfield 76, 3) := by decide +kernel
theorem dm_40_208 : decode cm_40 208 = .ok (.goto 45, 3) := by decide +kernel
theorem dm_40_211 : decode cm_40 211 = .ok (.aload_n 0, 1) := by decide +kernel
theorem dm_40_212 : decode cm_40 212 = .ok (.aload_n 1, 1) := by decide +kernel
theorem dm_40_213 : decode cm_40 213 = .ok (.iload 7, 2) := by decide +kernel
theorem dm_40_215 : decode cm_40 215 = .ok (.iload_n 2, 1) := by decide +kernel
theorem dm_40_216 : decode cm_40 216 = .ok (.invokevirtual 103, 3) := by decide +kernel
theorem dm_40_219 : decode cm_40 219 = .ok (.goto 34, 3) := by decide +kernel
theorem dm_40_222 : decode cm_40 222 = .ok (.aload_n 1, 1) := by decide +kernel
theorem dm_40_223 : decode cm_40 223 = .ok (.iconst 3, 1) := by decide +kernel
theorem dm_40_224 : decode cm_40 224 = .ok (.iload_n 2, 1) := by decide +kernel
theorem dm_40_225 : decode cm_40 225 = .ok (.invokevirtual 107, 3) := by decide +kernel
theorem dm_40_228 : decode cm_40 228 = .ok (.goto 25, 3) := by decide +kernel
theorem dm_40_231 : decode cm_40 231 = .ok (.aload 8, 2) := by decide +kernel
theorem dm_40_233 : decode cm_40 233 = .ok (.iload 5, 2) := by decide +kernel
theorem dm_40_235 : decode cm_40 235 = .ok (.iload 4, 2) := by decide +kernel
theorem dm_40_237 : decode cm_40 237 = .ok (.aload 8, 2) := by decide +kernel
theorem dm_40_239 : decode cm_40 239 = .ok (.iload 5, 2) := by decide +kernel
theorem dm_40_241 : decode cm_40 241 = .ok (.iaload, 1) := by decide +kernel
theorem dm_40_242 : decode cm_40 242 = .ok (.aload 8, 2) := by decide +kernel
theorem dm_40_244 : decode cm_40 244 = .ok (.iload 6, 2) := by decide +kernel
theorem dm_40_246 : decode cm_40 246 = .ok (.iaload, 1) := by decide +kernel
theorem dm_40_247 : decode cm_40 247 = .ok (.iload 7, 2) := by decide +kernel
theorem dm_40_249 : decode cm_40 249 = .ok (.invokestatic 110, 3) := by decide +kernel
theorem dm_40_252 : decode cm_40 252 = .ok (.iastore, 1) := by decide +kernel
theorem dm_40_253 : decode cm_40 253 = .ok (.return_, 1) := by decide +kernel
theorem dm_41_0 : decode cm_41 0 = .ok (.aload_n 1, 1) := by decide +kernel
theorem dm_41_1 : decode cm_41 1 = .ok (.getfield 96, 3) := by decide +kernel
theorem dm_41_4 : decode cm_41 4 = .ok (.astore 4, 2) := by decide +kernel
theorem dm_41_6 : decode cm_41 6 = .ok (.aload_n 1, 1) := by decide +kernel
theorem dm_41_7 : decode cm_41 7 = .ok (.getfield 114, 3) := by decide +kernel
theorem dm_41_10 : decode cm_41 10 = .ok (.iload_n 2, 1) := by decide +kernel
theorem dm_41_11 : decode cm_41 11 = .ok (.aload 4, 2) := by decide +kernel
theorem dm_41_13 : decode cm_41 13 = .ok (.iconst 1, 1) := by decide +kernel
theorem dm_41_14 : decode cm_41 14 = .ok (.iaload, 1) := by decide +kernel
theorem dm_41_15 : decode cm_41 15 = .ok (.aload 4, 2) := by decide +kernel
theorem dm_41_17 : decode cm_41 17 = .ok (.iconst 2, 1) := by decide +kernel
theorem dm_41_18 : decode cm_41 18 = .ok (.iaload, 1) := by decide +kernel
theorem dm_41_19 : decode cm_41 19 = .ok (.invokevirtual 118, 3) := by decide +kernel
theorem dm_41_22 : decode cm_41 22 = .ok (.iload_n 2, 1) := by decide +kernel
theorem dm_41_23 : decode cm_41 23 = .ok (.tableswitch 149 0 6 #[41, 50, 66, 81, 99, 119, 138], 41) := by decide +kernel
theorem dm_41_64 : decode cm_41 64 = .ok (.aload_n 1, 1) := by decide +kernel
theorem dm_41_65 : decode cm_41 65 = .ok (.iconst 2, 1) := by decide +kernel
theorem dm_41_66 : decode cm_41 66 = .ok (.iload_n 3, 1) := by decide +kernel
theorem dm_41_67 : decode cm_41 67 = .ok (.invokevirtual 107, 3) := by decide +kernel
theorem dm_41_70 : decode cm_41 70 = .ok (.goto 102, 3) := by decide +kernel
theorem dm_41_73 : decode cm_41 73 = .ok (.aload_n 1, 1) := by decide +kernel
theorem dm_41_74 : decode cm_41 74 = .ok (.aload 4, 2) := by decide +kernel
theorem dm_41_76 : decode cm_41 76 = .ok (.iconst 1, 1) := by decide +kernel
theorem dm_41_77 : decode cm_41 77 = .ok (.iaload, 1) := by decide +kernel
theorem dm_41_78 : decode cm_41 78 = .ok (.invokevirtual 124, 3) := by decide +kernel
theorem dm_41_81 : decode cm_41 81 = .ok (.aload 4, 2) := by decide +kernel
theorem dm_41_83 : decode cm_41 83 = .ok (.iconst 1, 1) := by decide +kernel
theorem dm_41_84 : decode cm_41 84 = .ok (.iconst 0, 1) := by decide +kernel
theorem dm_41_85 : decode cm_41 85 = .ok (.iastore, 1) := by decide +kernel
theorem dm_41_86 : decode cm_41 86 = .ok (.goto 86, 3) := by decide +kernel
theorem dm_41_89 : decode cm_41 89 = .ok (.aload 4, 2) := by decide +kernel
theorem dm_41_91 : decode cm_41 91 = .ok (.iconst 1, 1) := by decide +kernel
theorem dm_41_92 : decode cm_41 92 = .ok (.aload_n 1, 1) := by decide +kernel
theorem dm_41_93 : decode cm_41 93 = .ok (.getfield 114, 3) := by decide +kernel
theorem dm_41_96 : decode cm_41 96 = .ok (.aload_n 1, 1) := by decide +kernel
theorem dm_41_97 : decode cm_41 97 = .ok (.invokevirtual 127, 3) := by decide +kernel
theorem dm_41_100 : decode cm_41 100 = .ok (.iastore, 1) := by decide +kernel
theorem dm_41_101 : decode cm_41 101 = .ok (.goto 71, 3) := by decide +kernel
theorem dm_41_104 : decode cm_41 104 = .ok (.aload 4, 2) := by decide +kernel
theorem dm_41_106 : decode cm_41 106 = .ok (.iconst 1, 1) := by decide +kernel
theorem dm_41_107 : decode cm_41 107 = .ok (.aload_n 1, 1) := by decide +kernel
theorem dm_41_108 : decode cm_41 108 = .ok (.getfield 114, 3) := by decide +kernel
theorem dm_41_111 : decode cm_41 111 = .ok (.aload 4, 2) := by decide +kernel
theorem dm_41_113 : decode cm_41 113 = .ok (.iconst 1, 1) := by decide +kernel
theorem dm_41_114 : decode cm_41 114 = .ok (.iaload, 1) := by decide +kernel
theorem dm_41_115 : decode cm_41 115 = .ok (.invokevirtual 131, 3) := by decide +kernel
theorem dm_41_118 : decode cm_41 118 = .ok (.iastore, 1) := by decide +kernel
theorem dm_41_119 : decode cm_41 119 = .ok (.goto 53, 3) := by decide +kernel
theorem dm_41_122 : decode cm_41 122 = .ok (.aload 4, 2) := by decide +kernel
theorem dm_41_124 : decode cm_41 124 = .ok (.iconst 1, 1) := by decide +kernel
theorem dm_41_125 : decode cm_41 125 = .ok (.aload_n 0, 1) := by decide +kernel
theorem dm_41_126 : decode cm_41 126 = .ok (.aload_n 1, 1) := by decide +kernel
theorem dm_41_127 : decode cm_41 127 = .ok (.aload 4, 2) := by decide +kernel
theorem dm_41_129 : decode cm_41 129 = .ok (.iconst 1, 1) := by decide +kernel
theorem dm_41_130 : decode cm_41 130 = .ok (.iaload, 1) := by decide +kernel
theorem dm_41_131 : decode cm_41 131 = .ok (.aload 4, 2) := by decide +kernel
theorem dm_41_133 : decode cm_41 133 = .ok (.iconst 2, 1) := by decide +kernel
theorem dm_41_134 : decode cm_41 134 = .ok (.iaload, 1) := by decide +kernel
theorem dm_41_135 : decode cm_41 135 = .ok (.invokevirtual 134, 3) := by decide +kernel
theorem dm_41_138 : decode cm_41 138 = .ok (.iastore, 1) := by decide +kernel
theorem dm_41_139 : decode cm_41 139 = .ok (.goto 33, 3) := by decide +kernel
theorem dm_41_142 : decode cm_41 142 = .ok (.aload 4, 2) := by decide +kernel
theorem dm_41_144 : decode cm_41 144 = .ok (.iconst 1, 1) := by decide +kernel
theorem dm_41_145 : decode cm_41 145 = .ok (.aload_n 0, 1) := by decide +kernel
theorem dm_41_146 : decode cm_41 146 = .ok (.aload 4, 2) := by decide +kernel
theorem dm_41_148 : decode cm_41 148 = .ok (.iconst 1, 1) := by decide +kernel
theorem dm_41_149 : decode cm_41 149 = .ok (.iaload, 1) := by decide +kernel
theorem dm_41_150 : decode cm_41 150 = .ok (.aload 4, 2) := by decide +kernel
theorem dm_41_152 : decode cm_41 152 = .ok (.iconst 2, 1) := by decide +kernel
theorem dm_41_153 : decode cm_41 153 = .ok (.iaload, 1) := by decide +kernel
theorem dm_41_154 : decode cm_41 154 = .ok (.invokevirtual 138, 3) := by decide +kernel
theorem dm_41_157 : decode cm_41 157 = .ok (.iastore, 1) := by decide +kernel
theorem dm_41_158 : decode cm_41 158 = .ok (.goto 14, 3) := by decide +kernel
theorem dm_41_161 : decode cm_41 161 = .ok (.aload 4, 2) := by decide +kernel
theorem dm_41_163 : decode cm_41 163 = .ok (.iconst 1, 1) := by decide +kernel
theorem dm_41_164 : decode cm_41 164 = .ok (.aload_n 1, 1) := by decide +kernel
theorem dm_41_165 : decode cm_41 165 = .ok (.invokevirtual 142, 3) := by decide +kernel
theorem dm_41_168 : decode cm_41 168 = .ok (.iastore, 1) := by decide +kernel
theorem dm_41_169 : decode cm_41 169 = .ok (.goto 3, 3) := by decide +kernel
theorem dm_41_172 : decode cm_41 172 = .ok (.return_, 1) := by decide +kernel
theorem dm_42_0 : decode cm_42 0 = .ok (.iload_n 2, 1) := by decide +kernel
theorem dm_42_1 : decode cm_42 1 = .ok (.iload_n 3, 1) := by decide +kernel
theorem dm_42_2 : decode cm_42 2 = .ok (.invokestatic 146, 3) := by decide +kernel
theorem dm_42_5 : decode cm_42 5 = .ok (.ifCond .ne 5, 3) := by decide +kernel
theorem dm_42_8 : decode cm_42 8 = .ok (.iconst (-1), 1) := by decide +kernel
theorem dm_42_9 : decode cm_42 9 = .ok (.ireturn, 1) := by decide +kernel
theorem dm_42_10 : decode cm_42 10 = .ok (.iconst 0, 1) := by decide +kernel
theorem dm_42_11 : decode cm_42 11 = .ok (.istore 4, 2) := by decide +kernel
theorem dm_42_13 : decode cm_42 13 = .ok (.iload 4, 2) := by decide +kernel
theorem dm_42_15 : decode cm_42 15 = .ok (.iload_n 3, 1) := by decide +kernel
theorem dm_42_16 : decode cm_42 16 = .ok (.if_icmp .ge 29, 3) := by decide +kernel
theorem dm_42_19 : decode cm_42 19 = .ok (.aload_n 1, 1) := by decide +kernel
theorem dm_42_20 : decode cm_42 20 = .ok (.aload_n 0, 1) := by decide +kernel
theorem dm_42_21 : decode cm_42 21 = .ok (.aload_n 1, 1) := by decide +kernel
theorem dm_42_22 : decode cm_42 22 = .ok (.getfield 150, 3) := by decide +kernel
theorem dm_42_25 : decode cm_42 25 = .ok (.invokestatic 43, 3) := by decide +kernel
theorem dm_42_28 : decode cm_42 28 = .ok (.iload_n 2, 1) := by decide +kernel
theorem dm_42_29 : decode cm_42 29 = .ok (.iadd, 1) := by decide +kernel
theorem dm_42_30 : decode cm_42 30 = .ok (.iload 4, 2) := by decide +kernel
theorem dm_42_32 : decode cm_42 32 = .ok (.iadd, 1) := by decide +kernel
theorem dm_42_33 : decode cm_42 33 = .ok (.invokevirtual 79, 3) := by decide +kernel
end
section
theorem dm_42_36 : decode cm_42 36 = .ok (.invokevirtual 124, 3) := by decide +kernel
theorem dm_42_39 : decode cm_42 39 = .ok (.iinc 4 1, 3) := by decide +kernel
theorem dm_42_42 : decode cm_42 42 = .ok (.goto (-29), 3) := by decide +kernel
theorem dm_42_45 : decode cm_42 45 = .ok (.iload_n 3, 1) := by decide +kernel
theorem dm_42_46 : decode cm_42 46 = .ok (.ireturn, 1) := by decide +kernel
theorem dm_43_0 : decode cm_43 0 = .ok (.aload_n 0, 1) := by decide +kernel
theorem dm_43_1 : decode cm_43 1 = .ok (.iload_n 1, 1) := by decide +kernel
theorem dm_43_2 : decode cm_43 2 = .ok (.invokevirtual 26, 3) := by decide +kernel
theorem dm_43_5 : decode cm_43 5 = .ok (.astore_n 3, 1) := by decide +kernel
theorem dm_43_6 : decode cm_43 6 = .ok (.aload_n 3, 1) := by decide +kernel
theorem dm_43_7 : decode cm_43 7 = .ok (.ifnull 22, 3) := by decide +kernel
theorem dm_43_10 : decode cm_43 10 = .ok (.aload_n 3, 1) := by decide +kernel
theorem dm_43_11 : decode cm_43 11 = .ok (.getfield 67, 3) := by decide +kernel
theorem dm_43_14 : decode cm_43 14 = .ok (.ifCond .eq 15, 3) := by decide +kernel
theorem dm_43_17 : decode cm_43 17 = .ok (.aload_n 3, 1) := by decide +kernel
theorem dm_43_18 : decode cm_43 18 = .ok (.iload_n 2, 1) := by decide +kernel
theorem dm_43_19 : decode cm_43 19 = .ok (.invokevirtual 153, 3) := by decide +kernel
theorem dm_43_22 : decode cm_43 22 = .ok (.ifCond .eq 7, 3) := by decide +kernel
theorem dm_43_25 : decode cm_43 25 = .ok (.iconst 0, 1) := by decide +kernel
theorem dm_43_26 : decode cm_43 26 = .ok (.goto 4, 3) := by decide +kernel
theorem dm_43_29 : decode cm_43 29 = .ok (.iconst (-1), 1) := by decide +kernel
theorem dm_43_30 : decode cm_43 30 = .ok (.ireturn, 1) := by decide +kernel
theorem dm_44_0 : decode cm_44 0 = .ok (.aload_n 0, 1) := by decide +kernel
theorem dm_44_1 : decode cm_44 1 = .ok (.invokespecial 1, 3) := by decide +kernel
theorem dm_44_4 : decode cm_44 4 = .ok (.aload_n 0, 1) := by decide +kernel
theorem dm_44_5 : decode cm_44 5 = .ok (.bipush 8, 2) := by decide +kernel
theorem dm_44_7 : decode cm_44 7 = .ok (.newarray .int, 2) := by decide +kernel
theorem dm_44_9 : decode cm_44 9 = .ok (.putfield 9, 3) := by decide +kernel
theorem dm_44_12 : decode cm_44 12 = .ok (.aload_n 0, 1) := by decide +kernel
theorem dm_44_13 : decode cm_44 13 = .ok (.bipush 12, 2) := by decide +kernel
theorem dm_44_15 : decode cm_44 15 = .ok (.newarray .int, 2) := by decide +kernel
theorem dm_44_17 : decode cm_44 17 = .ok (.putfield 13, 3) := by decide +kernel
theorem dm_44_20 : decode cm_44 20 = .ok (.aload_n 0, 1) := by decide +kernel
theorem dm_44_21 : decode cm_44 21 = .ok (.new 16, 3) := by decide +kernel
theorem dm_44_24 : decode cm_44 24 = .ok (.dup, 1) := by decide +kernel
theorem dm_44_25 : decode cm_44 25 = .ok (.invokespecial 18, 3) := by decide +kernel
theorem dm_44_28 : decode cm_44 28 = .ok (.putfield 19, 3) := by decide +kernel
theorem dm_44_31 : decode cm_44 31 = .ok (.aload_n 0, 1) := by decide +kernel
theorem dm_44_32 : decode cm_44 32 = .ok (.iconst 4, 1) := by decide +kernel
theorem dm_44_33 : decode cm_44 33 = .ok (.newarray .int, 2) := by decide +kernel
theorem dm_44_35 : decode cm_44 35 = .ok (.putfield 23, 3) := by decide +kernel
theorem dm_44_38 : decode cm_44 38 = .ok (.aload_n 0, 1) := by decide +kernel
theorem dm_44_39 : decode cm_44 39 = .ok (.bipush 8, 2) := by decide +kernel
theorem dm_44_41 : decode cm_44 41 = .ok (.newarray .int, 2) := by decide +kernel
theorem dm_44_43 : decode cm_44 43 = .ok (.putfield 26, 3) := by decide +kernel
theorem dm_44_46 : decode cm_44 46 = .ok (.aload_n 0, 1) := by decide +kernel
theorem dm_44_47 : decode cm_44 47 = .ok (.iload_n 1, 1) := by decide +kernel
theorem dm_44_48 : decode cm_44 48 = .ok (.putfield 29, 3) := by decide +kernel
theorem dm_44_51 : decode cm_44 51 = .ok (.return_, 1) := by decide +kernel
theorem dm_45_0 : decode cm_45 0 = .ok (.iload_n 0, 1) := by decide +kernel
theorem dm_45_1 : decode cm_45 1 = .ok (.ifCond .lt 12, 3) := by decide +kernel
theorem dm_45_4 : decode cm_45 4 = .ok (.iload_n 0, 1) := by decide +kernel
theorem dm_45_5 : decode cm_45 5 = .ok (.iconst 3, 1) := by decide +kernel
theorem dm_45_6 : decode cm_45 6 = .ok (.if_icmp .ge 7, 3) := by decide +kernel
theorem dm_45_9 : decode cm_45 9 = .ok (.iconst 1, 1) := by decide +kernel
theorem dm_45_10 : decode cm_45 10 = .ok (.goto 4, 3) := by decide +kernel
theorem dm_45_13 : decode cm_45 13 = .ok (.iconst 0, 1) := by decide +kernel
theorem dm_45_14 : decode cm_45 14 = .ok (.ireturn, 1) := by decide +kernel
theorem dm_46_0 : decode cm_46 0 = .ok (.bipush 16, 2) := by decide +kernel
theorem dm_46_2 : decode cm_46 2 = .ok (.iload_n 0, 1) := by decide +kernel
theorem dm_46_3 : decode cm_46 3 = .ok (.imul, 1) := by decide +kernel
theorem dm_46_4 : decode cm_46 4 = .ok (.ireturn, 1) := by decide +kernel
theorem dm_47_0 : decode cm_47 0 = .ok (.bipush 64, 2) := by decide +kernel
theorem dm_47_2 : decode cm_47 2 = .ok (.bipush 32, 2) := by decide +kernel
theorem dm_47_4 : decode cm_47 4 = .ok (.iload_n 0, 1) := by decide +kernel
theorem dm_47_5 : decode cm_47 5 = .ok (.imul, 1) := by decide +kernel
theorem dm_47_6 : decode cm_47 6 = .ok (.iadd, 1) := by decide +kernel
theorem dm_47_7 : decode cm_47 7 = .ok (.ireturn, 1) := by decide +kernel
theorem dm_48_0 : decode cm_48 0 = .ok (.aload_n 0, 1) := by decide +kernel
theorem dm_48_1 : decode cm_48 1 = .ok (.getfield 9, 3) := by decide +kernel
theorem dm_48_4 : decode cm_48 4 = .ok (.iconst 0, 1) := by decide +kernel
theorem dm_48_5 : decode cm_48 5 = .ok (.invokestatic 33, 3) := by decide +kernel
theorem dm_48_8 : decode cm_48 8 = .ok (.aload_n 0, 1) := by decide +kernel
theorem dm_48_9 : decode cm_48 9 = .ok (.getfield 9, 3) := by decide +kernel
theorem dm_48_12 : decode cm_48 12 = .ok (.bipush 6, 2) := by decide +kernel
theorem dm_48_14 : decode cm_48 14 = .ok (.aload_n 0, 1) := by decide +kernel
theorem dm_48_15 : decode cm_48 15 = .ok (.getfield 29, 3) := by decide +kernel
theorem dm_48_18 : decode cm_48 18 = .ok (.invokestatic 39, 3) := by decide +kernel
theorem dm_48_21 : decode cm_48 21 = .ok (.iastore, 1) := by decide +kernel
theorem dm_48_22 : decode cm_48 22 = .ok (.aload_n 0, 1) := by decide +kernel
theorem dm_48_23 : decode cm_48 23 = .ok (.getfield 9, 3) := by decide +kernel
theorem dm_48_26 : decode cm_48 26 = .ok (.bipush 7, 2) := by decide +kernel
theorem dm_48_28 : decode cm_48 28 = .ok (.aload_n 0, 1) := by decide +kernel
theorem dm_48_29 : decode cm_48 29 = .ok (.getfield 29, 3) := by decide +kernel
theorem dm_48_32 : decode cm_48 32 = .ok (.invokestatic 43, 3) := by decide +kernel
theorem dm_48_35 : decode cm_48 35 = .ok (.iastore, 1) := by decide +kernel
theorem dm_48_36 : decode cm_48 36 = .ok (.aload_n 0, 1) := by decide +kernel
theorem dm_48_37 : decode cm_48 37 = .ok (.aload_n 0, 1) := by decide +kernel
theorem dm_48_38 : decode cm_48 38 = .ok (.getfield 29, 3) := by decide +kernel
theorem dm_48_41 : decode cm_48 41 = .ok (.invokestatic 43, 3) := by decide +kernel
theorem dm_48_44 : decode cm_48 44 = .ok (.putfield 46, 3) := by decide +kernel
theorem dm_48_47 : decode cm_48 47 = .ok (.aload_n 0, 1) := by decide +kernel
theorem dm_48_48 : decode cm_48 48 = .ok (.iconst 1, 1) := by decide +kernel
theorem dm_48_49 : decode cm_48 49 = .ok (.putfield 49, 3) := by decide +kernel
theorem dm_48_52 : decode cm_48 52 = .ok (.aload_n 0, 1) := by decide +kernel
theorem dm_48_53 : decode cm_48 53 = .ok (.iconst 0, 1) := by decide +kernel
theorem dm_48_54 : decode cm_48 54 = .ok (.putfield 52, 3) := by decide +kernel
theorem dm_48_57 : decode cm_48 57 = .ok (.aload_n 0, 1) := by decide +kernel
theorem dm_48_58 : decode cm_48 58 = .ok (.iconst 0, 1) := by decide +kernel
theorem dm_48_59 : decode cm_48 59 = .ok (.putfield 55, 3) := by decide +kernel
theorem dm_48_62 : decode cm_48 62 = .ok (.aload_n 0, 1) := by decide +kernel
theorem dm_48_63 : decode cm_48 63 = .ok (.iconst 0, 1) := by decide +kernel
theorem dm_48_64 : decode cm_48 64 = .ok (.putfield 58, 3) := by decide +kernel
theorem dm_48_67 : decode cm_48 67 = .ok (.aload_n 0, 1) := by decide +kernel
theorem dm_48_68 : decode cm_48 68 = .ok (.getfield 19, 3) := by decide +kernel
theorem dm_48_71 : decode cm_48 71 = .ok (.invokevirtual 61, 3) := by decide +kernel
theorem dm_48_74 : decode cm_48 74 = .ok (.return_, 1) := by decide +kernel
theorem dm_49_0 : decode cm_49 0 = .ok (.aload_n 0, 1) := by decide +kernel
theorem dm_49_1 : decode cm_49 1 = .ok (.iload_n 1, 1) := by decide +kernel
theorem dm_49_2 : decode cm_49 2 = .ok (.putfield 49, 3) := by decide +kernel
theorem dm_49_5 : decode cm_49 5 = .ok (.aload_n 0, 1) := by decide +kernel
theorem dm_49_6 : decode cm_49 6 = .ok (.iload_n 2, 1) := by decide +kernel
theorem dm_49_7 : decode cm_49 7 = .ok (.putfield 46, 3) := by decide +kernel
theorem dm_49_10 : decode cm_49 10 = .ok (.return_, 1) := by decide +kernel
theorem dm_50_0 : decode cm_50 0 = .ok (.aload_n 0, 1) := by decide +kernel
theorem dm_50_1 : decode cm_50 1 = .ok (.getfield 52, 3) := by decide +kernel
theorem dm_50_4 : decode cm_50 4 = .ok (.bipush 12, 2) := by decide +kernel
theorem dm_50_6 : decode cm_50 6 = .ok (.if_icmp .lt 5, 3) := by decide +kernel
theorem dm_50_9 : decode cm_50 9 = .ok (.iconst 0, 1) := by decide +kernel
theorem dm_50_10 : decode cm_50 10 = .ok (.ireturn, 1) := by decide +kernel
theorem dm_50_11 : decode cm_50 11 = .ok (.aload_n 0, 1) := by decide +kernel
theorem dm_50_12 : decode cm_50 12 = .ok (.getfield 13, 3) := by decide +kernel
theorem dm_50_15 : decode cm_50 15 = .ok (.aload_n 0, 1) := by decide +kernel
theorem dm_50_16 : decode cm_50 16 = .ok (.getfield 52, 3) := by decide +kernel
theorem dm_50_19 : decode cm_50 19 = .ok (.iload_n 1, 1) := by decide +kernel
theorem dm_50_20 : decode cm_50 20 = .ok (.iastore, 1) := by decide +kernel
theorem dm_50_21 : decode cm_50 21 = .ok (.aload_n 0, 1) := by decide +kernel
theorem dm_50_22 : decode cm_50 22 = .ok (.dup, 1) := by decide +kernel
theorem dm_50_23 : decode cm_50 23 = .ok (.getfield 52, 3) := by decide +kernel
theorem dm_50_26 : decode cm_50 26 = .ok (.iconst 1, 1) := by decide +kernel
theorem dm_50_27 : decode cm_50 27 = .ok (.iadd, 1) := by decide +kernel
theorem dm_50_28 : decode cm_50 28 = .ok (.putfield 52, 3) := by decide +kernel
theorem dm_50_31 : decode cm_50 31 = .ok (.iconst 1, 1) := by decide +kernel
theorem dm_50_32 : decode cm_50 32 = .ok (.ireturn, 1) := by decide +kernel
theorem dm_51_0 : decode cm_51 0 = .ok (.aload_n 0, 1) := by decide +kernel
theorem dm_51_1 : decode cm_51 1 = .ok (.getfield 55, 3) := by decide +kernel
theorem dm_51_4 : decode cm_51 4 = .ok (.iconst 4, 1) := by decide +kernel
theorem dm_51_5 : decode cm_51 5 = .ok (.if_icmp .lt 5, 3) := by decide +kernel
theorem dm_51_8 : decode cm_51 8 = .ok (.iconst 0, 1) := by decide +kernel
theorem dm_51_9 : decode cm_51 9 = .ok (.ireturn, 1) := by decide +kernel
theorem dm_51_10 : decode cm_51 10 = .ok (.aload_n 0, 1) := by decide +kernel
theorem dm_51_11 : decode cm_51 11 = .ok (.getfield 23, 3) := by decide +kernel
theorem dm_51_14 : decode cm_51 14 = .ok (.aload_n 0, 1) := by decide +kernel
theorem dm_51_15 : decode cm_51 15 = .ok (.getfield 55, 3) := by decide +kernel
theorem dm_51_18 : decode cm_51 18 = .ok (.iload_n 1, 1) := by decide +kernel
theorem dm_51_19 : decode cm_51 19 = .ok (.iastore, 1) := by decide +kernel
theorem dm_51_20 : decode cm_51 20 = .ok (.aload_n 0, 1) := by decide +kernel
theorem dm_51_21 : decode cm_51 21 = .ok (.dup, 1) := by decide +kernel
theorem dm_51_22 : decode cm_51 22 = .ok (.getfield 55, 3) := by decide +kernel
theorem dm_51_25 : decode cm_51 25 = .ok (.iconst 1, 1) := by decide +kernel
theorem dm_51_26 : decode cm_51 26 = .ok (.iadd, 1) := by decide +kernel
theorem dm_51_27 : decode cm_51 27 = .ok (.putfield 55, 3) := by decide +kernel
theorem dm_51_30 : decode cm_51 30 = .ok (.iconst 1, 1) := by decide +kernel
theorem dm_51_31 : decode cm_51 31 = .ok (.ireturn, 1) := by decide +kernel
theorem dm_52_0 : decode cm_52 0 = .ok (.aload_n 0, 1) := by decide +kernel
theorem dm_52_1 : decode cm_52 1 = .ok (.getfield 55, 3) := by decide +kernel
theorem dm_52_4 : decode cm_52 4 = .ok (.ifCond .gt 5, 3) := by decide +kernel
theorem dm_52_7 : decode cm_52 7 = .ok (.iconst (-1), 1) := by decide +kernel
theorem dm_52_8 : decode cm_52 8 = .ok (.ireturn, 1) := by decide +kernel
theorem dm_52_9 : decode cm_52 9 = .ok (.aload_n 0, 1) := by decide +kernel
theorem dm_52_10 : decode cm_52 10 = .ok (.getfield 23, 3) := by decide +kernel
theorem dm_52_13 : decode cm_52 13 = .ok (.iconst 0, 1) := by decide +kernel
theorem dm_52_14 : decode cm_52 14 = .ok (.iaload, 1) := by decide +kernel
theorem dm_52_15 : decode cm_52 15 = .ok (.istore_n 1, 1) := by decide +kernel
theorem dm_52_16 : decode cm_52 16 = .ok (.aload_n 0, 1) := by decide +kernel
theorem dm_52_17 : decode cm_52 17 = .ok (.dup, 1) := by decide +kernel
theorem dm_52_18 : decode cm_52 18 = .ok (.getfield 55, 3) := by decide +kernel
theorem dm_52_21 : decode cm_52 21 = .ok (.iconst 1, 1) := by decide +kernel
theorem dm_52_22 : decode cm_52 22 = .ok (.isub, 1) := by decide +kernel
theorem dm_52_23 : decode cm_52 23 = .ok (.putfield 55, 3) := by decide +kernel
theorem dm_52_26 : decode cm_52 26 = .ok (.iconst 0, 1) := by decide +kernel
theorem dm_52_27 : decode cm_52 27 = .ok (.istore_n 2, 1) := by decide +kernel
theorem dm_52_28 : decode cm_52 28 = .ok (.iload_n 2, 1) := by decide +kernel
theorem dm_52_29 : decode cm_52 29 = .ok (.aload_n 0, 1) := by decide +kernel
theorem dm_52_30 : decode cm_52 30 = .ok (.getfield 55, 3) := by decide +kernel
theorem dm_52_33 : decode cm_52 33 = .ok (.if_icmp .ge 23, 3) := by decide +kernel
theorem dm_52_36 : decode cm_52 36 = .ok (.aload_n 0, 1) := by decide +kernel
theorem dm_52_37 : decode cm_52 37 = .ok (.getfield 23, 3) := by decide +kernel
theorem dm_52_40 : decode cm_52 40 = .ok (.iload_n 2, 1) := by decide +kernel
theorem dm_52_41 : decode cm_52 41 = .ok (.aload_n 0, 1) := by decide +kernel
theorem dm_52_42 : decode cm_52 42 = .ok (.getfield 23, 3) := by decide +kernel
theorem dm_52_45 : decode cm_52 45 = .ok (.iload_n 2, 1) := by decide +kernel
theorem dm_52_46 : decode cm_52 46 = .ok (.iconst 1, 1) := by decide +kernel
theorem dm_52_47 : decode cm_52 47 = .ok (.iadd, 1) := by decide +kernel
theorem dm_52_48 : decode cm_52 48 = .ok (.iaload, 1) := by decide +kernel
theorem dm_52_49 : decode cm_52 49 = .ok (.iastore, 1) := by decide +kernel
theorem dm_52_50 : decode cm_52 50 = .ok (.iinc 2 1, 3) := by decide +kernel
theorem dm_52_53 : decode cm_52 53 = .ok (.goto (-25), 3) := by decide +kernel
theorem dm_52_56 : decode cm_52 56 = .ok (.iload_n 1, 1) := by decide +kernel
theorem dm_52_57 : decode cm_52 57 = .ok (.ireturn, 1) := by decide +kernel
theorem dm_53_0 : decode cm_53 0 = .ok (.aload_n 0, 1) := by decide +kernel
theorem dm_53_1 : decode cm_53 1 = .ok (.getfield 26, 3) := by decide +kernel
theorem dm_53_4 : decode cm_53 4 = .ok (.aload_n 0, 1) := by decide +kernel
theorem dm_53_5 : decode cm_53 5 = .ok (.getfield 58, 3) := by decide +kernel
theorem dm_53_8 : decode cm_53 8 = .ok (.bipush 7, 2) := by decide +kernel
theorem dm_53_10 : decode cm_53 10 = .ok (.iand, 1) := by decide +kernel
theorem dm_53_11 : decode cm_53 11 = .ok (.iload_n 1, 1) := by decide +kernel
theorem dm_53_12 : decode cm_53 12 = .ok (.iastore, 1) := by decide +kernel
theorem dm_53_13 : decode cm_53 13 = .ok (.aload_n 0, 1) := by decide +kernel
theorem dm_53_14 : decode cm_53 14 = .ok (.dup, 1) := by decide +kernel
theorem dm_53_15 : decode cm_53 15 = .ok (.getfield 58, 3) := by decide +kernel
theorem dm_53_18 : decode cm_53 18 = .ok (.iconst 1, 1) := by decide +kernel
theorem dm_53_19 : decode cm_53 19 = .ok (.iadd, 1) := by decide +kernel
theorem dm_53_20 : decode cm_53 20 = .ok (.putfield 58, 3) := by decide +kernel
theorem dm_53_23 : decode cm_53 23 = .ok (.return_, 1) := by decide +kernel
theorem dm_54_0 : decode cm_54 0 = .ok (.iload_n 1, 1) := by decide +kernel
theorem dm_54_1 : decode cm_54 1 = .ok (.iconst (-1), 1) := by decide +kernel
theorem dm_54_2 : decode cm_54 2 = .ok (.if_icmp .ne 8, 3) := by decide +kernel
theorem dm_54_5 : decode cm_54 5 = .ok (.aload_n 0, 1) := by decide +kernel
theorem dm_54_6 : decode cm_54 6 = .ok (.getfield 58, 3) := by decide +kernel
theorem dm_54_9 : decode cm_54 9 = .ok (.ireturn, 1) := by decide +kernel
theorem dm_54_10 : decode cm_54 10 = .ok (.iload_n 1, 1) := by decide +kernel
theorem dm_54_11 : decode cm_54 11 = .ok (.ifCond .lt 17, 3) := by decide +kernel
theorem dm_54_14 : decode cm_54 14 = .ok (.iload_n 1, 1) := by decide +kernel
theorem dm_54_15 : decode cm_54 15 = .ok (.bipush 8, 2) := by decide +kernel
theorem dm_54_17 : decode cm_54 17 = .ok (.if_icmp .ge 11, 3) := by decide +kernel
theorem dm_54_20 : decode cm_54 20 = .ok (.iload_n 1, 1) := by decide +kernel
theorem dm_54_21 : decode cm_54 21 = .ok (.aload_n 0, 1) := by decide +kernel
theorem dm_54_22 : decode cm_54 22 = .ok (.getfield 58, 3) := by decide +kernel
theorem dm_54_25 : decode cm_54 25 = .ok (.if_icmp .lt 5, 3) := by decide +kernel
theorem dm_54_28 : decode cm_54 28 = .ok (.iconst 0, 1) := by decide +kernel
theorem dm_54_29 : decode cm_54 29 = .ok (.ireturn, 1) := by decide +kernel
theorem dm_54_30 : decode cm_54 30 = .ok (.aload_n 0, 1) := by decide +kernel
theorem dm_54_31 : decode cm_54 31 = .ok (.getfield 26, 3) := by decide +kernel
theorem dm_54_34 : decode cm_54 34 = .ok (.aload_n 0, 1) := by decide +kernel
theorem dm_54_35 : decode cm_54 35 = .ok (.getfield 58, 3) := by decide +kernel
theorem dm_54_38 : decode cm_54 38 = .ok (.iconst 1, 1) := by decide +kernel
theorem dm_54_39 : decode cm_54 39 = .ok (.isub, 1) := by decide +kernel
theorem dm_54_40 : decode cm_54 40 = .ok (.iload_n 1, 1) := by decide +kernel
theorem dm_54_41 : decode cm_54 41 = .ok (.isub, 1) := by decide +kernel
theorem dm_54_42 : decode cm_54 42 = .ok (.bipush 7, 2) := by decide +kernel
theorem dm_54_44 : decode cm_54 44 = .ok (.iand, 1) := by decide +kernel
theorem dm_54_45 : decode cm_54 45 = .ok (.iaload, 1) := by decide +kernel
theorem dm_54_46 : decode cm_54 46 = .ok (.ireturn, 1) := by decide +kernel
theorem dm_55_0 : decode cm_55 0 = .ok (.aload_n 0, 1) := by decide +kernel
theorem dm_55_1 : decode cm_55 1 = .ok (.invokespecial 1, 3) := by decide +kernel
theorem dm_55_4 : decode cm_55 4 = .ok (.aload_n 0, 1) := by decide +kernel
theorem dm_55_5 : decode cm_55 5 = .ok (.bipush 24, 2) := by decide +kernel
theorem dm_55_7 : decode cm_55 7 = .ok (.newarray .int, 2) := by decide +kernel
theorem dm_55_9 : decode cm_55 9 = .ok (.putfield 9, 3) := by decide +kernel
theorem dm_55_12 : decode cm_55 12 = .ok (.aload_n 0, 1) := by decide +kernel
theorem dm_55_13 : decode cm_55 13 = .ok (.bipush 24, 2) := by decide +kernel
theorem dm_55_15 : decode cm_55 15 = .ok (.newarray .int, 2) := by decide +kernel
theorem dm_55_17 : decode cm_55 17 = .ok (.putfield 13, 3) := by decide +kernel
theorem dm_55_20 : decode cm_55 20 = .ok (.aload_n 0, 1) := by decide +kernel
theorem dm_55_21 : decode cm_55 21 = .ok (.bipush 24, 2) := by decide +kernel
theorem dm_55_23 : decode cm_55 23 = .ok (.newarray .int, 2) := by decide +kernel
theorem dm_55_25 : decode cm_55 25 = .ok (.putfield 16, 3) := by decide +kernel
theorem dm_55_28 : decode cm_55 28 = .ok (.aload_n 0, 1) := by decide +kernel
theorem dm_55_29 : decode cm_55 29 = .ok (.bipush 24, 2) := by decide +kernel
theorem dm_55_31 : decode cm_55 31 = .ok (.newarray .int, 2) := by decide +kernel
theorem dm_55_33 : decode cm_55 33 = .ok (.putfield 19, 3) := by decide +kernel
theorem dm_55_36 : decode cm_55 36 = .ok (.aload_n 0, 1) := by decide +kernel
theorem dm_55_37 : decode cm_55 37 = .ok (.bipush 8, 2) := by decide +kernel
theorem dm_55_39 : decode cm_55 39 = .ok (.newarray .int, 2) := by decide +kernel
theorem dm_55_41 : decode cm_55 41 = .ok (.putfield 22, 3) := by decide +kernel
theorem dm_55_44 : decode cm_55 44 = .ok (.aload_n 0, 1) := by decide +kernel
theorem dm_55_45 : decode cm_55 45 = .ok (.getfield 22, 3) := by decide +kernel
theorem dm_55_48 : decode cm_55 48 = .ok (.iconst (-1), 1) := by decide +kernel
theorem dm_55_49 : decode cm_55 49 = .ok (.invokestatic 25, 3) := by decide +kernel
theorem dm_55_52 : decode cm_55 52 = .ok (.return_, 1) := by decide +kernel
theorem dm_56_0 : decode cm_56 0 = .ok (.aload_n 0, 1) := by decide +kernel
theorem dm_56_1 : decode cm_56 1 = .ok (.iconst 0, 1) := by decide +kernel
theorem dm_56_2 : decode cm_56 2 = .ok (.putfield 31, 3) := by decide +kernel
theorem dm_56_5 : decode cm_56 5 = .ok (.aload_n 0, 1) := by decide +kernel
theorem dm_56_6 : decode cm_56 6 = .ok (.getfield 22, 3) := by decide +kernel
theorem dm_56_9 : decode cm_56 9 = .ok (.iconst (-1), 1) := by decide +kernel
theorem dm_56_10 : decode cm_56 10 = .ok (.invokestatic 25, 3) := by decide +kernel
theorem dm_56_13 : decode cm_56 13 = .ok (.return_, 1) := by decide +kernel
theorem dm_57_0 : decode cm_57 0 = .ok (.iload_n 1, 1) := by decide +kernel
theorem dm_57_1 : decode cm_57 1 = .ok (.ifCond .lt 29, 3) := by decide +kernel
theorem dm_57_4 : decode cm_57 4 = .ok (.iload_n 1, 1) := by decide +kernel
theorem dm_57_5 : decode cm_57 5 = .ok (.bipush 15, 2) := by decide +kernel
theorem dm_57_7 : decode cm_57 7 = .ok (.if_icmp .gt 23, 3) := by decide +kernel
theorem dm_57_10 : decode cm_57 10 = .ok (.iload_n 2, 1) := by decide +kernel
theorem dm_57_11 : decode cm_57 11 = .ok (.ifCond .lt 19, 3) := by decide +kernel
theorem dm_57_14 : decode cm_57 14 = .ok (.iload_n 2, 1) := by decide +kernel
theorem dm_57_15 : decode cm_57 15 = .ok (.bipush 7, 2) := by decide +kernel
theorem dm_57_17 : decode cm_57 17 = .ok (.if_icmp .gt 13, 3) := by decide +kernel
theorem dm_57_20 : decode cm_57 20 = .ok (.iload_n 3, 1) := by decide +kernel
theorem dm_57_21 : decode cm_57 21 = .ok (.ifCond .lt 9, 3) := by decide +kernel
theorem dm_57_24 : decode cm_57 24 = .ok (.iload_n 3, 1) := by decide +kernel
theorem dm_57_25 : decode cm_57 25 = .ok (.bipush 7, 2) := by decide +kernel
theorem dm_57_27 : decode cm_57 27 = .ok (.if_icmp .le 5, 3) := by decide +kernel
theorem dm_57_30 : decode cm_57 30 = .ok (.iconst 0, 1) := by decide +kernel
theorem dm_57_31 : decode cm_57 31 = .ok (.ireturn, 1) := by decide +kernel
theorem dm_57_32 : decode cm_57 32 = .ok (.iload 4, 2) := by decide +kernel
theorem dm_57_34 : decode cm_57 34 = .ok (.ldc 37, 2) := by decide +kernel
theorem dm_57_36 : decode cm_57 36 = .ok (.if_icmp .lt 19, 3) := by decide +kernel
theorem dm_57_39 : decode cm_57 39 = .ok (.iload 4, 2) := by decide +kernel
theorem dm_57_41 : decode cm_57 41 = .ok (.ldc 38, 2) := by decide +kernel
theorem dm_57_43 : decode cm_57 43 = .ok (.if_icmp .gt 12, 3) := by decide +kernel
theorem dm_57_46 : decode cm_57 46 = .ok (.aload_n 0, 1) := by decide +kernel
theorem dm_57_47 : decode cm_57 47 = .ok (.getfield 31, 3) := by decide +kernel
theorem dm_57_50 : decode cm_57 50 = .ok (.bipush 24, 2) := by decide +kernel
theorem dm_57_52 : decode cm_57 52 = .ok (.if_icmp .lt 5, 3) := by decide +kernel
theorem dm_57_55 : decode cm_57 55 = .ok (.iconst 0, 1) := by decide +kernel
theorem dm_57_56 : decode cm_57 56 = .ok (.ireturn, 1) := by decide +kernel
theorem dm_57_57 : decode cm_57 57 = .ok (.aload_n 0, 1) := by decide +kernel
theorem dm_57_58 : decode cm_57 58 = .ok (.getfield 9, 3) := by decide +kernel
theorem dm_57_61 : decode cm_57 61 = .ok (.aload_n 0, 1) := by decide +kernel
theorem dm_57_62 : decode cm_57 62 = .ok (.getfield 31, 3) := by decide +kernel
theorem dm_57_65 : decode cm_57 65 = .ok (.iload_n 1, 1) := by decide +kernel
theorem dm_57_66 : decode cm_57 66 = .ok (.iastore, 1) := by decide +kernel
theorem dm_57_67 : decode cm_57 67 = .ok (.aload_n 0, 1) := by decide +kernel
theorem dm_57_68 : decode cm_57 68 = .ok (.getfield 13, 3) := by decide +kernel
theorem dm_57_71 : decode cm_57 71 = .ok (.aload_n 0, 1) := by decide +kernel
theorem dm_57_72 : decode cm_57 72 = .ok (.getfield 31, 3) := by decide +kernel
theorem dm_57_75 : decode cm_57 75 = .ok (.iload_n 2, 1) := by decide +kernel
theorem dm_57_76 : decode cm_57 76 = .ok (.iastore, 1) := by decide +kernel
theorem dm_57_77 : decode cm_57 77 = .ok (.aload_n 0, 1) := by decide +kernel
theorem dm_57_78 : decode cm_57 78 = .ok (.getfield 16, 3) := by decide +kernel
theorem dm_57_81 : decode cm_57 81 = .ok (.aload_n 0, 1) := by decide +kernel
theorem dm_57_82 : decode cm_57 82 = .ok (.getfield 31, 3) := by decide +kernel
theorem dm_57_85 : decode cm_57 85 = .ok (.iload_n 3, 1) := by decide +kernel
theorem dm_57_86 : decode cm_57 86 = .ok (.iastore, 1) := by decide +kernel
theorem dm_57_87 : decode cm_57 87 = .ok (.aload_n 0, 1) := by decide +kernel
theorem dm_57_88 : decode cm_57 88 = .ok (.getfield 19, 3) := by decide +kernel
theorem dm_57_91 : decode cm_57 91 = .ok (.aload_n 0, 1) := by decide +kernel
theorem dm_57_92 : decode cm_57 92 = .ok (.getfield 31, 3) := by decide +kernel
theorem dm_57_95 : decode cm_57 95 = .ok (.iload 4, 2) := by decide +kernel
theorem dm_57_97 : decode cm_57 97 = .ok (.iastore, 1) := by decide +kernel
theorem dm_57_98 : decode cm_57 98 = .ok (.aload_n 0, 1) := by decide +kernel
theorem dm_57_99 : decode cm_57 99 = .ok (.dup, 1) := by decide +kernel
theorem dm_57_100 : decode cm_57 100 = .ok (.getfield 31, 3) := by decide +kernel
theorem dm_57_103 : decode cm_57 103 = .ok (.iconst 1, 1) := by decide +kernel
theorem dm_57_104 : decode cm_57 104 = .ok (.iadd, 1) := by decide +kernel
theorem dm_57_105 : decode cm_57 105 = .ok (.putfield 31, 3) := by decide +kernel
theorem dm_57_108 : decode cm_57 108 = .ok (.iconst 1, 1) := by decide +kernel
theorem dm_57_109 : decode cm_57 109 = .ok (.ireturn, 1) := by decide +kernel
theorem dm_58_0 : decode cm_58 0 = .ok (.iload_n 1, 1) := by decide +kernel
theorem dm_58_1 : decode cm_58 1 = .ok (.ifCond .lt 19, 3) := by decide +kernel
theorem dm_58_4 : decode cm_58 4 = .ok (.iload_n 1, 1) := by decide +kernel
theorem dm_58_5 : decode cm_58 5 = .ok (.bipush 8, 2) := by decide +kernel
theorem dm_58_7 : decode cm_58 7 = .ok (.if_icmp .ge 13, 3) := by decide +kernel
theorem dm_58_10 : decode cm_58 10 = .ok (.aload_n 0, 1) := by decide +kernel
theorem dm_58_11 : decode cm_58 11 = .ok (.getfield 22, 3) := by decide +kernel
theorem dm_58_14 : decode cm_58 14 = .ok (.iload_n 1, 1) := by decide +kernel
theorem dm_58_15 : decode cm_58 15 = .ok (.iaload, 1) := by decide +kernel
theorem dm_58_16 : decode cm_58 16 = .ok (.iconst (-1), 1) := by decide +kernel
theorem dm_58_17 : decode cm_58 17 = .ok (.if_icmp .eq 5, 3) := by decide +kernel
theorem dm_58_20 : decode cm_58 20 = .ok (.iconst 0, 1) := by decide +kernel
theorem dm_58_21 : decode cm_58 21 = .ok (.ireturn, 1) := by decide +kernel
theorem dm_58_22 : decode cm_58 22 = .ok (.aload_n 0, 1) := by decide +kernel
theorem dm_58_23 : decode cm_58 23 = .ok (.getfield 22, 3) := by decide +kernel
theorem dm_58_26 : decode cm_58 26 = .ok (.iload_n 1, 1) := by decide +kernel
theorem dm_58_27 : decode cm_58 27 = .ok (.aload_n 0, 1) := by decide +kernel
theorem dm_58_28 : decode cm_58 28 = .ok (.getfield 31, 3) := by decide +kernel
theorem dm_58_31 : decode cm_58 31 = .ok (.iastore, 1) := by decide +kernel
theorem dm_58_32 : decode cm_58 32 = .ok (.iconst 1, 1) := by decide +kernel
theorem dm_58_33 : decode cm_58 33 = .ok (.ireturn, 1) := by decide +kernel
theorem dm_59_0 : decode cm_59 0 = .ok (.aload_n 0, 1) := by decide +kernel
theorem dm_59_1 : decode cm_59 1 = .ok (.getfield 31, 3) := by decide +kernel
theorem dm_59_4 : decode cm_59 4 = .ok (.ireturn, 1) := by decide +kernel
theorem dm_60_0 : decode cm_60 0 = .ok (.iload_n 1, 1) := by decide +kernel
theorem dm_60_1 : decode cm_60 1 = .ok (.ifCond .lt 15, 3) := by decide +kernel
theorem dm_60_4 : decode cm_60 4 = .ok (.iload_n 1, 1) := by decide +kernel
theorem dm_60_5 : decode cm_60 5 = .ok (.aload_n 0, 1) := by decide +kernel
theorem dm_60_6 : decode cm_60 6 = .ok (.getfield 31, 3) := by decide +kernel
theorem dm_60_9 : decode cm_60 9 = .ok (.if_icmp .ge 7, 3) := by decide +kernel
theorem dm_60_12 : decode cm_60 12 = .ok (.iconst 1, 1) := by decide +kernel
theorem dm_60_13 : decode cm_60 13 = .ok (.goto 4, 3) := by decide +kernel
theorem dm_60_16 : decode cm_60 16 = .ok (.iconst 0, 1) := by decide +kernel
theorem dm_60_17 : decode cm_60 17 = .ok (.ireturn, 1) := by decide +kernel
theorem dm_61_0 : decode cm_61 0 = .ok (.aload_n 0, 1) := by decide +kernel
theorem dm_61_1 : decode cm_61 1 = .ok (.iload_n 1, 1) := by decide +kernel
theorem dm_61_2 : decode cm_61 2 = .ok (.invokevirtual 39, 3) := by decide +kernel
theorem dm_61_5 : decode cm_61 5 = .ok (.ifCond .eq 12, 3) := by decide +kernel
theorem dm_61_8 : decode cm_61 8 = .ok (.aload_n 0, 1) := by decide +kernel
theorem dm_61_9 : decode cm_61 9 = .ok (.getfield 9, 3) := by decide +kernel
theorem dm_61_12 : decode cm_61 12 = .ok (.iload_n 1, 1) := by decide +kernel
theorem dm_61_13 : decode cm_61 13 = .ok (.iaload, 1) := by decide +kernel
theorem dm_61_14 : decode cm_61 14 = .ok (.goto 4, 3) := by decide +kernel
theorem dm_61_17 : decode cm_61 17 = .ok (.iconst 0, 1) := by decide +kernel
theorem dm_61_18 : decode cm_61 18 = .ok (.ireturn, 1) := by decide +kernel
theorem dm_62_0 : decode cm_62 0 = .ok (.aload_n 0, 1) := by decide +kernel
theorem dm_62_1 : decode cm_62 1 = .ok (.iload_n 1, 1) := by decide +kernel
theorem dm_62_2 : decode cm_62 2 = .ok (.invokevirtual 39, 3) := by decide +kernel
theorem dm_62_5 : decode cm_62 5 = .ok (.ifCond .eq 12, 3) := by decide +kernel
theorem dm_62_8 : decode cm_62 8 = .ok (.aload_n 0, 1) := by decide +kernel
theorem dm_62_9 : decode cm_62 9 = .ok (.getfield 13, 3) := by decide +kernel
theorem dm_62_12 : decode cm_62 12 = .ok (.iload_n 1, 1) := by decide +kernel
theorem dm_62_13 : decode cm_62 13 = .ok (.iaload, 1) := by decide +kernel
theorem dm_62_14 : decode cm_62 14 = .ok (.goto 4, 3) := by decide +kernel
theorem dm_62_17 : decode cm_62 17 = .ok (.iconst 0, 1) := by decide +kernel
theorem dm_62_18 : decode cm_62 18 = .ok (.ireturn, 1) := by decide +kernel
theorem dm_63_0 : decode cm_63 0 = .ok (.aload_n 0, 1) := by decide +kernel
theorem dm_63_1 : decode cm_63 1 = .ok (.iload_n 1, 1) := by decide +kernel
theorem dm_63_2 : decode cm_63 2 = .ok (.invokevirtual 39, 3) := by decide +kernel
theorem dm_63_5 : decode cm_63 5 = .ok (.ifCond .eq 12, 3) := by decide +kernel
theorem dm_63_8 : decode cm_63 8 = .ok (.aload_n 0, 1) := by decide +kernel
theorem dm_63_9 : decode cm_63 9 = .ok (.getfield 16, 3) := by decide +kernel
theorem dm_63_12 : decode cm_63 12 = .ok (.iload_n 1, 1) := by decide +kernel
theorem dm_63_13 : decode cm_63 13 = .ok (.iaload, 1) := by decide +kernel
theorem dm_63_14 : decode cm_63 14 = .ok (.goto 4, 3) := by decide +kernel
theorem dm_63_17 : decode cm_63 17 = .ok (.iconst 0, 1) := by decide +kernel
theorem dm_63_18 : decode cm_63 18 = .ok (.ireturn, 1) := by decide +kernel
theorem dm_64_0 : decode cm_64 0 = .ok (.aload_n 0, 1) := by decide +kernel
theorem dm_64_1 : decode cm_64 1 = .ok (.iload_n 1, 1) := by decide +kernel
theorem dm_64_2 : decode cm_64 2 = .ok (.invokevirtual 39, 3) := by decide +kernel
theorem dm_64_5 : decode cm_64 5 = .ok (.ifCond .eq 12, 3) := by decide +kernel
theorem dm_64_8 : decode cm_64 8 = .ok (.aload_n 0, 1) := by decide +kernel
theorem dm_64_9 : decode cm_64 9 = .ok (.getfield 19, 3) := by decide +kernel
theorem dm_64_12 : decode cm_64 12 = .ok (.iload_n 1, 1) := by decide +kernel
theorem dm_64_13 : decode cm_64 13 = .ok (.iaload, 1) := by decide +kernel
theorem dm_64_14 : decode cm_64 14 = .ok (.goto 4, 3) := by decide +kernel
theorem dm_64_17 : decode cm_64 17 = .ok (.iconst 0, 1) := by decide +kernel
theorem dm_64_18 : decode cm_64 18 = .ok (.ireturn, 1) := by decide +kernel
theorem dm_65_0 : decode cm_65 0 = .ok (.iload_n 1, 1) := by decide +kernel
theorem dm_65_1 : decode cm_65 1 = .ok (.ifCond .lt 23, 3) := by decide +kernel
theorem dm_65_4 : decode cm_65 4 = .ok (.iload_n 1, 1) := by decide +kernel
theorem dm_65_5 : decode cm_65 5 = .ok (.bipush 8, 2) := by decide +kernel
theorem dm_65_7 : decode cm_65 7 = .ok (.if_icmp .ge 17, 3) := by decide +kernel
theorem dm_65_10 : decode cm_65 10 = .ok (.aload_n 0, 1) := by decide +kernel
theorem dm_65_11 : decode cm_65 11 = .ok (.getfield 22, 3) := by decide +kernel
theorem dm_65_14 : decode cm_65 14 = .ok (.iload_n 1, 1) := by decide +kernel
theorem dm_65_15 : decode cm_65 15 = .ok (.iaload, 1) := by decide +kernel
theorem dm_65_16 : decode cm_65 16 = .ok (.iconst (-1), 1) := by decide +kernel
theorem dm_65_17 : decode cm_65 17 = .ok (.if_icmp .eq 7, 3) := by decide +kernel
theorem dm_65_20 : decode cm_65 20 = .ok (.iconst 1, 1) := by decide +kernel
theorem dm_65_21 : decode cm_65 21 = .ok (.goto 4, 3) := by decide +kernel
theorem dm_65_24 : decode cm_65 24 = .ok (.iconst 0, 1) := by decide +kernel
theorem dm_65_25 : decode cm_65 25 = .ok (.ireturn, 1) := by decide +kernel
theorem dm_66_0 : decode cm_66 0 = .ok (.aload_n 0, 1) := by decide +kernel
theorem dm_66_1 : decode cm_66 1 = .ok (.iload_n 1, 1) := by decide +kernel
theorem dm_66_2 : decode cm_66 2 = .ok (.invokevirtual 43, 3) := by decide +kernel
theorem dm_66_5 : decode cm_66 5 = .ok (.ifCond .eq 12, 3) := by decide +kernel
theorem dm_66_8 : decode cm_66 8 = .ok (.aload_n 0, 1) := by decide +kernel
theorem dm_66_9 : decode cm_66 9 = .ok (.getfield 22, 3) := by decide +kernel
theorem dm_66_12 : decode cm_66 12 = .ok (.iload_n 1, 1) := by decide +kernel
theorem dm_66_13 : decode cm_66 13 = .ok (.iaload, 1) := by decide +kernel
theorem dm_66_14 : decode cm_66 14 = .ok (.goto 7, 3) := by decide +kernel
theorem dm_66_17 : decode cm_66 17 = .ok (.aload_n 0, 1) := by decide +kernel
theorem dm_66_18 : decode cm_66 18 = .ok (.getfield 31, 3) := by decide +kernel
theorem dm_66_21 : decode cm_66 21 = .ok (.ireturn, 1) := by decide +kernel
theorem dm_67_0 : decode cm_67 0 = .ok (.iconst 0, 1) := by decide +kernel
theorem dm_67_1 : decode cm_67 1 = .ok (.istore_n 1, 1) := by decide +kernel
theorem dm_67_2 : decode cm_67 2 = .ok (.iload_n 1, 1) := by decide +kernel
theorem dm_67_3 : decode cm_67 3 = .ok (.aload_n 0, 1) := by decide +kernel
theorem dm_67_4 : decode cm_67 4 = .ok (.getfield 31, 3) := by decide +kernel
theorem dm_67_7 : decode cm_67 7 = .ok (.if_icmp .ge 27, 3) := by decide +kernel
theorem dm_67_10 : decode cm_67 10 = .ok (.aload_n 0, 1) := by decide +kernel
theorem dm_67_11 : decode cm_67 11 = .ok (.iload_n 1, 1) := by decide +kernel
theorem dm_67_12 : decode cm_67 12 = .ok (.invokevirtual 46, 3) := by decide +kernel
theorem dm_67_15 : decode cm_67 15 = .ok (.ifCond .eq 11, 3) := by decide +kernel
theorem dm_67_18 : decode cm_67 18 = .ok (.aload_n 0, 1) := by decide +kernel
theorem dm_67_19 : decode cm_67 19 = .ok (.iload_n 1, 1) := by decide +kernel
theorem dm_67_20 : decode cm_67 20 = .ok (.invokevirtual 49, 3) := by decide +kernel
theorem dm_67_23 : decode cm_67 23 = .ok (.ifCond .ne 5, 3) := by decide +kernel
theorem dm_67_26 : decode cm_67 26 = .ok (.iconst 0, 1) := by decide +kernel
theorem dm_67_27 : decode cm_67 27 = .ok (.ireturn, 1) := by decide +kernel
theorem dm_67_28 : decode cm_67 28 = .ok (.iinc 1 1, 3) := by decide +kernel
theorem dm_67_31 : decode cm_67 31 = .ok (.goto (-29), 3) := by decide +kernel
theorem dm_67_34 : decode cm_67 34 = .ok (.aload_n 0, 1) := by decide +kernel
theorem dm_67_35 : decode cm_67 35 = .ok (.aload_n 0, 1) := by decide +kernel
theorem dm_67_36 : decode cm_67 36 = .ok (.getfield 31, 3) := by decide +kernel
theorem dm_67_39 : decode cm_67 39 = .ok (.invokevirtual 52, 3) := by decide +kernel
theorem dm_67_42 : decode cm_67 42 = .ok (.iconst 1, 1) := by decide +kernel
theorem dm_67_43 : decode cm_67 43 = .ok (.iadd, 1) := by decide +kernel
theorem dm_67_44 : decode cm_67 44 = .ok (.bipush 31, 2) := by decide +kernel
theorem dm_67_46 : decode cm_67 46 = .ok (.if_icmp .gt 7, 3) := by decide +kernel
theorem dm_67_49 : decode cm_67 49 = .ok (.iconst 1, 1) := by decide +kernel
theorem dm_67_50 : decode cm_67 50 = .ok (.goto 4, 3) := by decide +kernel
theorem dm_67_53 : decode cm_67 53 = .ok (.iconst 0, 1) := by decide +kernel
theorem dm_67_54 : decode cm_67 54 = .ok (.ireturn, 1) := by decide +kernel
theorem dm_68_0 : decode cm_68 0 = .ok (.iconst 0, 1) := by decide +kernel
theorem dm_68_1 : decode cm_68 1 = .ok (.istore_n 2, 1) := by decide +kernel
theorem dm_68_2 : decode cm_68 2 = .ok (.iconst 0, 1) := by decide +kernel
theorem dm_68_3 : decode cm_68 3 = .ok (.istore_n 3, 1) := by decide +kernel
theorem dm_68_4 : decode cm_68 4 = .ok (.iload_n 3, 1) := by decide +kernel
theorem dm_68_5 : decode cm_68 5 = .ok (.iload_n 1, 1) := by decide +kernel
theorem dm_68_6 : decode cm_68 6 = .ok (.if_icmp .ge 29, 3) := by decide +kernel
theorem dm_68_9 : decode cm_68 9 = .ok (.iload_n 3, 1) := by decide +kernel
theorem dm_68_10 : decode cm_68 10 = .ok (.aload_n 0, 1) := by decide +kernel
theorem dm_68_11 : decode cm_68 11 = .ok (.getfield 31, 3) := by decide +kernel
theorem dm_68_14 : decode cm_68 14 = .ok (.if_icmp .ge 21, 3) := by decide +kernel
theorem dm_68_17 : decode cm_68 17 = .ok (.iload_n 2, 1) := by decide +kernel
theorem dm_68_18 : decode cm_68 18 = .ok (.aload_n 0, 1) := by decide +kernel
theorem dm_68_19 : decode cm_68 19 = .ok (.getfield 9, 3) := by decide +kernel
theorem dm_68_22 : decode cm_68 22 = .ok (.iload_n 3, 1) := by decide +kernel
theorem dm_68_23 : decode cm_68 23 = .ok (.iaload, 1) := by decide +kernel
theorem dm_68_24 : decode cm_68 24 = .ok (.invokestatic 58, 3) := by decide +kernel
theorem dm_68_27 : decode cm_68 27 = .ok (.iadd, 1) := by decide +kernel
theorem dm_68_28 : decode cm_68 28 = .ok (.istore_n 2, 1) := by decide +kernel
theorem dm_68_29 : decode cm_68 29 = .ok (.iinc 3 1, 3) := by decide +kernel
theorem dm_68_32 : decode cm_68 32 = .ok (.goto (-28), 3) := by decide +kernel
theorem dm_68_35 : decode cm_68 35 = .ok (.iload_n 2, 1) := by decide +kernel
theorem dm_68_36 : decode cm_68 36 = .ok (.ireturn, 1) := by decide +kernel
theorem dm_69_0 : decode cm_69 0 = .ok (.iload_n 0, 1) := by decide +kernel
theorem dm_69_1 : decode cm_69 1 = .ok (.lookupswitch 39 #[(8, 35), (9, 35), (13, 37)], 35) := by decide +kernel
theorem dm_69_36 : decode cm_69 36 = .ok (.iconst 4, 1) := by decide +kernel
theorem dm_69_37 : decode cm_69 37 = .ok (.ireturn, 1) := by decide +kernel
theorem dm_69_38 : decode cm_69 38 = .ok (.iconst 3, 1) := by decide +kernel
theorem dm_69_39 : decode cm_69 39 = .ok (.ireturn, 1) := by decide +kernel
theorem dm_69_40 : decode cm_69 40 = .ok (.iconst 1, 1) := by decide +kernel
theorem dm_69_41 : decode cm_69 41 = .ok (.ireturn, 1) := by decide +kernel
theorem dm_70_0 : decode cm_70 0 = .ok (.aload_n 0, 1) := by decide +kernel
theorem dm_70_1 : decode cm_70 1 = .ok (.iload_n 1, 1) := by decide +kernel
theorem dm_70_2 : decode cm_70 2 = .ok (.invokevirtual 61, 3) := by decide +kernel
theorem dm_70_5 : decode cm_70 5 = .ok (.istore_n 2, 1) := by decide +kernel
theorem dm_70_6 : decode cm_70 6 = .ok (.iload_n 2, 1) := by decide +kernel
theorem dm_70_7 : decode cm_70 7 = .ok (.iconst 2, 1) := by decide +kernel
theorem dm_70_8 : decode cm_70 8 = .ok (.if_icmp .lt 13, 3) := by decide +kernel
theorem dm_70_11 : decode cm_70 11 = .ok (.iload_n 2, 1) := by decide +kernel
theorem dm_70_12 : decode cm_70 12 = .ok (.bipush 11, 2) := by decide +kernel
theorem dm_70_14 : decode cm_70 14 = .ok (.if_icmp .gt 7, 3) := by decide +kernel
theorem dm_70_17 : decode cm_70 17 = .ok (.iconst 1, 1) := by decide +kernel
theorem dm_70_18 : decode cm_70 18 = .ok (.goto 4, 3) := by decide +kernel
theorem dm_70_21 : decode cm_70 21 = .ok (.iconst 0, 1) := by decide +kernel
theorem dm_70_22 : decode cm_70 22 = .ok (.istore_n 3, 1) := by decide +kernel
theorem dm_70_23 : decode cm_70 23 = .ok (.iload_n 3, 1) := by decide +kernel
theorem dm_70_24 : decode cm_70 24 = .ok (.ifCond .ne 20, 3) := by decide +kernel
theorem dm_70_27 : decode cm_70 27 = .ok (.iload_n 2, 1) := by decide +kernel
theorem dm_70_28 : decode cm_70 28 = .ok (.iconst 1, 1) := by decide +kernel
theorem dm_70_29 : decode cm_70 29 = .ok (.if_icmp .eq 15, 3) := by decide +kernel
theorem dm_70_32 : decode cm_70 32 = .ok (.iload_n 2, 1) := by decide +kernel
theorem dm_70_33 : decode cm_70 33 = .ok (.bipush 13, 2) := by decide +kernel
theorem dm_70_35 : decode cm_70 35 = .ok (.if_icmp .eq 9, 3) := by decide +kernel
theorem dm_70_38 : decode cm_70 38 = .ok (.iload_n 2, 1) := by decide +kernel
theorem dm_70_39 : decode cm_70 39 = .ok (.bipush 15, 2) := by decide +kernel
theorem dm_70_41 : decode cm_70 41 = .ok (.if_icmp .ne 7, 3) := by decide +kernel
theorem dm_70_44 : decode cm_70 44 = .ok (.iconst 1, 1) := by decide +kernel
theorem dm_70_45 : decode cm_70 45 = .ok (.goto 4, 3) := by decide +kernel
theorem dm_70_48 : decode cm_70 48 = .ok (.iconst 0, 1) := by decide +kernel
theorem dm_70_49 : decode cm_70 49 = .ok (.istore 4, 2) := by decide +kernel
theorem dm_70_51 : decode cm_70 51 = .ok (.iload 4, 2) := by decide +kernel
theorem dm_70_53 : decode cm_70 53 = .ok (.ifCond .eq 12, 3) := by decide +kernel
theorem dm_70_56 : decode cm_70 56 = .ok (.aload_n 0, 1) := by decide +kernel
theorem dm_70_57 : decode cm_70 57 = .ok (.iload_n 1, 1) := by decide +kernel
theorem dm_70_58 : decode cm_70 58 = .ok (.invokevirtual 64, 3) := by decide +kernel
theorem dm_70_61 : decode cm_70 61 = .ok (.iconst 5, 1) := by decide +kernel
theorem dm_70_62 : decode cm_70 62 = .ok (.if_icmp .ge 20, 3) := by decide +kernel
theorem dm_70_65 : decode cm_70 65 = .ok (.iload_n 3, 1) := by decide +kernel
theorem dm_70_66 : decode cm_70 66 = .ok (.ifCond .eq 12, 3) := by decide +kernel
theorem dm_70_69 : decode cm_70 69 = .ok (.aload_n 0, 1) := by decide +kernel
theorem dm_70_70 : decode cm_70 70 = .ok (.iload_n 1, 1) := by decide +kernel
theorem dm_70_71 : decode cm_70 71 = .ok (.invokevirtual 67, 3) := by decide +kernel
theorem dm_70_74 : decode cm_70 74 = .ok (.iconst 5, 1) := by decide +kernel
theorem dm_70_75 : decode cm_70 75 = .ok (.if_icmp .ge 7, 3) := by decide +kernel
theorem dm_70_78 : decode cm_70 78 = .ok (.iconst 1, 1) := by decide +kernel
theorem dm_70_79 : decode cm_70 79 = .ok (.goto 4, 3) := by decide +kernel
theorem dm_70_82 : decode cm_70 82 = .ok (.iconst 0, 1) := by decide +kernel
theorem dm_70_83 : decode cm_70 83 = .ok (.ireturn, 1) := by decide +kernel
theorem dm_71_0 : decode cm_71 0 = .ok (.aload_n 0, 1) := by decide +kernel
theorem dm_71_1 : decode cm_71 1 = .ok (.iload_n 1, 1) := by decide +kernel
theorem dm_71_2 : decode cm_71 2 = .ok (.invokevirtual 61, 3) := by decide +kernel
theorem dm_71_5 : decode cm_71 5 = .ok (.tableswitch 58 10 15 #[39, 39, 39, 58, 49, 39], 39) := by decide +kernel
theorem dm_71_44 : decode cm_71 44 = .ok (.aload_n 0, 1) := by decide +kernel
theorem dm_71_45 : decode cm_71 45 = .ok (.aload_n 0, 1) := by decide +kernel
theorem dm_71_46 : decode cm_71 46 = .ok (.iload_n 1, 1) := by decide +kernel
theorem dm_71_47 : decode cm_71 47 = .ok (.invokevirtual 70, 3) := by decide +kernel
theorem dm_71_50 : decode cm_71 50 = .ok (.invokevirtual 43, 3) := by decide +kernel
theorem dm_71_53 : decode cm_71 53 = .ok (.ireturn, 1) := by decide +kernel
theorem dm_71_54 : decode cm_71 54 = .ok (.aload_n 0, 1) := by decide +kernel
theorem dm_71_55 : decode cm_71 55 = .ok (.iload_n 1, 1) := by decide +kernel
theorem dm_71_56 : decode cm_71 56 = .ok (.invokevirtual 70, 3) := by decide +kernel
theorem dm_71_59 : decode cm_71 59 = .ok (.invokestatic 73, 3) := by decide +kernel
theorem dm_71_62 : decode cm_71 62 = .ok (.ireturn, 1) := by decide +kernel
theorem dm_71_63 : decode cm_71 63 = .ok (.iconst 1, 1) := by decide +kernel
theorem dm_71_64 : decode cm_71 64 = .ok (.ireturn, 1) := by decide +kernel
theorem dm_72_0 : decode cm_72 0 = .ok (.aload_n 0, 1) := by decide +kernel
theorem dm_72_1 : decode cm_72 1 = .ok (.invokespecial 1, 3) := by decide +kernel
theorem dm_72_4 : decode cm_72 4 = .ok (.aload_n 0, 1) := by decide +kernel
theorem dm_72_5 : decode cm_72 5 = .ok (.new 7, 3) := by decide +kernel
theorem dm_72_8 : decode cm_72 8 = .ok (.dup, 1) := by decide +kernel
theorem dm_72_9 : decode cm_72 9 = .ok (.invokespecial 9, 3) := by decide +kernel
theorem dm_72_12 : decode cm_72 12 = .ok (.putfield 10, 3) := by decide +kernel
theorem dm_72_15 : decode cm_72 15 = .ok (.aload_n 0, 1) := by decide +kernel
theorem dm_72_16 : decode cm_72 16 = .ok (.new 16, 3) := by decide +kernel
theorem dm_72_19 : decode cm_72 19 = .ok (.dup, 1) := by decide +kernel
theorem dm_72_20 : decode cm_72 20 = .ok (.invokespecial 18, 3) := by decide +kernel
theorem dm_72_23 : decode cm_72 23 = .ok (.putfield 19, 3) := by decide +kernel
theorem dm_72_26 : decode cm_72 26 = .ok (.aload_n 0, 1) := by decide +kernel
theorem dm_72_27 : decode cm_72 27 = .ok (.new 23, 3) := by decide +kernel
theorem dm_72_30 : decode cm_72 30 = .ok (.dup, 1) := by decide +kernel
theorem dm_72_31 : decode cm_72 31 = .ok (.invokespecial 25, 3) := by decide +kernel
theorem dm_72_34 : decode cm_72 34 = .ok (.putfield 26, 3) := by decide +kernel
theorem dm_72_37 : decode cm_72 37 = .ok (.aload_n 0, 1) := by decide +kernel
theorem dm_72_38 : decode cm_72 38 = .ok (.new 30, 3) := by decide +kernel
theorem dm_72_41 : decode cm_72 41 = .ok (.dup, 1) := by decide +kernel
theorem dm_72_42 : decode cm_72 42 = .ok (.invokespecial 32, 3) := by decide +kernel
theorem dm_72_45 : decode cm_72 45 = .ok (.putfield 33, 3) := by decide +kernel
theorem dm_72_48 : decode cm_72 48 = .ok (.return_, 1) := by decide +kernel
theorem dm_73_0 : decode cm_73 0 = .ok (.aload_n 0, 1) := by decide +kernel
theorem dm_73_1 : decode cm_73 1 = .ok (.getfield 10, 3) := by decide +kernel
theorem dm_73_4 : decode cm_73 4 = .ok (.iload_n 1, 1) := by decide +kernel
theorem dm_73_5 : decode cm_73 5 = .ok (.iload_n 2, 1) := by decide +kernel
theorem dm_73_6 : decode cm_73 6 = .ok (.iload_n 3, 1) := by decide +kernel
theorem dm_73_7 : decode cm_73 7 = .ok (.iload 4, 2) := by decide +kernel
theorem dm_73_9 : decode cm_73 9 = .ok (.invokevirtual 37, 3) := by decide +kernel
theorem dm_73_12 : decode cm_73 12 = .ok (.ireturn, 1) := by decide +kernel
theorem dm_74_0 : decode cm_74 0 = .ok (.aload_n 0, 1) := by decide +kernel
theorem dm_74_1 : decode cm_74 1 = .ok (.getfield 10, 3) := by decide +kernel
theorem dm_74_4 : decode cm_74 4 = .ok (.iload_n 1, 1) := by decide +kernel
theorem dm_74_5 : decode cm_74 5 = .ok (.invokevirtual 41, 3) := by decide +kernel
theorem dm_74_8 : decode cm_74 8 = .ok (.ireturn, 1) := by decide +kernel
theorem dm_75_0 : decode cm_75 0 = .ok (.aload_n 0, 1) := by decide +kernel
theorem dm_75_1 : decode cm_75 1 = .ok (.getfield 10, 3) := by decide +kernel
theorem dm_75_4 : decode cm_75 4 = .ok (.invokevirtual 45, 3) := by decide +kernel
theorem dm_75_7 : decode cm_75 7 = .ok (.aload_n 0, 1) := by decide +kernel
theorem dm_75_8 : decode cm_75 8 = .ok (.getfield 19, 3) := by decide +kernel
theorem dm_75_11 : decode cm_75 11 = .ok (.invokevirtual 48, 3) := by decide +kernel
theorem dm_75_14 : decode cm_75 14 = .ok (.return_, 1) := by decide +kernel
theorem dm_76_0 : decode cm_76 0 = .ok (.iload_n 1, 1) := by decide +kernel
theorem dm_76_1 : decode cm_76 1 = .ok (.invokestatic 49, 3) := by decide +kernel
theorem dm_76_4 : decode cm_76 4 = .ok (.ifCond .eq 13, 3) := by decide +kernel
theorem dm_76_7 : decode cm_76 7 = .ok (.aload_n 0, 1) := by decide +kernel
theorem dm_76_8 : decode cm_76 8 = .ok (.getfield 10, 3) := by decide +kernel
theorem dm_76_11 : decode cm_76 11 = .ok (.invokevirtual 54, 3) := by decide +kernel
theorem dm_76_14 : decode cm_76 14 = .ok (.ifCond .ne 5, 3) := by decide +kernel
theorem dm_76_17 : decode cm_76 17 = .ok (.iconst (-1), 1) := by decide +kernel
theorem dm_76_18 : decode cm_76 18 = .ok (.ireturn, 1) := by decide +kernel
theorem dm_76_19 : decode cm_76 19 = .ok (.aload_n 0, 1) := by decide +kernel
theorem dm_76_20 : decode cm_76 20 = .ok (.getfield 10, 3) := by decide +kernel
theorem dm_76_23 : decode cm_76 23 = .ok (.iload_n 1, 1) := by decide +kernel
theorem dm_76_24 : decode cm_76 24 = .ok (.aload_n 0, 1) := by decide +kernel
theorem dm_76_25 : decode cm_76 25 = .ok (.getfield 19, 3) := by decide +kernel
theorem dm_76_28 : decode cm_76 28 = .ok (.invokestatic 58, 3) := by decide +kernel
theorem dm_76_31 : decode cm_76 31 = .ok (.aload_n 0, 1) := by decide +kernel
theorem dm_76_32 : decode cm_76 32 = .ok (.getfield 19, 3) := by decide +kernel
theorem dm_76_35 : decode cm_76 35 = .ok (.invokevirtual 64, 3) := by decide +kernel
theorem dm_76_38 : decode cm_76 38 = .ok (.ireturn, 1) := by decide +kernel
theorem dm_77_0 : decode cm_77 0 = .ok (.aload_n 0, 1) := by decide +kernel
theorem dm_77_1 : decode cm_77 1 = .ok (.getfield 19, 3) := by decide +kernel
theorem dm_77_4 : decode cm_77 4 = .ok (.iload_n 1, 1) := by decide +kernel
theorem dm_77_5 : decode cm_77 5 = .ok (.invokevirtual 68, 3) := by decide +kernel
theorem dm_77_8 : decode cm_77 8 = .ok (.ireturn, 1) := by decide +kernel
theorem dm_78_0 : decode cm_78 0 = .ok (.iload_n 1, 1) := by decide +kernel
theorem dm_78_1 : decode cm_78 1 = .ok (.iconst (-1), 1) := by decide +kernel
theorem dm_78_2 : decode cm_78 2 = .ok (.if_icmp .ne 13, 3) := by decide +kernel
theorem dm_78_5 : decode cm_78 5 = .ok (.aload_n 0, 1) := by decide +kernel
theorem dm_78_6 : decode cm_78 6 = .ok (.getfield 19, 3) := by decide +kernel
theorem dm_78_9 : decode cm_78 9 = .ok (.invokevirtual 64, 3) := by decide +kernel
theorem dm_78_12 : decode cm_78 12 = .ok (.goto 11, 3) := by decide +kernel
theorem dm_78_15 : decode cm_78 15 = .ok (.aload_n 0, 1) := by decide +kernel
theorem dm_78_16 : decode cm_78 16 = .ok (.getfield 19, 3) := by decide +kernel
theorem dm_78_19 : decode cm_78 19 = .ok (.iload_n 1, 1) := by decide +kernel
theorem dm_78_20 : decode cm_78 20 = .ok (.invokevirtual 71, 3) := by decide +kernel
theorem dm_78_23 : decode cm_78 23 = .ok (.ireturn, 1) := by decide +kernel
theorem dm_79_0 : decode cm_79 0 = .ok (.iload_n 1, 1) := by decide +kernel
theorem dm_79_1 : decode cm_79 1 = .ok (.invokestatic 49, 3) := by decide +kernel
theorem dm_79_4 : decode cm_79 4 = .ok (.ifCond .eq 14, 3) := by decide +kernel
theorem dm_79_7 : decode cm_79 7 = .ok (.aload_n 0, 1) := by decide +kernel
theorem dm_79_8 : decode cm_79 8 = .ok (.getfield 19, 3) := by decide +kernel
theorem dm_79_11 : decode cm_79 11 = .ok (.iload_n 1, 1) := by decide +kernel
theorem dm_79_12 : decode cm_79 12 = .ok (.invokestatic 75, 3) := by decide +kernel
theorem dm_79_15 : decode cm_79 15 = .ok (.goto 5, 3) := by decide +kernel
theorem dm_79_18 : decode cm_79 18 = .ok (.bipush (-2), 2) := by decide +kernel
theorem dm_79_20 : decode cm_79 20 = .ok (.ireturn, 1) := by decide +kernel
theorem dm_80_0 : decode cm_80 0 = .ok (.iload_n 1, 1) := by decide +kernel
theorem dm_80_1 : decode cm_80 1 = .ok (.invokestatic 49, 3) := by decide +kernel
theorem dm_80_4 : decode cm_80 4 = .ok (.ifCond .eq 15, 3) := by decide +kernel
theorem dm_80_7 : decode cm_80 7 = .ok (.aload_n 0, 1) := by decide +kernel
theorem dm_80_8 : decode cm_80 8 = .ok (.getfield 19, 3) := by decide +kernel
theorem dm_80_11 : decode cm_80 11 = .ok (.iload_n 1, 1) := by decide +kernel
theorem dm_80_12 : decode cm_80 12 = .ok (.invokestatic 75, 3) := by decide +kernel
theorem dm_80_15 : decode cm_80 15 = .ok (.iconst (-1), 1) := by decide +kernel
theorem dm_80_16 : decode cm_80 16 = .ok (.if_icmp .eq 5, 3) := by decide +kernel
theorem dm_80_19 : decode cm_80 19 = .ok (.iconst 0, 1) := by decide +kernel
theorem dm_80_20 : decode cm_80 20 = .ok (.ireturn, 1) := by decide +kernel
theorem dm_80_21 : decode cm_80 21 = .ok (.aload_n 0, 1) := by decide +kernel
theorem dm_80_22 : decode cm_80 22 = .ok (.getfield 26, 3) := by decide +kernel
theorem dm_80_25 : decode cm_80 25 = .ok (.aload_n 0, 1) := by decide +kernel
theorem dm_80_26 : decode cm_80 26 = .ok (.getfield 19, 3) := by decide +kernel
theorem dm_80_29 : decode cm_80 29 = .ok (.iload_n 1, 1) := by decide +kernel
theorem dm_80_30 : decode cm_80 30 = .ok (.invokevirtual 81, 3) := by decide +kernel
theorem dm_80_33 : decode cm_80 33 = .ok (.iconst 1, 1) := by decide +kernel
theorem dm_80_34 : decode cm_80 34 = .ok (.ireturn, 1) := by decide +kernel
theorem dm_81_0 : decode cm_81 0 = .ok (.aload_n 0, 1) := by decide +kernel
theorem dm_81_1 : decode cm_81 1 = .ok (.getfield 26, 3) := by decide +kernel
theorem dm_81_4 : decode cm_81 4 = .ok (.iload_n 1, 1) := by decide +kernel
theorem dm_81_5 : decode cm_81 5 = .ok (.invokevirtual 85, 3) := by decide +kernel
theorem dm_81_8 : decode cm_81 8 = .ok (.astore_n 3, 1) := by decide +kernel
theorem dm_81_9 : decode cm_81 9 = .ok (.aload_n 3, 1) := by decide +kernel
theorem dm_81_10 : decode cm_81 10 = .ok (.ifnull 22, 3) := by decide +kernel
theorem dm_81_13 : decode cm_81 13 = .ok (.aload_n 3, 1) := by decide +kernel
theorem dm_81_14 : decode cm_81 14 = .ok (.getfield 89, 3) := by decide +kernel
theorem dm_81_17 : decode cm_81 17 = .ok (.ifCond .eq 15, 3) := by decide +kernel
theorem dm_81_20 : decode cm_81 20 = .ok (.aload_n 3, 1) := by decide +kernel
theorem dm_81_21 : decode cm_81 21 = .ok (.iload_n 2, 1) := by decide +kernel
theorem dm_81_22 : decode cm_81 22 = .ok (.invokevirtual 93, 3) := by decide +kernel
theorem dm_81_25 : decode cm_81 25 = .ok (.ifCond .eq 7, 3) := by decide +kernel
theorem dm_81_28 : decode cm_81 28 = .ok (.iconst 1, 1) := by decide +kernel
theorem dm_81_29 : decode cm_81 29 = .ok (.goto 4, 3) := by decide +kernel
theorem dm_81_32 : decode cm_81 32 = .ok (.iconst 0, 1) := by decide +kernel
theorem dm_81_33 : decode cm_81 33 = .ok (.ireturn, 1) := by decide +kernel
theorem dm_82_0 : decode cm_82 0 = .ok (.iload_n 1, 1) := by decide +kernel
theorem dm_82_1 : decode cm_82 1 = .ok (.ifCond .lt 10, 3) := by decide +kernel
theorem dm_82_4 : decode cm_82 4 = .ok (.iload_n 1, 1) := by decide +kernel
theorem dm_82_5 : decode cm_82 5 = .ok (.sipush 500, 3) := by decide +kernel
theorem dm_82_8 : decode cm_82 8 = .ok (.if_icmp .le 7, 3) := by decide +kernel
theorem dm_82_11 : decode cm_82 11 = .ok (.iconst (-1), 1) := by decide +kernel
theorem dm_82_12 : decode cm_82 12 = .ok (.goto 11, 3) := by decide +kernel
theorem dm_82_15 : decode cm_82 15 = .ok (.aload_n 0, 1) := by decide +kernel
theorem dm_82_16 : decode cm_82 16 = .ok (.getfield 26, 3) := by decide +kernel
theorem dm_82_19 : decode cm_82 19 = .ok (.iload_n 1, 1) := by decide +kernel
theorem dm_82_20 : decode cm_82 20 = .ok (.invokevirtual 96, 3) := by decide +kernel
theorem dm_82_23 : decode cm_82 23 = .ok (.ireturn, 1) := by decide +kernel
theorem dm_83_0 : decode cm_83 0 = .ok (.aload_n 0, 1) := by decide +kernel
theorem dm_83_1 : decode cm_83 1 = .ok (.getfield 26, 3) := by decide +kernel
theorem dm_83_4 : decode cm_83 4 = .ok (.iload_n 1, 1) := by decide +kernel
theorem dm_83_5 : decode cm_83 5 = .ok (.invokevirtual 85, 3) := by decide +kernel
theorem dm_83_8 : decode cm_83 8 = .ok (.astore_n 2, 1) := by decide +kernel
theorem dm_83_9 : decode cm_83 9 = .ok (.aload_n 2, 1) := by decide +kernel
theorem dm_83_10 : decode cm_83 10 = .ok (.ifnonnull 7, 3) := by decide +kernel
theorem dm_83_13 : decode cm_83 13 = .ok (.iconst (-1), 1) := by decide +kernel
theorem dm_83_14 : decode cm_83 14 = .ok (.goto 7, 3) := by decide +kernel
theorem dm_83_17 : decode cm_83 17 = .ok (.aload_n 2, 1) := by decide +kernel
theorem dm_83_18 : decode cm_83 18 = .ok (.getfield 89, 3) := by decide +kernel
theorem dm_83_21 : decode cm_83 21 = .ok (.ireturn, 1) := by decide +kernel
theorem dm_84_0 : decode cm_84 0 = .ok (.aload_n 0, 1) := by decide +kernel
theorem dm_84_1 : decode cm_84 1 = .ok (.getfield 26, 3) := by decide +kernel
theorem dm_84_4 : decode cm_84 4 = .ok (.iload_n 1, 1) := by decide +kernel
theorem dm_84_5 : decode cm_84 5 = .ok (.invokevirtual 85, 3) := by decide +kernel
theorem dm_84_8 : decode cm_84 8 = .ok (.astore_n 2, 1) := by decide +kernel
theorem dm_84_9 : decode cm_84 9 = .ok (.aload_n 2, 1) := by decide +kernel
theorem dm_84_10 : decode cm_84 10 = .ok (.ifnonnull 7, 3) := by decide +kernel
theorem dm_84_13 : decode cm_84 13 = .ok (.iconst (-1), 1) := by decide +kernel
theorem dm_84_14 : decode cm_84 14 = .ok (.goto 7, 3) := by decide +kernel
theorem dm_84_17 : decode cm_84 17 = .ok (.aload_n 2, 1) := by decide +kernel
theorem dm_84_18 : decode cm_84 18 = .ok (.getfield 99, 3) := by decide +kernel
theorem dm_84_21 : decode cm_84 21 = .ok (.ireturn, 1) := by decide +kernel
theorem dm_85_0 : decode cm_85 0 = .ok (.aload_n 0, 1) := by decide +kernel
theorem dm_85_1 : decode cm_85 1 = .ok (.getfield 26, 3) := by decide +kernel
theorem dm_85_4 : decode cm_85 4 = .ok (.iload_n 1, 1) := by decide +kernel
theorem dm_85_5 : decode cm_85 5 = .ok (.invokevirtual 85, 3) := by decide +kernel
theorem dm_85_8 : decode cm_85 8 = .ok (.astore_n 3, 1) := by decide +kernel
theorem dm_85_9 : decode cm_85 9 = .ok (.aload_n 3, 1) := by decide +kernel
theorem dm_85_10 : decode cm_85 10 = .ok (.ifnull 13, 3) := by decide +kernel
theorem dm_85_13 : decode cm_85 13 = .ok (.iload_n 2, 1) := by decide +kernel
theorem dm_85_14 : decode cm_85 14 = .ok (.ifCond .lt 9, 3) := by decide +kernel
theorem dm_85_17 : decode cm_85 17 = .ok (.iload_n 2, 1) := by decide +kernel
theorem dm_85_18 : decode cm_85 18 = .ok (.bipush 8, 2) := by decide +kernel
theorem dm_85_20 : decode cm_85 20 = .ok (.if_icmp .lt 7, 3) := by decide +kernel
theorem dm_85_23 : decode cm_85 23 = .ok (.iconst 0, 1) := by decide +kernel
theorem dm_85_24 : decode cm_85 24 = .ok (.goto 9, 3) := by decide +kernel
theorem dm_85_27 : decode cm_85 27 = .ok (.aload_n 3, 1) := by decide +kernel
theorem dm_85_28 : decode cm_85 28 = .ok (.getfield 102, 3) := by decide +kernel
theorem dm_85_31 : decode cm_85 31 = .ok (.iload_n 2, 1) := by decide +kernel
theorem dm_85_32 : decode cm_85 32 = .ok (.iaload, 1) := by decide +kernel
theorem dm_85_33 : decode cm_85 33 = .ok (.ireturn, 1) := by decide +kernel
theorem dm_86_0 : decode cm_86 0 = .ok (.aload_n 0, 1) := by decide +kernel
theorem dm_86_1 : decode cm_86 1 = .ok (.getfield 26, 3) := by decide +kernel
theorem dm_86_4 : decode cm_86 4 = .ok (.iload_n 1, 1) := by decide +kernel
theorem dm_86_5 : decode cm_86 5 = .ok (.invokevirtual 106, 3) := by decide +kernel
theorem dm_86_8 : decode cm_86 8 = .ok (.ireturn, 1) := by decide +kernel
theorem dm_87_0 : decode cm_87 0 = .ok (.aload_n 0, 1) := by decide +kernel
theorem dm_87_1 : decode cm_87 1 = .ok (.getfield 26, 3) := by decide +kernel
theorem dm_87_4 : decode cm_87 4 = .ok (.iload_n 1, 1) := by decide +kernel
theorem dm_87_5 : decode cm_87 5 = .ok (.invokevirtual 85, 3) := by decide +kernel
theorem dm_87_8 : decode cm_87 8 = .ok (.astore_n 3, 1) := by decide +kernel
theorem dm_87_9 : decode cm_87 9 = .ok (.aload_n 3, 1) := by decide +kernel
theorem dm_87_10 : decode cm_87 10 = .ok (.ifnonnull 7, 3) := by decide +kernel
theorem dm_87_13 : decode cm_87 13 = .ok (.iconst 0, 1) := by decide +kernel
theorem dm_87_14 : decode cm_87 14 = .ok (.goto 8, 3) := by decide +kernel
theorem dm_87_17 : decode cm_87 17 = .ok (.aload_n 3, 1) := by decide +kernel
theorem dm_87_18 : decode cm_87 18 = .ok (.iload_n 2, 1) := by decide +kernel
theorem dm_87_19 : decode cm_87 19 = .ok (.invokevirtual 109, 3) := by decide +kernel
theorem dm_87_22 : decode cm_87 22 = .ok (.ireturn, 1) := by decide +kernel
theorem dm_88_0 : decode cm_88 0 = .ok (.aload_n 0, 1) := by decide +kernel
theorem dm_88_1 : decode cm_88 1 = .ok (.getfield 26, 3) := by decide +kernel
theorem dm_88_4 : decode cm_88 4 = .ok (.iload_n 1, 1) := by decide +kernel
theorem dm_88_5 : decode cm_88 5 = .ok (.invokevirtual 85, 3) := by decide +kernel
theorem dm_88_8 : decode cm_88 8 = .ok (.astore 4, 2) := by decide +kernel
theorem dm_88_10 : decode cm_88 10 = .ok (.aload 4, 2) := by decide +kernel
theorem dm_88_12 : decode cm_88 12 = .ok (.ifnonnull 7, 3) := by decide +kernel
theorem dm_88_15 : decode cm_88 15 = .ok (.iconst 0, 1) := by decide +kernel
theorem dm_88_16 : decode cm_88 16 = .ok (.goto 16, 3) := by decide +kernel
theorem dm_88_19 : decode cm_88 19 = .ok (.aload 4, 2) := by decide +kernel
theorem dm_88_21 : decode cm_88 21 = .ok (.getfield 112, 3) := by decide +kernel
theorem dm_88_24 : decode cm_88 24 = .ok (.getfield 116, 3) := by decide +kernel
theorem dm_88_27 : decode cm_88 27 = .ok (.iload_n 2, 1) := by decide +kernel
theorem dm_88_28 : decode cm_88 28 = .ok (.iload_n 3, 1) := by decide +kernel
theorem dm_88_29 : decode cm_88 29 = .ok (.invokevirtual 122, 3) := by decide +kernel
theorem dm_88_32 : decode cm_88 32 = .ok (.ireturn, 1) := by decide +kernel
theorem dm_89_0 : decode cm_89 0 = .ok (.aload_n 0, 1) := by decide +kernel
theorem dm_89_1 : decode cm_89 1 = .ok (.getfield 26, 3) := by decide +kernel
theorem dm_89_4 : decode cm_89 4 = .ok (.iload_n 1, 1) := by decide +kernel
theorem dm_89_5 : decode cm_89 5 = .ok (.invokevirtual 85, 3) := by decide +kernel
theorem dm_89_8 : decode cm_89 8 = .ok (.astore_n 3, 1) := by decide +kernel
theorem dm_89_9 : decode cm_89 9 = .ok (.aload_n 3, 1) := by decide +kernel
theorem dm_89_10 : decode cm_89 10 = .ok (.ifnull 24, 3) := by decide +kernel
theorem dm_89_13 : decode cm_89 13 = .ok (.iload_n 2, 1) := by decide +kernel
theorem dm_89_14 : decode cm_89 14 = .ok (.ifCond .lt 20, 3) := by decide +kernel
theorem dm_89_17 : decode cm_89 17 = .ok (.iload_n 2, 1) := by decide +kernel
theorem dm_89_18 : decode cm_89 18 = .ok (.sipush 300, 3) := by decide +kernel
theorem dm_89_21 : decode cm_89 21 = .ok (.if_icmp .gt 13, 3) := by decide +kernel
theorem dm_89_24 : decode cm_89 24 = .ok (.aload_n 0, 1) := by decide +kernel
theorem dm_89_25 : decode cm_89 25 = .ok (.getfield 10, 3) := by decide +kernel
theorem dm_89_28 : decode cm_89 28 = .ok (.invokevirtual 54, 3) := by decide +kernel
theorem dm_89_31 : decode cm_89 31 = .ok (.ifCond .ne 5, 3) := by decide +kernel
theorem dm_89_34 : decode cm_89 34 = .ok (.iconst (-1), 1) := by decide +kernel
theorem dm_89_35 : decode cm_89 35 = .ok (.ireturn, 1) := by decide +kernel
theorem dm_89_36 : decode cm_89 36 = .ok (.aload_n 0, 1) := by decide +kernel
theorem dm_89_37 : decode cm_89 37 = .ok (.getfield 33, 3) := by decide +kernel
theorem dm_89_40 : decode cm_89 40 = .ok (.aload_n 0, 1) := by decide +kernel
theorem dm_89_41 : decode cm_89 41 = .ok (.getfield 10, 3) := by decide +kernel
theorem dm_89_44 : decode cm_89 44 = .ok (.aload_n 3, 1) := by decide +kernel
theorem dm_89_45 : decode cm_89 45 = .ok (.iload_n 2, 1) := by decide +kernel
theorem dm_89_46 : decode cm_89 46 = .ok (.invokevirtual 128, 3) := by decide +kernel
theorem dm_89_49 : decode cm_89 49 = .ok (.ireturn, 1) := by decide +kernel
theorem dm_90_0 : decode cm_90 0 = .ok (.aload_n 0, 1) := by decide +kernel
theorem dm_90_1 : decode cm_90 1 = .ok (.getfield 33, 3) := by decide +kernel
theorem dm_90_4 : decode cm_90 4 = .ok (.getfield 132, 3) := by decide +kernel
theorem dm_90_7 : decode cm_90 7 = .ok (.getfield 116, 3) := by decide +kernel
theorem dm_90_10 : decode cm_90 10 = .ok (.iload_n 1, 1) := by decide +kernel
theorem dm_90_11 : decode cm_90 11 = .ok (.iload_n 2, 1) := by decide +kernel
theorem dm_90_12 : decode cm_90 12 = .ok (.invokevirtual 122, 3) := by decide +kernel
theorem dm_90_15 : decode cm_90 15 = .ok (.ireturn, 1) := by decide +kernel
theorem dm_91_0 : decode cm_91 0 = .ok (.aload_n 0, 1) := by decide +kernel
theorem dm_91_1 : decode cm_91 1 = .ok (.invokespecial 1, 3) := by decide +kernel
theorem dm_91_4 : decode cm_91 4 = .ok (.aload_n 0, 1) := by decide +kernel
theorem dm_91_5 : decode cm_91 5 = .ok (.sipush 256, 3) := by decide +kernel
theorem dm_91_8 : decode cm_91 8 = .ok (.newarray .int, 2) := by decide +kernel
theorem dm_91_10 : decode cm_91 10 = .ok (.putfield 7, 3) := by decide +kernel
theorem dm_91_13 : decode cm_91 13 = .ok (.aload_n 0, 1) := by decide +kernel
theorem dm_91_14 : decode cm_91 14 = .ok (.iconst 3, 1) := by decide +kernel
theorem dm_91_15 : decode cm_91 15 = .ok (.newarray .int, 2) := by decide +kernel
theorem dm_91_17 : decode cm_91 17 = .ok (.putfield 13, 3) := by decide +kernel
theorem dm_91_20 : decode cm_91 20 = .ok (.aload_n 0, 1) := by decide +kernel
theorem dm_91_21 : decode cm_91 21 = .ok (.bipush 24, 2) := by decide +kernel
theorem dm_91_23 : decode cm_91 23 = .ok (.newarray .int, 2) := by decide +kernel
theorem dm_91_25 : decode cm_91 25 = .ok (.putfield 16, 3) := by decide +kernel
theorem dm_91_28 : decode cm_91 28 = .ok (.aload_n 0, 1) := by decide +kernel
theorem dm_91_29 : decode cm_91 29 = .ok (.iconst 3, 1) := by decide +kernel
theorem dm_91_30 : decode cm_91 30 = .ok (.newarray .int, 2) := by decide +kernel
theorem dm_91_32 : decode cm_91 32 = .ok (.putfield 19, 3) := by decide +kernel
theorem dm_91_35 : decode cm_91 35 = .ok (.aload_n 0, 1) := by decide +kernel
theorem dm_91_36 : decode cm_91 36 = .ok (.iconst 3, 1) := by decide +kernel
theorem dm_91_37 : decode cm_91 37 = .ok (.newarray .int, 2) := by decide +kernel
theorem dm_91_39 : decode cm_91 39 = .ok (.putfield 22, 3) := by decide +kernel
theorem dm_91_42 : decode cm_91 42 = .ok (.aload_n 0, 1) := by decide +kernel
theorem dm_91_43 : decode cm_91 43 = .ok (.bipush 12, 2) := by decide +kernel
theorem dm_91_45 : decode cm_91 45 = .ok (.newarray .int, 2) := by decide +kernel
theorem dm_91_47 : decode cm_91 47 = .ok (.putfield 25, 3) := by decide +kernel
theorem dm_91_50 : decode cm_91 50 = .ok (.aload_n 0, 1) := by decide +kernel
theorem dm_91_51 : decode cm_91 51 = .ok (.iconst 3, 1) := by decide +kernel
theorem dm_91_52 : decode cm_91 52 = .ok (.newarray .int, 2) := by decide +kernel
theorem dm_91_54 : decode cm_91 54 = .ok (.putfield 28, 3) := by decide +kernel
theorem dm_91_57 : decode cm_91 57 = .ok (.aload_n 0, 1) := by decide +kernel
theorem dm_91_58 : decode cm_91 58 = .ok (.bipush 36, 2) := by decide +kernel
theorem dm_91_60 : decode cm_91 60 = .ok (.newarray .int, 2) := by decide +kernel
theorem dm_91_62 : decode cm_91 62 = .ok (.putfield 31, 3) := by decide +kernel
theorem dm_91_65 : decode cm_91 65 = .ok (.aload_n 0, 1) := by decide +kernel
theorem dm_91_66 : decode cm_91 66 = .ok (.iconst 3, 1) := by decide +kernel
theorem dm_91_67 : decode cm_91 67 = .ok (.newarray .int, 2) := by decide +kernel
theorem dm_91_69 : decode cm_91 69 = .ok (.putfield 34, 3) := by decide +kernel
theorem dm_91_72 : decode cm_91 72 = .ok (.aload_n 0, 1) := by decide +kernel
theorem dm_91_73 : decode cm_91 73 = .ok (.iconst 3, 1) := by decide +kernel
theorem dm_91_74 : decode cm_91 74 = .ok (.newarray .int, 2) := by decide +kernel
theorem dm_91_76 : decode cm_91 76 = .ok (.putfield 37, 3) := by decide +kernel
theorem dm_91_79 : decode cm_91 79 = .ok (.aload_n 0, 1) := by decide +kernel
theorem dm_91_80 : decode cm_91 80 = .ok (.bipush 24, 2) := by decide +kernel
theorem dm_91_82 : decode cm_91 82 = .ok (.newarray .int, 2) := by decide +kernel
theorem dm_91_84 : decode cm_91 84 = .ok (.putfield 40, 3) := by decide +kernel
theorem dm_91_87 : decode cm_91 87 = .ok (.aload_n 0, 1) := by decide +kernel
theorem dm_91_88 : decode cm_91 88 = .ok (.iconst 3, 1) := by decide +kernel
theorem dm_91_89 : decode cm_91 89 = .ok (.newarray .int, 2) := by decide +kernel
theorem dm_91_91 : decode cm_91 91 = .ok (.putfield 43, 3) := by decide +kernel
theorem dm_91_94 : decode cm_91 94 = .ok (.aload_n 0, 1) := by decide +kernel
theorem dm_91_95 : decode cm_91 95 = .ok (.iconst 3, 1) := by decide +kernel
theorem dm_91_96 : decode cm_91 96 = .ok (.newarray .int, 2) := by decide +kernel
theorem dm_91_98 : decode cm_91 98 = .ok (.putfield 46, 3) := by decide +kernel
theorem dm_91_101 : decode cm_91 101 = .ok (.aload_n 0, 1) := by decide +kernel
theorem dm_91_102 : decode cm_91 102 = .ok (.sipush 144, 3) := by decide +kernel
theorem dm_91_105 : decode cm_91 105 = .ok (.newarray .int, 2) := by decide +kernel
theorem dm_91_107 : decode cm_91 107 = .ok (.putfield 49, 3) := by decide +kernel
theorem dm_91_110 : decode cm_91 110 = .ok (.aload_n 0, 1) := by decide +kernel
theorem dm_91_111 : decode cm_91 111 = .ok (.bipush 24, 2) := by decide +kernel
theorem dm_91_113 : decode cm_91 113 = .ok (.newarray .int, 2) := by decide +kernel
theorem dm_91_115 : decode cm_91 115 = .ok (.putfield 52, 3) := by decide +kernel
theorem dm_91_118 : decode cm_91 118 = .ok (.aload_n 0, 1) := by decide +kernel
theorem dm_91_119 : decode cm_91 119 = .ok (.bipush 24, 2) := by decide +kernel
theorem dm_91_121 : decode cm_91 121 = .ok (.newarray .int, 2) := by decide +kernel
theorem dm_91_123 : decode cm_91 123 = .ok (.putfield 55, 3) := by decide +kernel
theorem dm_91_126 : decode cm_91 126 = .ok (.aload_n 0, 1) := by decide +kernel
theorem dm_91_127 : decode cm_91 127 = .ok (.bipush 24, 2) := by decide +kernel
theorem dm_91_129 : decode cm_91 129 = .ok (.newarray .int, 2) := by decide +kernel
theorem dm_91_131 : decode cm_91 131 = .ok (.putfield 58, 3) := by decide +kernel
theorem dm_91_134 : decode cm_91 134 = .ok (.aload_n 0, 1) := by decide +kernel
theorem dm_91_135 : decode cm_91 135 = .ok (.bipush 24, 2) := by decide +kernel
theorem dm_91_137 : decode cm_91 137 = .ok (.newarray .int, 2) := by decide +kernel
theorem dm_91_139 : decode cm_91 139 = .ok (.putfield 61, 3) := by decide +kernel
theorem dm_91_142 : decode cm_91 142 = .ok (.aload_n 0, 1) := by decide +kernel
theorem dm_91_143 : decode cm_91 143 = .ok (.bipush 8, 2) := by decide +kernel
theorem dm_91_145 : decode cm_91 145 = .ok (.newarray .boolean, 2) := by decide +kernel
theorem dm_91_147 : decode cm_91 147 = .ok (.putfield 64, 3) := by decide +kernel
theorem dm_91_150 : decode cm_91 150 = .ok (.aload_n 0, 1) := by decide +kernel
theorem dm_91_151 : decode cm_91 151 = .ok (.bipush 8, 2) := by decide +kernel
theorem dm_91_153 : decode cm_91 153 = .ok (.newarray .int, 2) := by decide +kernel
theorem dm_91_155 : decode cm_91 155 = .ok (.putfield 68, 3) := by decide +kernel
theorem dm_91_158 : decode cm_91 158 = .ok (.aload_n 0, 1) := by decide +kernel
theorem dm_91_159 : decode cm_91 159 = .ok (.bipush 31, 2) := by decide +kernel
theorem dm_91_161 : decode cm_91 161 = .ok (.newarray .int, 2) := by decide +kernel
theorem dm_91_163 : decode cm_91 163 = .ok (.putfield 71, 3) := by decide +kernel
theorem dm_91_166 : decode cm_91 166 = .ok (.aload_n 0, 1) := by decide +kernel
theorem dm_91_167 : decode cm_91 167 = .ok (.bipush 24, 2) := by decide +kernel
theorem dm_91_169 : decode cm_91 169 = .ok (.newarray .int, 2) := by decide +kernel
theorem dm_91_171 : decode cm_91 171 = .ok (.putfield 74, 3) := by decide +kernel
theorem dm_91_174 : decode cm_91 174 = .ok (.aload_n 0, 1) := by decide +kernel
theorem dm_91_175 : decode cm_91 175 = .ok (.bipush 24, 2) := by decide +kernel
theorem dm_91_177 : decode cm_91 177 = .ok (.newarray .boolean, 2) := by decide +kernel
theorem dm_91_179 : decode cm_91 179 = .ok (.putfield 77, 3) := by decide +kernel
theorem dm_91_182 : decode cm_91 182 = .ok (.aload_n 0, 1) := by decide +kernel
theorem dm_91_183 : decode cm_91 183 = .ok (.bipush 48, 2) := by decide +kernel
theorem dm_91_185 : decode cm_91 185 = .ok (.newarray .int, 2) := by decide +kernel
theorem dm_91_187 : decode cm_91 187 = .ok (.putfield 80, 3) := by decide +kernel
theorem dm_91_190 : decode cm_91 190 = .ok (.return_, 1) := by decide +kernel
theorem dm_92_0 : decode cm_92 0 = .ok (.iload_n 0, 1) := by decide +kernel
theorem dm_92_1 : decode cm_92 1 = .ok (.iload_n 1, 1) := by decide +kernel
theorem dm_92_2 : decode cm_92 2 = .ok (.if_icmp .lt 12, 3) := by decide +kernel
theorem dm_92_5 : decode cm_92 5 = .ok (.iload_n 0, 1) := by decide +kernel
theorem dm_92_6 : decode cm_92 6 = .ok (.iload_n 2, 1) := by decide +kernel
theorem dm_92_7 : decode cm_92 7 = .ok (.if_icmp .gt 7, 3) := by decide +kernel
theorem dm_92_10 : decode cm_92 10 = .ok (.iconst 1, 1) := by decide +kernel
theorem dm_92_11 : decode cm_92 11 = .ok (.goto 4, 3) := by decide +kernel
theorem dm_92_14 : decode cm_92 14 = .ok (.iconst 0, 1) := by decide +kernel
theorem dm_92_15 : decode cm_92 15 = .ok (.ireturn, 1) := by decide +kernel
theorem dm_93_0 : decode cm_93 0 = .ok (.iload_n 1, 1) := by decide +kernel
theorem dm_93_1 : decode cm_93 1 = .ok (.iconst 0, 1) := by decide +kernel
theorem dm_93_2 : decode cm_93 2 = .ok (.bipush 15, 2) := by decide +kernel
theorem dm_93_4 : decode cm_93 4 = .ok (.invokestatic 83, 3) := by decide +kernel
theorem dm_93_7 : decode cm_93 7 = .ok (.ifCond .eq 44, 3) := by decide +kernel
theorem dm_93_10 : decode cm_93 10 = .ok (.iload_n 2, 1) := by decide +kernel
theorem dm_93_11 : decode cm_93 11 = .ok (.iconst 0, 1) := by decide +kernel
theorem dm_93_12 : decode cm_93 12 = .ok (.bipush 7, 2) := by decide +kernel
theorem dm_93_14 : decode cm_93 14 = .ok (.invokestatic 83, 3) := by decide +kernel
theorem dm_93_17 : decode cm_93 17 = .ok (.ifCond .eq 34, 3) := by decide +kernel
theorem dm_93_20 : decode cm_93 20 = .ok (.iload_n 3, 1) := by decide +kernel
theorem dm_93_21 : decode cm_93 21 = .ok (.iconst 0, 1) := by decide +kernel
theorem dm_93_22 : decode cm_93 22 = .ok (.bipush 7, 2) := by decide +kernel
theorem dm_93_24 : decode cm_93 24 = .ok (.invokestatic 83, 3) := by decide +kernel
theorem dm_93_27 : decode cm_93 27 = .ok (.ifCond .eq 24, 3) := by decide +kernel
theorem dm_93_30 : decode cm_93 30 = .ok (.iload 4, 2) := by decide +kernel
theorem dm_93_32 : decode cm_93 32 = .ok (.ldc 87, 2) := by decide +kernel
theorem dm_93_34 : decode cm_93 34 = .ok (.ldc 88, 2) := by decide +kernel
theorem dm_93_36 : decode cm_93 36 = .ok (.invokestatic 83, 3) := by decide +kernel
theorem dm_93_39 : decode cm_93 39 = .ok (.ifCond .eq 12, 3) := by decide +kernel
theorem dm_93_42 : decode cm_93 42 = .ok (.aload_n 0, 1) := by decide +kernel
theorem dm_93_43 : decode cm_93 43 = .ok (.getfield 89, 3) := by decide +kernel
theorem dm_93_46 : decode cm_93 46 = .ok (.bipush 24, 2) := by decide +kernel
theorem dm_93_48 : decode cm_93 48 = .ok (.if_icmp .ne 5, 3) := by decide +kernel
theorem dm_93_51 : decode cm_93 51 = .ok (.iconst 0, 1) := by decide +kernel
theorem dm_93_52 : decode cm_93 52 = .ok (.ireturn, 1) := by decide +kernel
theorem dm_93_53 : decode cm_93 53 = .ok (.aload_n 0, 1) := by decide +kernel
theorem dm_93_54 : decode cm_93 54 = .ok (.getfield 52, 3) := by decide +kernel
theorem dm_93_57 : decode cm_93 57 = .ok (.aload_n 0, 1) := by decide +kernel
theorem dm_93_58 : decode cm_93 58 = .ok (.getfield 89, 3) := by decide +kernel
theorem dm_93_61 : decode cm_93 61 = .ok (.iload_n 1, 1) := by decide +kernel
theorem dm_93_62 : decode cm_93 62 = .ok (.iastore, 1) := by decide +kernel
theorem dm_93_63 : decode cm_93 63 = .ok (.aload_n 0, 1) := by decide +kernel
theorem dm_93_64 : decode cm_93 64 = .ok (.getfield 55, 3) := by decide +kernel
theorem dm_93_67 : decode cm_93 67 = .ok (.aload_n 0, 1) := by decide +kernel
theorem dm_93_68 : decode cm_93 68 = .ok (.getfield 89, 3) := by decide +kernel
theorem dm_93_71 : decode cm_93 71 = .ok (.iload_n 2, 1) := by decide +kernel
theorem dm_93_72 : decode cm_93 72 = .ok (.iastore, 1) := by decide +kernel
theorem dm_93_73 : decode cm_93 73 = .ok (.aload_n 0, 1) := by decide +kernel
theorem dm_93_74 : decode cm_93 74 = .ok (.getfield 58, 3) := by decide +kernel
theorem dm_93_77 : decode cm_93 77 = .ok (.aload_n 0, 1) := by decide +kernel
theorem dm_93_78 : decode cm_93 78 = .ok (.getfield 89, 3) := by decide +kernel
theorem dm_93_81 : decode cm_93 81 = .ok (.iload_n 3, 1) := by decide +kernel
theorem dm_93_82 : decode cm_93 82 = .ok (.iastore, 1) := by decide +kernel
theorem dm_93_83 : decode cm_93 83 = .ok (.aload_n 0, 1) := by decide +kernel
theorem dm_93_84 : decode cm_93 84 = .ok (.getfield 61, 3) := by decide +kernel
theorem dm_93_87 : decode cm_93 87 = .ok (.aload_n 0, 1) := by decide +kernel
theorem dm_93_88 : decode cm_93 88 = .ok (.getfield 89, 3) := by decide +kernel
theorem dm_93_91 : decode cm_93 91 = .ok (.iload 4, 2) := by decide +kernel
theorem dm_93_93 : decode cm_93 93 = .ok (.iastore, 1) := by decide +kernel
theorem dm_93_94 : decode cm_93 94 = .ok (.aload_n 0, 1) := by decide +kernel
theorem dm_93_95 : decode cm_93 95 = .ok (.dup, 1) := by decide +kernel
theorem dm_93_96 : decode cm_93 96 = .ok (.getfield 89, 3) := by decide +kernel
theorem dm_93_99 : decode cm_93 99 = .ok (.iconst 1, 1) := by decide +kernel
theorem dm_93_100 : decode cm_93 100 = .ok (.iadd, 1) := by decide +kernel
theorem dm_93_101 : decode cm_93 101 = .ok (.putfield 89, 3) := by decide +kernel
theorem dm_93_104 : decode cm_93 104 = .ok (.iconst 1, 1) := by decide +kernel
theorem dm_93_105 : decode cm_93 105 = .ok (.ireturn, 1) := by decide +kernel
theorem dm_94_0 : decode cm_94 0 = .ok (.iload_n 1, 1) := by decide +kernel
theorem dm_94_1 : decode cm_94 1 = .ok (.iconst 0, 1) := by decide +kernel
theorem dm_94_2 : decode cm_94 2 = .ok (.bipush 7, 2) := by decide +kernel
theorem dm_94_4 : decode cm_94 4 = .ok (.invokestatic 83, 3) := by decide +kernel
theorem dm_94_7 : decode cm_94 7 = .ok (.ifCond .eq 12, 3) := by decide +kernel
theorem dm_94_10 : decode cm_94 10 = .ok (.aload_n 0, 1) := by decide +kernel
theorem dm_94_11 : decode cm_94 11 = .ok (.getfield 64, 3) := by decide +kernel
theorem dm_94_14 : decode cm_94 14 = .ok (.iload_n 1, 1) := by decide +kernel
theorem dm_94_15 : decode cm_94 15 = .ok (.baload, 1) := by decide +kernel
theorem dm_94_16 : decode cm_94 16 = .ok (.ifCond .eq 5, 3) := by decide +kernel
theorem dm_94_19 : decode cm_94 19 = .ok (.iconst 0, 1) := by decide +kernel
theorem dm_94_20 : decode cm_94 20 = .ok (.ireturn, 1) := by decide +kernel
theorem dm_94_21 : decode cm_94 21 = .ok (.aload_n 0, 1) := by decide +kernel
theorem dm_94_22 : decode cm_94 22 = .ok (.getfield 64, 3) := by decide +kernel
theorem dm_94_25 : decode cm_94 25 = .ok (.iload_n 1, 1) := by decide +kernel
theorem dm_94_26 : decode cm_94 26 = .ok (.iconst 1, 1) := by decide +kernel
theorem dm_94_27 : decode cm_94 27 = .ok (.bastore, 1) := by decide +kernel
theorem dm_94_28 : decode cm_94 28 = .ok (.aload_n 0, 1) := by decide +kernel
theorem dm_94_29 : decode cm_94 29 = .ok (.getfield 68, 3) := by decide +kernel
theorem dm_94_32 : decode cm_94 32 = .ok (.iload_n 1, 1) := by decide +kernel
theorem dm_94_33 : decode cm_94 33 = .ok (.aload_n 0, 1) := by decide +kernel
theorem dm_94_34 : decode cm_94 34 = .ok (.getfield 89, 3) := by decide +kernel
theorem dm_94_37 : decode cm_94 37 = .ok (.iastore, 1) := by decide +kernel
theorem dm_94_38 : decode cm_94 38 = .ok (.iconst 1, 1) := by decide +kernel
theorem dm_94_39 : decode cm_94 39 = .ok (.ireturn, 1) := by decide +kernel
theorem dm_95_0 : decode cm_95 0 = .ok (.aload_n 0, 1) := by decide +kernel
theorem dm_95_1 : decode cm_95 1 = .ok (.iconst 0, 1) := by decide +kernel
theorem dm_95_2 : decode cm_95 2 = .ok (.putfield 89, 3) := by decide +kernel
theorem dm_95_5 : decode cm_95 5 = .ok (.aload_n 0, 1) := by decide +kernel
theorem dm_95_6 : decode cm_95 6 = .ok (.iconst 0, 1) := by decide +kernel
theorem dm_95_7 : decode cm_95 7 = .ok (.putfield 93, 3) := by decide +kernel
theorem dm_95_10 : decode cm_95 10 = .ok (.iconst 0, 1) := by decide +kernel
theorem dm_95_11 : decode cm_95 11 = .ok (.istore_n 1, 1) := by decide +kernel
theorem dm_95_12 : decode cm_95 12 = .ok (.iload_n 1, 1) := by decide +kernel
theorem dm_95_13 : decode cm_95 13 = .ok (.bipush 8, 2) := by decide +kernel
theorem dm_95_15 : decode cm_95 15 = .ok (.if_icmp .ge 16, 3) := by decide +kernel
theorem dm_95_18 : decode cm_95 18 = .ok (.aload_n 0, 1) := by decide +kernel
theorem dm_95_19 : decode cm_95 19 = .ok (.getfield 64, 3) := by decide +kernel
theorem dm_95_22 : decode cm_95 22 = .ok (.iload_n 1, 1) := by decide +kernel
theorem dm_95_23 : decode cm_95 23 = .ok (.iconst 0, 1) := by decide +kernel
theorem dm_95_24 : decode cm_95 24 = .ok (.bastore, 1) := by decide +kernel
theorem dm_95_25 : decode cm_95 25 = .ok (.iinc 1 1, 3) := by decide +kernel
theorem dm_95_28 : decode cm_95 28 = .ok (.goto (-16), 3) := by decide +kernel
theorem dm_95_31 : decode cm_95 31 = .ok (.return_, 1) := by decide +kernel
theorem dm_96_0 : decode cm_96 0 = .ok (.iconst 0, 1) := by decide +kernel
theorem dm_96_1 : decode cm_96 1 = .ok (.istore_n 2, 1) := by decide +kernel
theorem dm_96_2 : decode cm_96 2 = .ok (.iconst 0, 1) := by decide +kernel
theorem dm_96_3 : decode cm_96 3 = .ok (.istore_n 3, 1) := by decide +kernel
theorem dm_96_4 : decode cm_96 4 = .ok (.iload_n 3, 1) := by decide +kernel
theorem dm_96_5 : decode cm_96 5 = .ok (.iload_n 1, 1) := by decide +kernel
theorem dm_96_6 : decode cm_96 6 = .ok (.if_icmp .ge 54, 3) := by decide +kernel
theorem dm_96_9 : decode cm_96 9 = .ok (.iload_n 2, 1) := by decide +kernel
theorem dm_96_10 : decode cm_96 10 = .ok (.aload_n 0, 1) := by decide +kernel
theorem dm_96_11 : decode cm_96 11 = .ok (.getfield 52, 3) := by decide +kernel
theorem dm_96_14 : decode cm_96 14 = .ok (.iload_n 3, 1) := by decide +kernel
theorem dm_96_15 : decode cm_96 15 = .ok (.iaload, 1) := by decide +kernel
theorem dm_96_16 : decode cm_96 16 = .ok (.bipush 8, 2) := by decide +kernel
theorem dm_96_18 : decode cm_96 18 = .ok (.if_icmp .eq 14, 3) := by decide +kernel
theorem dm_96_21 : decode cm_96 21 = .ok (.aload_n 0, 1) := by decide +kernel
theorem dm_96_22 : decode cm_96 22 = .ok (.getfield 52, 3) := by decide +kernel
theorem dm_96_25 : decode cm_96 25 = .ok (.iload_n 3, 1) := by decide +kernel
theorem dm_96_26 : decode cm_96 26 = .ok (.iaload, 1) := by decide +kernel
theorem dm_96_27 : decode cm_96 27 = .ok (.bipush 9, 2) := by decide +kernel
theorem dm_96_29 : decode cm_96 29 = .ok (.if_icmp .ne 7, 3) := by decide +kernel
theorem dm_96_32 : decode cm_96 32 = .ok (.iconst 4, 1) := by decide +kernel
theorem dm_96_33 : decode cm_96 33 = .ok (.goto 19, 3) := by decide +kernel
theorem dm_96_36 : decode cm_96 36 = .ok (.aload_n 0, 1) := by decide +kernel
theorem dm_96_37 : decode cm_96 37 = .ok (.getfield 52, 3) := by decide +kernel
theorem dm_96_40 : decode cm_96 40 = .ok (.iload_n 3, 1) := by decide +kernel
theorem dm_96_41 : decode cm_96 41 = .ok (.iaload, 1) := by decide +kernel
theorem dm_96_42 : decode cm_96 42 = .ok (.bipush 13, 2) := by decide +kernel
theorem dm_96_44 : decode cm_96 44 = .ok (.if_icmp .ne 7, 3) := by decide +kernel
theorem dm_96_47 : decode cm_96 47 = .ok (.iconst 3, 1) := by decide +kernel
theorem dm_96_48 : decode cm_96 48 = .ok (.goto 4, 3) := by decide +kernel
theorem dm_96_51 : decode cm_96 51 = .ok (.iconst 1, 1) := by decide +kernel
theorem dm_96_52 : decode cm_96 52 = .ok (.iadd, 1) := by decide +kernel
theorem dm_96_53 : decode cm_96 53 = .ok (.istore_n 2, 1) := by decide +kernel
theorem dm_96_54 : decode cm_96 54 = .ok (.iinc 3 1, 3) := by decide +kernel
theorem dm_96_57 : decode cm_96 57 = .ok (.goto (-53), 3) := by decide +kernel
theorem dm_96_60 : decode cm_96 60 = .ok (.iload_n 2, 1) := by decide +kernel
theorem dm_96_61 : decode cm_96 61 = .ok (.ireturn, 1) := by decide +kernel
theorem dm_97_0 : decode cm_97 0 = .ok (.aload_n 0, 1) := by decide +kernel
theorem dm_97_1 : decode cm_97 1 = .ok (.getfield 52, 3) := by decide +kernel
theorem dm_97_4 : decode cm_97 4 = .ok (.iload_n 1, 1) := by decide +kernel
theorem dm_97_5 : decode cm_97 5 = .ok (.iaload, 1) := by decide +kernel
theorem dm_97_6 : decode cm_97 6 = .ok (.istore_n 2, 1) := by decide +kernel
theorem dm_97_7 : decode cm_97 7 = .ok (.aload_n 0, 1) := by decide +kernel
theorem dm_97_8 : decode cm_97 8 = .ok (.getfield 61, 3) := by decide +kernel
theorem dm_97_11 : decode cm_97 11 = .ok (.iload_n 1, 1) := by decide +kernel
theorem dm_97_12 : decode cm_97 12 = .ok (.iaload, 1) := by decide +kernel
theorem dm_97_13 : decode cm_97 13 = .ok (.istore_n 3, 1) := by decide +kernel
theorem dm_97_14 : decode cm_97 14 = .ok (.iload_n 2, 1) := by decide +kernel
theorem dm_97_15 : decode cm_97 15 = .ok (.iconst 2, 1) := by decide +kernel
theorem dm_97_16 : decode cm_97 16 = .ok (.bipush 11, 2) := by decide +kernel
theorem dm_97_18 : decode cm_97 18 = .ok (.invokestatic 83, 3) := by decide +kernel
theorem dm_97_21 : decode cm_97 21 = .ok (.istore 4, 2) := by decide +kernel
theorem dm_97_23 : decode cm_97 23 = .ok (.iload 4, 2) := by decide +kernel
theorem dm_97_25 : decode cm_97 25 = .ok (.ifCond .ne 20, 3) := by decide +kernel
theorem dm_97_28 : decode cm_97 28 = .ok (.iload_n 2, 1) := by decide +kernel
theorem dm_97_29 : decode cm_97 29 = .ok (.iconst 1, 1) := by decide +kernel
theorem dm_97_30 : decode cm_97 30 = .ok (.if_icmp .eq 15, 3) := by decide +kernel
theorem dm_97_33 : decode cm_97 33 = .ok (.iload_n 2, 1) := by decide +kernel
theorem dm_97_34 : decode cm_97 34 = .ok (.bipush 13, 2) := by decide +kernel
theorem dm_97_36 : decode cm_97 36 = .ok (.if_icmp .eq 9, 3) := by decide +kernel
theorem dm_97_39 : decode cm_97 39 = .ok (.iload_n 2, 1) := by decide +kernel
theorem dm_97_40 : decode cm_97 40 = .ok (.bipush 15, 2) := by decide +kernel
theorem dm_97_42 : decode cm_97 42 = .ok (.if_icmp .ne 7, 3) := by decide +kernel
theorem dm_97_45 : decode cm_97 45 = .ok (.iconst 1, 1) := by decide +kernel
theorem dm_97_46 : decode cm_97 46 = .ok (.goto 4, 3) := by decide +kernel
theorem dm_97_49 : decode cm_97 49 = .ok (.iconst 0, 1) := by decide +kernel
theorem dm_97_50 : decode cm_97 50 = .ok (.istore 5, 2) := by decide +kernel
theorem dm_97_52 : decode cm_97 52 = .ok (.iload 5, 2) := by decide +kernel
theorem dm_97_54 : decode cm_97 54 = .ok (.ifCond .eq 13, 3) := by decide +kernel
theorem dm_97_57 : decode cm_97 57 = .ok (.aload_n 0, 1) := by decide +kernel
theorem dm_97_58 : decode cm_97 58 = .ok (.getfield 55, 3) := by decide +kernel
theorem dm_97_61 : decode cm_97 61 = .ok (.iload_n 1, 1) := by decide +kernel
theorem dm_97_62 : decode cm_97 62 = .ok (.iaload, 1) := by decide +kernel
theorem dm_97_63 : decode cm_97 63 = .ok (.iconst 4, 1) := by decide +kernel
theorem dm_97_64 : decode cm_97 64 = .ok (.if_icmp .gt 18, 3) := by decide +kernel
theorem dm_97_67 : decode cm_97 67 = .ok (.iload 4, 2) := by decide +kernel
theorem dm_97_69 : decode cm_97 69 = .ok (.ifCond .eq 15, 3) := by decide +kernel
theorem dm_97_72 : decode cm_97 72 = .ok (.aload_n 0, 1) := by decide +kernel
theorem dm_97_73 : decode cm_97 73 = .ok (.getfield 58, 3) := by decide +kernel
theorem dm_97_76 : decode cm_97 76 = .ok (.iload_n 1, 1) := by decide +kernel
end
section
theorem dm_97_77 : decode cm_97 77 = .ok (.iaload, 1) := by decide +kernel
theorem dm_97_78 : decode cm_97 78 = .ok (.iconst 4, 1) := by decide +kernel
theorem dm_97_79 : decode cm_97 79 = .ok (.if_icmp .le 5, 3) := by decide +kernel
theorem dm_97_82 : decode cm_97 82 = .ok (.iconst 0, 1) := by decide +kernel
theorem dm_97_83 : decode cm_97 83 = .ok (.ireturn, 1) := by decide +kernel
theorem dm_97_84 : decode cm_97 84 = .ok (.iload_n 2, 1) := by decide +kernel
theorem dm_97_85 : decode cm_97 85 = .ok (.bipush 10, 2) := by decide +kernel
theorem dm_97_87 : decode cm_97 87 = .ok (.bipush 12, 2) := by decide +kernel
theorem dm_97_89 : decode cm_97 89 = .ok (.invokestatic 83, 3) := by decide +kernel
theorem dm_97_92 : decode cm_97 92 = .ok (.ifCond .ne 9, 3) := by decide +kernel
theorem dm_97_95 : decode cm_97 95 = .ok (.iload_n 2, 1) := by decide +kernel
theorem dm_97_96 : decode cm_97 96 = .ok (.bipush 15, 2) := by decide +kernel
theorem dm_97_98 : decode cm_97 98 = .ok (.if_icmp .ne 28, 3) := by decide +kernel
theorem dm_97_101 : decode cm_97 101 = .ok (.iload_n 3, 1) := by decide +kernel
theorem dm_97_102 : decode cm_97 102 = .ok (.iconst 0, 1) := by decide +kernel
theorem dm_97_103 : decode cm_97 103 = .ok (.bipush 7, 2) := by decide +kernel
theorem dm_97_105 : decode cm_97 105 = .ok (.invokestatic 83, 3) := by decide +kernel
theorem dm_97_108 : decode cm_97 108 = .ok (.ifCond .eq 16, 3) := by decide +kernel
theorem dm_97_111 : decode cm_97 111 = .ok (.aload_n 0, 1) := by decide +kernel
theorem dm_97_112 : decode cm_97 112 = .ok (.getfield 64, 3) := by decide +kernel
theorem dm_97_115 : decode cm_97 115 = .ok (.iload_n 3, 1) := by decide +kernel
theorem dm_97_116 : decode cm_97 116 = .ok (.baload, 1) := by decide +kernel
theorem dm_97_117 : decode cm_97 117 = .ok (.ifCond .eq 7, 3) := by decide +kernel
theorem dm_97_120 : decode cm_97 120 = .ok (.iconst 1, 1) := by decide +kernel
theorem dm_97_121 : decode cm_97 121 = .ok (.goto 4, 3) := by decide +kernel
theorem dm_97_124 : decode cm_97 124 = .ok (.iconst 0, 1) := by decide +kernel
theorem dm_97_125 : decode cm_97 125 = .ok (.ireturn, 1) := by decide +kernel
theorem dm_97_126 : decode cm_97 126 = .ok (.iload_n 2, 1) := by decide +kernel
theorem dm_97_127 : decode cm_97 127 = .ok (.bipush 14, 2) := by decide +kernel
theorem dm_97_129 : decode cm_97 129 = .ok (.if_icmp .ne 13, 3) := by decide +kernel
theorem dm_97_132 : decode cm_97 132 = .ok (.iload_n 3, 1) := by decide +kernel
theorem dm_97_133 : decode cm_97 133 = .ok (.iconst 0, 1) := by decide +kernel
theorem dm_97_134 : decode cm_97 134 = .ok (.bipush 6, 2) := by decide +kernel
theorem dm_97_136 : decode cm_97 136 = .ok (.invokestatic 83, 3) := by decide +kernel
theorem dm_97_139 : decode cm_97 139 = .ok (.ifCond .eq 7, 3) := by decide +kernel
theorem dm_97_142 : decode cm_97 142 = .ok (.iconst 1, 1) := by decide +kernel
theorem dm_97_143 : decode cm_97 143 = .ok (.goto 4, 3) := by decide +kernel
theorem dm_97_146 : decode cm_97 146 = .ok (.iconst 0, 1) := by decide +kernel
theorem dm_97_147 : decode cm_97 147 = .ok (.ireturn, 1) := by decide +kernel
theorem dm_98_0 : decode cm_98 0 = .ok (.iconst 0, 1) := by decide +kernel
theorem dm_98_1 : decode cm_98 1 = .ok (.istore_n 1, 1) := by decide +kernel
theorem dm_98_2 : decode cm_98 2 = .ok (.iload_n 1, 1) := by decide +kernel
theorem dm_98_3 : decode cm_98 3 = .ok (.aload_n 0, 1) := by decide +kernel
theorem dm_98_4 : decode cm_98 4 = .ok (.getfield 89, 3) := by decide +kernel
theorem dm_98_7 : decode cm_98 7 = .ok (.if_icmp .ge 19, 3) := by decide +kernel
theorem dm_98_10 : decode cm_98 10 = .ok (.aload_n 0, 1) := by decide +kernel
theorem dm_98_11 : decode cm_98 11 = .ok (.iload_n 1, 1) := by decide +kernel
theorem dm_98_12 : decode cm_98 12 = .ok (.invokevirtual 96, 3) := by decide +kernel
theorem dm_98_15 : decode cm_98 15 = .ok (.ifCond .ne 5, 3) := by decide +kernel
theorem dm_98_18 : decode cm_98 18 = .ok (.iconst 0, 1) := by decide +kernel
theorem dm_98_19 : decode cm_98 19 = .ok (.ireturn, 1) := by decide +kernel
theorem dm_98_20 : decode cm_98 20 = .ok (.iinc 1 1, 3) := by decide +kernel
theorem dm_98_23 : decode cm_98 23 = .ok (.goto (-21), 3) := by decide +kernel
theorem dm_98_26 : decode cm_98 26 = .ok (.aload_n 0, 1) := by decide +kernel
theorem dm_98_27 : decode cm_98 27 = .ok (.aload_n 0, 1) := by decide +kernel
theorem dm_98_28 : decode cm_98 28 = .ok (.getfield 89, 3) := by decide +kernel
theorem dm_98_31 : decode cm_98 31 = .ok (.invokevirtual 100, 3) := by decide +kernel
theorem dm_98_34 : decode cm_98 34 = .ok (.iconst 1, 1) := by decide +kernel
theorem dm_98_35 : decode cm_98 35 = .ok (.iadd, 1) := by decide +kernel
theorem dm_98_36 : decode cm_98 36 = .ok (.bipush 31, 2) := by decide +kernel
theorem dm_98_38 : decode cm_98 38 = .ok (.if_icmp .gt 7, 3) := by decide +kernel
theorem dm_98_41 : decode cm_98 41 = .ok (.iconst 1, 1) := by decide +kernel
theorem dm_98_42 : decode cm_98 42 = .ok (.goto 4, 3) := by decide +kernel
theorem dm_98_45 : decode cm_98 45 = .ok (.iconst 0, 1) := by decide +kernel
theorem dm_98_46 : decode cm_98 46 = .ok (.ireturn, 1) := by decide +kernel
theorem dm_99_0 : decode cm_99 0 = .ok (.iload_n 0, 1) := by decide +kernel
theorem dm_99_1 : decode cm_99 1 = .ok (.iload_n 1, 1) := by decide +kernel
theorem dm_99_2 : decode cm_99 2 = .ok (.iconst 4, 1) := by decide +kernel
theorem dm_99_3 : decode cm_99 3 = .ok (.ishl, 1) := by decide +kernel
theorem dm_99_4 : decode cm_99 4 = .ok (.ior, 1) := by decide +kernel
theorem dm_99_5 : decode cm_99 5 = .ok (.iload_n 2, 1) := by decide +kernel
theorem dm_99_6 : decode cm_99 6 = .ok (.bipush 7, 2) := by decide +kernel
theorem dm_99_8 : decode cm_99 8 = .ok (.ishl, 1) := by decide +kernel
theorem dm_99_9 : decode cm_99 9 = .ok (.ior, 1) := by decide +kernel
theorem dm_99_10 : decode cm_99 10 = .ok (.iload_n 3, 1) := by decide +kernel
theorem dm_99_11 : decode cm_99 11 = .ok (.bipush 10, 2) := by decide +kernel
theorem dm_99_13 : decode cm_99 13 = .ok (.ishl, 1) := by decide +kernel
theorem dm_99_14 : decode cm_99 14 = .ok (.ior, 1) := by decide +kernel
theorem dm_99_15 : decode cm_99 15 = .ok (.ireturn, 1) := by decide +kernel
theorem dm_100_0 : decode cm_100 0 = .ok (.aload_n 0, 1) := by decide +kernel
theorem dm_100_1 : decode cm_100 1 = .ok (.getfield 71, 3) := by decide +kernel
theorem dm_100_4 : decode cm_100 4 = .ok (.aload_n 0, 1) := by decide +kernel
theorem dm_100_5 : decode cm_100 5 = .ok (.getfield 93, 3) := by decide +kernel
theorem dm_100_8 : decode cm_100 8 = .ok (.iload_n 1, 1) := by decide +kernel
theorem dm_100_9 : decode cm_100 9 = .ok (.iastore, 1) := by decide +kernel
theorem dm_100_10 : decode cm_100 10 = .ok (.aload_n 0, 1) := by decide +kernel
theorem dm_100_11 : decode cm_100 11 = .ok (.dup, 1) := by decide +kernel
theorem dm_100_12 : decode cm_100 12 = .ok (.getfield 93, 3) := by decide +kernel
theorem dm_100_15 : decode cm_100 15 = .ok (.iconst 1, 1) := by decide +kernel
theorem dm_100_16 : decode cm_100 16 = .ok (.iadd, 1) := by decide +kernel
theorem dm_100_17 : decode cm_100 17 = .ok (.putfield 93, 3) := by decide +kernel
theorem dm_100_20 : decode cm_100 20 = .ok (.return_, 1) := by decide +kernel
theorem dm_101_0 : decode cm_101 0 = .ok (.aload_n 0, 1) := by decide +kernel
theorem dm_101_1 : decode cm_101 1 = .ok (.aload_n 0, 1) := by decide +kernel
theorem dm_101_2 : decode cm_101 2 = .ok (.getfield 68, 3) := by decide +kernel
theorem dm_101_5 : decode cm_101 5 = .ok (.iload_n 1, 1) := by decide +kernel
theorem dm_101_6 : decode cm_101 6 = .ok (.iaload, 1) := by decide +kernel
theorem dm_101_7 : decode cm_101 7 = .ok (.invokevirtual 100, 3) := by decide +kernel
theorem dm_101_10 : decode cm_101 10 = .ok (.ireturn, 1) := by decide +kernel
theorem dm_102_0 : decode cm_102 0 = .ok (.iload_n 1, 1) := by decide +kernel
theorem dm_102_1 : decode cm_102 1 = .ok (.iconst 0, 1) := by decide +kernel
theorem dm_102_2 : decode cm_102 2 = .ok (.iconst 2, 1) := by decide +kernel
theorem dm_102_3 : decode cm_102 3 = .ok (.invokestatic 83, 3) := by decide +kernel
theorem dm_102_6 : decode cm_102 6 = .ok (.ifCond .eq 10, 3) := by decide +kernel
theorem dm_102_9 : decode cm_102 9 = .ok (.aload_n 0, 1) := by decide +kernel
theorem dm_102_10 : decode cm_102 10 = .ok (.invokevirtual 104, 3) := by decide +kernel
theorem dm_102_13 : decode cm_102 13 = .ok (.ifCond .ne 5, 3) := by decide +kernel
theorem dm_102_16 : decode cm_102 16 = .ok (.iconst (-1), 1) := by decide +kernel
theorem dm_102_17 : decode cm_102 17 = .ok (.ireturn, 1) := by decide +kernel
theorem dm_102_18 : decode cm_102 18 = .ok (.aload_n 0, 1) := by decide +kernel
theorem dm_102_19 : decode cm_102 19 = .ok (.iconst 0, 1) := by decide +kernel
theorem dm_102_20 : decode cm_102 20 = .ok (.putfield 93, 3) := by decide +kernel
theorem dm_102_23 : decode cm_102 23 = .ok (.iconst 0, 1) := by decide +kernel
theorem dm_102_24 : decode cm_102 24 = .ok (.istore_n 2, 1) := by decide +kernel
theorem dm_102_25 : decode cm_102 25 = .ok (.iload_n 2, 1) := by decide +kernel
theorem dm_102_26 : decode cm_102 26 = .ok (.aload_n 0, 1) := by decide +kernel
theorem dm_102_27 : decode cm_102 27 = .ok (.getfield 89, 3) := by decide +kernel
theorem dm_102_30 : decode cm_102 30 = .ok (.if_icmp .ge 15, 3) := by decide +kernel
theorem dm_102_33 : decode cm_102 33 = .ok (.aload_n 0, 1) := by decide +kernel
theorem dm_102_34 : decode cm_102 34 = .ok (.iload_n 2, 1) := by decide +kernel
theorem dm_102_35 : decode cm_102 35 = .ok (.iload_n 1, 1) := by decide +kernel
theorem dm_102_36 : decode cm_102 36 = .ok (.invokevirtual 108, 3) := by decide +kernel
theorem dm_102_39 : decode cm_102 39 = .ok (.iinc 2 1, 3) := by decide +kernel
theorem dm_102_42 : decode cm_102 42 = .ok (.goto (-17), 3) := by decide +kernel
theorem dm_102_45 : decode cm_102 45 = .ok (.aload_n 0, 1) := by decide +kernel
theorem dm_102_46 : decode cm_102 46 = .ok (.iconst 0, 1) := by decide +kernel
theorem dm_102_47 : decode cm_102 47 = .ok (.invokevirtual 112, 3) := by decide +kernel
theorem dm_102_50 : decode cm_102 50 = .ok (.aload_n 0, 1) := by decide +kernel
theorem dm_102_51 : decode cm_102 51 = .ok (.getfield 93, 3) := by decide +kernel
theorem dm_102_54 : decode cm_102 54 = .ok (.ireturn, 1) := by decide +kernel
theorem dm_103_0 : decode cm_103 0 = .ok (.aload_n 0, 1) := by decide +kernel
theorem dm_103_1 : decode cm_103 1 = .ok (.getfield 52, 3) := by decide +kernel
theorem dm_103_4 : decode cm_103 4 = .ok (.iload_n 1, 1) := by decide +kernel
theorem dm_103_5 : decode cm_103 5 = .ok (.iaload, 1) := by decide +kernel
theorem dm_103_6 : decode cm_103 6 = .ok (.istore_n 3, 1) := by decide +kernel
theorem dm_103_7 : decode cm_103 7 = .ok (.aload_n 0, 1) := by decide +kernel
theorem dm_103_8 : decode cm_103 8 = .ok (.getfield 55, 3) := by decide +kernel
theorem dm_103_11 : decode cm_103 11 = .ok (.iload_n 1, 1) := by decide +kernel
theorem dm_103_12 : decode cm_103 12 = .ok (.iaload, 1) := by decide +kernel
theorem dm_103_13 : decode cm_103 13 = .ok (.istore 4, 2) := by decide +kernel
theorem dm_103_15 : decode cm_103 15 = .ok (.aload_n 0, 1) := by decide +kernel
theorem dm_103_16 : decode cm_103 16 = .ok (.getfield 58, 3) := by decide +kernel
theorem dm_103_19 : decode cm_103 19 = .ok (.iload_n 1, 1) := by decide +kernel
theorem dm_103_20 : decode cm_103 20 = .ok (.iaload, 1) := by decide +kernel
theorem dm_103_21 : decode cm_103 21 = .ok (.istore 5, 2) := by decide +kernel
theorem dm_103_23 : decode cm_103 23 = .ok (.aload_n 0, 1) := by decide +kernel
theorem dm_103_24 : decode cm_103 24 = .ok (.getfield 61, 3) := by decide +kernel
theorem dm_103_27 : decode cm_103 27 = .ok (.iload_n 1, 1) := by decide +kernel
theorem dm_103_28 : decode cm_103 28 = .ok (.iaload, 1) := by decide +kernel
theorem dm_103_29 : decode cm_103 29 = .ok (.istore 6, 2) := by decide +kernel
theorem dm_103_31 : decode cm_103 31 = .ok (.iload_n 3, 1) := by decide +kernel
theorem dm_103_32 : decode cm_103 32 = .ok (.bipush 8, 2) := by decide +kernel
theorem dm_103_34 : decode cm_103 34 = .ok (.if_icmp .eq 9, 3) := by decide +kernel
theorem dm_103_37 : decode cm_103 37 = .ok (.iload_n 3, 1) := by decide +kernel
theorem dm_103_38 : decode cm_103 38 = .ok (.bipush 9, 2) := by decide +kernel
theorem dm_103_40 : decode cm_103 40 = .ok (.if_icmp .ne 63, 3) := by decide +kernel
theorem dm_103_43 : decode cm_103 43 = .ok (.aload_n 0, 1) := by decide +kernel
theorem dm_103_44 : decode cm_103 44 = .ok (.iconst 2, 1) := by decide +kernel
theorem dm_103_45 : decode cm_103 45 = .ok (.iconst 5, 1) := by decide +kernel
theorem dm_103_46 : decode cm_103 46 = .ok (.iload 5, 2) := by decide +kernel
theorem dm_103_48 : decode cm_103 48 = .ok (.iload 6, 2) := by decide +kernel
theorem dm_103_50 : decode cm_103 50 = .ok (.invokestatic 116, 3) := by decide +kernel
theorem dm_103_53 : decode cm_103 53 = .ok (.invokevirtual 112, 3) := by decide +kernel
theorem dm_103_56 : decode cm_103 56 = .ok (.aload_n 0, 1) := by decide +kernel
theorem dm_103_57 : decode cm_103 57 = .ok (.bipush 6, 2) := by decide +kernel
theorem dm_103_59 : decode cm_103 59 = .ok (.bipush 6, 2) := by decide +kernel
theorem dm_103_61 : decode cm_103 61 = .ok (.iconst 5, 1) := by decide +kernel
theorem dm_103_62 : decode cm_103 62 = .ok (.bipush 15, 2) := by decide +kernel
theorem dm_103_64 : decode cm_103 64 = .ok (.invokestatic 116, 3) := by decide +kernel
theorem dm_103_67 : decode cm_103 67 = .ok (.invokevirtual 112, 3) := by decide +kernel
theorem dm_103_70 : decode cm_103 70 = .ok (.aload_n 0, 1) := by decide +kernel
theorem dm_103_71 : decode cm_103 71 = .ok (.bipush 7, 2) := by decide +kernel
theorem dm_103_73 : decode cm_103 73 = .ok (.bipush 6, 2) := by decide +kernel
theorem dm_103_75 : decode cm_103 75 = .ok (.bipush 6, 2) := by decide +kernel
theorem dm_103_77 : decode cm_103 77 = .ok (.bipush 16, 2) := by decide +kernel
theorem dm_103_79 : decode cm_103 79 = .ok (.iload_n 2, 1) := by decide +kernel
theorem dm_103_80 : decode cm_103 80 = .ok (.imul, 1) := by decide +kernel
theorem dm_103_81 : decode cm_103 81 = .ok (.invokestatic 116, 3) := by decide +kernel
theorem dm_103_84 : decode cm_103 84 = .ok (.invokevirtual 112, 3) := by decide +kernel
theorem dm_103_87 : decode cm_103 87 = .ok (.aload_n 0, 1) := by decide +kernel
theorem dm_103_88 : decode cm_103 88 = .ok (.iload_n 3, 1) := by decide +kernel
theorem dm_103_89 : decode cm_103 89 = .ok (.iload 4, 2) := by decide +kernel
theorem dm_103_91 : decode cm_103 91 = .ok (.bipush 6, 2) := by decide +kernel
theorem dm_103_93 : decode cm_103 93 = .ok (.iconst 0, 1) := by decide +kernel
theorem dm_103_94 : decode cm_103 94 = .ok (.invokestatic 116, 3) := by decide +kernel
theorem dm_103_97 : decode cm_103 97 = .ok (.invokevirtual 112, 3) := by decide +kernel
theorem dm_103_100 : decode cm_103 100 = .ok (.goto 241, 3) := by decide +kernel
theorem dm_103_103 : decode cm_103 103 = .ok (.iload_n 3, 1) := by decide +kernel
theorem dm_103_104 : decode cm_103 104 = .ok (.bipush 13, 2) := by decide +kernel
theorem dm_103_106 : decode cm_103 106 = .ok (.if_icmp .ne 54, 3) := by decide +kernel
theorem dm_103_109 : decode cm_103 109 = .ok (.aload_n 0, 1) := by decide +kernel
theorem dm_103_110 : decode cm_103 110 = .ok (.bipush 6, 2) := by decide +kernel
theorem dm_103_112 : decode cm_103 112 = .ok (.bipush 7, 2) := by decide +kernel
theorem dm_103_114 : decode cm_103 114 = .ok (.iload 4, 2) := by decide +kernel
theorem dm_103_116 : decode cm_103 116 = .ok (.bipush 31, 2) := by decide +kernel
theorem dm_103_118 : decode cm_103 118 = .ok (.invokestatic 116, 3) := by decide +kernel
theorem dm_103_121 : decode cm_103 121 = .ok (.invokevirtual 112, 3) := by decide +kernel
theorem dm_103_124 : decode cm_103 124 = .ok (.aload_n 0, 1) := by decide +kernel
theorem dm_103_125 : decode cm_103 125 = .ok (.bipush 7, 2) := by decide +kernel
theorem dm_103_127 : decode cm_103 127 = .ok (.bipush 7, 2) := by decide +kernel
theorem dm_103_129 : decode cm_103 129 = .ok (.bipush 7, 2) := by decide +kernel
theorem dm_103_131 : decode cm_103 131 = .ok (.bipush 64, 2) := by decide +kernel
theorem dm_103_133 : decode cm_103 133 = .ok (.bipush 32, 2) := by decide +kernel
theorem dm_103_135 : decode cm_103 135 = .ok (.iload_n 2, 1) := by decide +kernel
theorem dm_103_136 : decode cm_103 136 = .ok (.imul, 1) := by decide +kernel
theorem dm_103_137 : decode cm_103 137 = .ok (.iadd, 1) := by decide +kernel
theorem dm_103_138 : decode cm_103 138 = .ok (.invokestatic 116, 3) := by decide +kernel
theorem dm_103_141 : decode cm_103 141 = .ok (.invokevirtual 112, 3) := by decide +kernel
theorem dm_103_144 : decode cm_103 144 = .ok (.aload_n 0, 1) := by decide +kernel
theorem dm_103_145 : decode cm_103 145 = .ok (.bipush 13, 2) := by decide +kernel
theorem dm_103_147 : decode cm_103 147 = .ok (.bipush 7, 2) := by decide +kernel
theorem dm_103_149 : decode cm_103 149 = .ok (.iconst 0, 1) := by decide +kernel
theorem dm_103_150 : decode cm_103 150 = .ok (.iconst 0, 1) := by decide +kernel
theorem dm_103_151 : decode cm_103 151 = .ok (.invokestatic 116, 3) := by decide +kernel
theorem dm_103_154 : decode cm_103 154 = .ok (.invokevirtual 112, 3) := by decide +kernel
theorem dm_103_157 : decode cm_103 157 = .ok (.goto 184, 3) := by decide +kernel
theorem dm_103_160 : decode cm_103 160 = .ok (.iload_n 3, 1) := by decide +kernel
theorem dm_103_161 : decode cm_103 161 = .ok (.bipush 15, 2) := by decide +kernel
theorem dm_103_163 : decode cm_103 163 = .ok (.if_icmp .ne 35, 3) := by decide +kernel
theorem dm_103_166 : decode cm_103 166 = .ok (.aload_n 0, 1) := by decide +kernel
theorem dm_103_167 : decode cm_103 167 = .ok (.iload 6, 2) := by decide +kernel
theorem dm_103_169 : decode cm_103 169 = .ok (.invokevirtual 120, 3) := by decide +kernel
theorem dm_103_172 : decode cm_103 172 = .ok (.istore 7, 2) := by decide +kernel
theorem dm_103_174 : decode cm_103 174 = .ok (.aload_n 0, 1) := by decide +kernel
theorem dm_103_175 : decode cm_103 175 = .ok (.iconst 1, 1) := by decide +kernel
theorem dm_103_176 : decode cm_103 176 = .ok (.iload 4, 2) := by decide +kernel
theorem dm_103_178 : decode cm_103 178 = .ok (.iconst 0, 1) := by decide +kernel
theorem dm_103_179 : decode cm_103 179 = .ok (.bipush 64, 2) := by decide +kernel
theorem dm_103_181 : decode cm_103 181 = .ok (.bipush 32, 2) := by decide +kernel
theorem dm_103_183 : decode cm_103 183 = .ok (.iload_n 2, 1) := by decide +kernel
theorem dm_103_184 : decode cm_103 184 = .ok (.imul, 1) := by decide +kernel
theorem dm_103_185 : decode cm_103 185 = .ok (.iadd, 1) := by decide +kernel
theorem dm_103_186 : decode cm_103 186 = .ok (.iload 7, 2) := by decide +kernel
theorem dm_103_188 : decode cm_103 188 = .ok (.iadd, 1) := by decide +kernel
theorem dm_103_189 : decode cm_103 189 = .ok (.invokestatic 116, 3) := by decide +kernel
theorem dm_103_192 : decode cm_103 192 = .ok (.invokevirtual 112, 3) := by decide +kernel
theorem dm_103_195 : decode cm_103 195 = .ok (.goto 146, 3) := by decide +kernel
theorem dm_103_198 : decode cm_103 198 = .ok (.iload_n 3, 1) := by decide +kernel
theorem dm_103_199 : decode cm_103 199 = .ok (.bipush 10, 2) := by decide +kernel
theorem dm_103_201 : decode cm_103 201 = .ok (.bipush 12, 2) := by decide +kernel
theorem dm_103_203 : decode cm_103 203 = .ok (.invokestatic 83, 3) := by decide +kernel
theorem dm_103_206 : decode cm_103 206 = .ok (.ifCond .eq 53, 3) := by decide +kernel
theorem dm_103_209 : decode cm_103 209 = .ok (.aload_n 0, 1) := by decide +kernel
theorem dm_103_210 : decode cm_103 210 = .ok (.iload 6, 2) := by decide +kernel
theorem dm_103_212 : decode cm_103 212 = .ok (.invokevirtual 120, 3) := by decide +kernel
theorem dm_103_215 : decode cm_103 215 = .ok (.aload_n 0, 1) := by decide +kernel
theorem dm_103_216 : decode cm_103 216 = .ok (.getfield 93, 3) := by decide +kernel
theorem dm_103_219 : decode cm_103 219 = .ok (.isub, 1) := by decide +kernel
theorem dm_103_220 : decode cm_103 220 = .ok (.iconst 1, 1) := by decide +kernel
theorem dm_103_221 : decode cm_103 221 = .ok (.isub, 1) := by decide +kernel
theorem dm_103_222 : decode cm_103 222 = .ok (.istore 7, 2) := by decide +kernel
theorem dm_103_224 : decode cm_103 224 = .ok (.aload_n 0, 1) := by decide +kernel
theorem dm_103_225 : decode cm_103 225 = .ok (.iload_n 3, 1) := by decide +kernel
theorem dm_103_226 : decode cm_103 226 = .ok (.bipush 12, 2) := by decide +kernel
theorem dm_103_228 : decode cm_103 228 = .ok (.if_icmp .ne 15, 3) := by decide +kernel
theorem dm_103_231 : decode cm_103 231 = .ok (.bipush 12, 2) := by decide +kernel
theorem dm_103_233 : decode cm_103 233 = .ok (.iconst 0, 1) := by decide +kernel
theorem dm_103_234 : decode cm_103 234 = .ok (.iconst 0, 1) := by decide +kernel
theorem dm_103_235 : decode cm_103 235 = .ok (.iload 7, 2) := by decide +kernel
theorem dm_103_237 : decode cm_103 237 = .ok (.invokestatic 116, 3) := by decide +kernel
theorem dm_103_240 : decode cm_103 240 = .ok (.goto 13, 3) := by decide +kernel
theorem dm_103_243 : decode cm_103 243 = .ok (.iload_n 3, 1) := by decide +kernel
theorem dm_103_244 : decode cm_103 244 = .ok (.iload 4, 2) := by decide +kernel
theorem dm_103_246 : decode cm_103 246 = .ok (.iload 5, 2) := by decide +kernel
theorem dm_103_248 : decode cm_103 248 = .ok (.iload 7, 2) := by decide +kernel
theorem dm_103_250 : decode cm_103 250 = .ok (.invokestatic 116, 3) := by decide +kernel
theorem dm_103_253 : decode cm_103 253 = .ok (.invokevirtual 112, 3) := by decide +kernel
theorem dm_103_256 : decode cm_103 256 = .ok (.goto 85, 3) := by decide +kernel
theorem dm_103_259 : decode cm_103 259 = .ok (.iload_n 3, 1) := by decide +kernel
theorem dm_103_260 : decode cm_103 260 = .ok (.ifCond .ne 11, 3) := by decide +kernel
theorem dm_103_263 : decode cm_103 263 = .ok (.aload_n 0, 1) := by decide +kernel
theorem dm_103_264 : decode cm_103 264 = .ok (.iconst 0, 1) := by decide +kernel
theorem dm_103_265 : decode cm_103 265 = .ok (.invokevirtual 112, 3) := by decide +kernel
theorem dm_103_268 : decode cm_103 268 = .ok (.goto 73, 3) := by decide +kernel
theorem dm_103_271 : decode cm_103 271 = .ok (.iload_n 3, 1) := by decide +kernel
theorem dm_103_272 : decode cm_103 272 = .ok (.bipush 14, 2) := by decide +kernel
theorem dm_103_274 : decode cm_103 274 = .ok (.if_icmp .ne 19, 3) := by decide +kernel
theorem dm_103_277 : decode cm_103 277 = .ok (.aload_n 0, 1) := by decide +kernel
theorem dm_103_278 : decode cm_103 278 = .ok (.bipush 14, 2) := by decide +kernel
theorem dm_103_280 : decode cm_103 280 = .ok (.iconst 0, 1) := by decide +kernel
theorem dm_103_281 : decode cm_103 281 = .ok (.iconst 0, 1) := by decide +kernel
theorem dm_103_282 : decode cm_103 282 = .ok (.iload 6, 2) := by decide +kernel
theorem dm_103_284 : decode cm_103 284 = .ok (.invokestatic 116, 3) := by decide +kernel
theorem dm_103_287 : decode cm_103 287 = .ok (.invokevirtual 112, 3) := by decide +kernel
theorem dm_103_290 : decode cm_103 290 = .ok (.goto 51, 3) := by decide +kernel
theorem dm_103_293 : decode cm_103 293 = .ok (.iload_n 3, 1) := by decide +kernel
theorem dm_103_294 : decode cm_103 294 = .ok (.iconst 1, 1) := by decide +kernel
theorem dm_103_295 : decode cm_103 295 = .ok (.if_icmp .ne 19, 3) := by decide +kernel
theorem dm_103_298 : decode cm_103 298 = .ok (.aload_n 0, 1) := by decide +kernel
theorem dm_103_299 : decode cm_103 299 = .ok (.iconst 1, 1) := by decide +kernel
theorem dm_103_300 : decode cm_103 300 = .ok (.iload 4, 2) := by decide +kernel
theorem dm_103_302 : decode cm_103 302 = .ok (.iconst 0, 1) := by decide +kernel
theorem dm_103_303 : decode cm_103 303 = .ok (.iload 6, 2) := by decide +kernel
theorem dm_103_305 : decode cm_103 305 = .ok (.invokestatic 116, 3) := by decide +kernel
theorem dm_103_308 : decode cm_103 308 = .ok (.invokevirtual 112, 3) := by decide +kernel
theorem dm_103_311 : decode cm_103 311 = .ok (.goto 30, 3) := by decide +kernel
theorem dm_103_314 : decode cm_103 314 = .ok (.aload_n 0, 1) := by decide +kernel
theorem dm_103_315 : decode cm_103 315 = .ok (.iload_n 3, 1) := by decide +kernel
theorem dm_103_316 : decode cm_103 316 = .ok (.iload 4, 2) := by decide +kernel
theorem dm_103_318 : decode cm_103 318 = .ok (.iload 5, 2) := by decide +kernel
theorem dm_103_320 : decode cm_103 320 = .ok (.iload_n 3, 1) := by decide +kernel
theorem dm_103_321 : decode cm_103 321 = .ok (.iconst 3, 1) := by decide +kernel
theorem dm_103_322 : decode cm_103 322 = .ok (.iconst 5, 1) := by decide +kernel
theorem dm_103_323 : decode cm_103 323 = .ok (.invokestatic 83, 3) := by decide +kernel
theorem dm_103_326 : decode cm_103 326 = .ok (.ifCond .eq 7, 3) := by decide +kernel
theorem dm_103_329 : decode cm_103 329 = .ok (.iconst 0, 1) := by decide +kernel
theorem dm_103_330 : decode cm_103 330 = .ok (.goto 5, 3) := by decide +kernel
theorem dm_103_333 : decode cm_103 333 = .ok (.iload 6, 2) := by decide +kernel
theorem dm_103_335 : decode cm_103 335 = .ok (.invokestatic 116, 3) := by decide +kernel
theorem dm_103_338 : decode cm_103 338 = .ok (.invokevirtual 112, 3) := by decide +kernel
theorem dm_103_341 : decode cm_103 341 = .ok (.return_, 1) := by decide +kernel
theorem dm_104_0 : decode cm_104 0 = .ok (.aload_n 0, 1) := by decide +kernel
theorem dm_104_1 : decode cm_104 1 = .ok (.getfield 93, 3) := by decide +kernel
theorem dm_104_4 : decode cm_104 4 = .ok (.bipush 31, 2) := by decide +kernel
theorem dm_104_6 : decode cm_104 6 = .ok (.if_icmp .ne 5, 3) := by decide +kernel
theorem dm_104_9 : decode cm_104 9 = .ok (.iconst 0, 1) := by decide +kernel
theorem dm_104_10 : decode cm_104 10 = .ok (.ireturn, 1) := by decide +kernel
theorem dm_104_11 : decode cm_104 11 = .ok (.aload_n 0, 1) := by decide +kernel
theorem dm_104_12 : decode cm_104 12 = .ok (.iload_n 1, 1) := by decide +kernel
theorem dm_104_13 : decode cm_104 13 = .ok (.invokevirtual 112, 3) := by decide +kernel
theorem dm_104_16 : decode cm_104 16 = .ok (.iconst 1, 1) := by decide +kernel
theorem dm_104_17 : decode cm_104 17 = .ok (.ireturn, 1) := by decide +kernel
theorem dm_105_0 : decode cm_105 0 = .ok (.iload_n 1, 1) := by decide +kernel
theorem dm_105_1 : decode cm_105 1 = .ok (.iconst (-1), 1) := by decide +kernel
theorem dm_105_2 : decode cm_105 2 = .ok (.if_icmp .ne 10, 3) := by decide +kernel
theorem dm_105_5 : decode cm_105 5 = .ok (.aload_n 0, 1) := by decide +kernel
theorem dm_105_6 : decode cm_105 6 = .ok (.getfield 93, 3) := by decide +kernel
theorem dm_105_9 : decode cm_105 9 = .ok (.goto 27, 3) := by decide +kernel
theorem dm_105_12 : decode cm_105 12 = .ok (.iload_n 1, 1) := by decide +kernel
theorem dm_105_13 : decode cm_105 13 = .ok (.iconst 0, 1) := by decide +kernel
theorem dm_105_14 : decode cm_105 14 = .ok (.aload_n 0, 1) := by decide +kernel
theorem dm_105_15 : decode cm_105 15 = .ok (.getfield 93, 3) := by decide +kernel
theorem dm_105_18 : decode cm_105 18 = .ok (.iconst 1, 1) := by decide +kernel
theorem dm_105_19 : decode cm_105 19 = .ok (.isub, 1) := by decide +kernel
theorem dm_105_20 : decode cm_105 20 = .ok (.invokestatic 83, 3) := by decide +kernel
theorem dm_105_23 : decode cm_105 23 = .ok (.ifCond .eq 12, 3) := by decide +kernel
theorem dm_105_26 : decode cm_105 26 = .ok (.aload_n 0, 1) := by decide +kernel
theorem dm_105_27 : decode cm_105 27 = .ok (.getfield 71, 3) := by decide +kernel
theorem dm_105_30 : decode cm_105 30 = .ok (.iload_n 1, 1) := by decide +kernel
theorem dm_105_31 : decode cm_105 31 = .ok (.iaload, 1) := by decide +kernel
theorem dm_105_32 : decode cm_105 32 = .ok (.goto 4, 3) := by decide +kernel
theorem dm_105_35 : decode cm_105 35 = .ok (.iconst 0, 1) := by decide +kernel
theorem dm_105_36 : decode cm_105 36 = .ok (.ireturn, 1) := by decide +kernel
theorem dm_106_0 : decode cm_106 0 = .ok (.iload_n 1, 1) := by decide +kernel
theorem dm_106_1 : decode cm_106 1 = .ok (.aload_n 0, 1) := by decide +kernel
theorem dm_106_2 : decode cm_106 2 = .ok (.getfield 93, 3) := by decide +kernel
theorem dm_106_5 : decode cm_106 5 = .ok (.if_icmp .ge 25, 3) := by decide +kernel
theorem dm_106_8 : decode cm_106 8 = .ok (.aload_n 0, 1) := by decide +kernel
theorem dm_106_9 : decode cm_106 9 = .ok (.getfield 71, 3) := by decide +kernel
theorem dm_106_12 : decode cm_106 12 = .ok (.iload_n 1, 1) := by decide +kernel
theorem dm_106_13 : decode cm_106 13 = .ok (.iaload, 1) := by decide +kernel
theorem dm_106_14 : decode cm_106 14 = .ok (.iload_n 2, 1) := by decide +kernel
theorem dm_106_15 : decode cm_106 15 = .ok (.iload_n 3, 1) := by decide +kernel
theorem dm_106_16 : decode cm_106 16 = .ok (.iload 4, 2) := by decide +kernel
theorem dm_106_18 : decode cm_106 18 = .ok (.iload 5, 2) := by decide +kernel
theorem dm_106_20 : decode cm_106 20 = .ok (.invokestatic 116, 3) := by decide +kernel
theorem dm_106_23 : decode cm_106 23 = .ok (.if_icmp .ne 7, 3) := by decide +kernel
theorem dm_106_26 : decode cm_106 26 = .ok (.iconst 1, 1) := by decide +kernel
theorem dm_106_27 : decode cm_106 27 = .ok (.goto 4, 3) := by decide +kernel
theorem dm_106_30 : decode cm_106 30 = .ok (.iconst 0, 1) := by decide +kernel
theorem dm_106_31 : decode cm_106 31 = .ok (.ireturn, 1) := by decide +kernel
theorem dm_107_0 : decode cm_107 0 = .ok (.aload_n 0, 1) := by decide +kernel
theorem dm_107_1 : decode cm_107 1 = .ok (.getfield 71, 3) := by decide +kernel
theorem dm_107_4 : decode cm_107 4 = .ok (.iload_n 1, 1) := by decide +kernel
theorem dm_107_5 : decode cm_107 5 = .ok (.iaload, 1) := by decide +kernel
theorem dm_107_6 : decode cm_107 6 = .ok (.istore 5, 2) := by decide +kernel
theorem dm_107_8 : decode cm_107 8 = .ok (.iload 5, 2) := by decide +kernel
theorem dm_107_10 : decode cm_107 10 = .ok (.bipush 15, 2) := by decide +kernel
theorem dm_107_12 : decode cm_107 12 = .ok (.iand, 1) := by decide +kernel
theorem dm_107_13 : decode cm_107 13 = .ok (.iconst 1, 1) := by decide +kernel
theorem dm_107_14 : decode cm_107 14 = .ok (.bipush 8, 2) := by decide +kernel
theorem dm_107_16 : decode cm_107 16 = .ok (.invokestatic 83, 3) := by decide +kernel
theorem dm_107_19 : decode cm_107 19 = .ok (.ifCond .eq 14, 3) := by decide +kernel
theorem dm_107_22 : decode cm_107 22 = .ok (.iload 5, 2) := by decide +kernel
theorem dm_107_24 : decode cm_107 24 = .ok (.iconst 4, 1) := by decide +kernel
theorem dm_107_25 : decode cm_107 25 = .ok (.ishr, 1) := by decide +kernel
theorem dm_107_26 : decode cm_107 26 = .ok (.bipush 7, 2) := by decide +kernel
theorem dm_107_28 : decode cm_107 28 = .ok (.iand, 1) := by decide +kernel
theorem dm_107_29 : decode cm_107 29 = .ok (.iload_n 2, 1) := by decide +kernel
theorem dm_107_30 : decode cm_107 30 = .ok (.if_icmp .eq 5, 3) := by decide +kernel
theorem dm_107_33 : decode cm_107 33 = .ok (.iconst 1, 1) := by decide +kernel
theorem dm_107_34 : decode cm_107 34 = .ok (.ireturn, 1) := by decide +kernel
theorem dm_107_35 : decode cm_107 35 = .ok (.iload 5, 2) := by decide +kernel
theorem dm_107_37 : decode cm_107 37 = .ok (.bipush 15, 2) := by decide +kernel
theorem dm_107_39 : decode cm_107 39 = .ok (.iand, 1) := by decide +kernel
theorem dm_107_40 : decode cm_107 40 = .ok (.bipush 6, 2) := by decide +kernel
theorem dm_107_42 : decode cm_107 42 = .ok (.if_icmp .ne 17, 3) := by decide +kernel
theorem dm_107_45 : decode cm_107 45 = .ok (.iload 5, 2) := by decide +kernel
theorem dm_107_47 : decode cm_107 47 = .ok (.bipush 10, 2) := by decide +kernel
theorem dm_107_49 : decode cm_107 49 = .ok (.ishr, 1) := by decide +kernel
theorem dm_107_50 : decode cm_107 50 = .ok (.iload 4, 2) := by decide +kernel
theorem dm_107_52 : decode cm_107 52 = .ok (.if_icmp .ne 7, 3) := by decide +kernel
theorem dm_107_55 : decode cm_107 55 = .ok (.iconst 1, 1) := by decide +kernel
theorem dm_107_56 : decode cm_107 56 = .ok (.goto 4, 3) := by decide +kernel
theorem dm_107_59 : decode cm_107 59 = .ok (.iconst 0, 1) := by decide +kernel
theorem dm_107_60 : decode cm_107 60 = .ok (.istore 6, 2) := by decide +kernel
theorem dm_107_62 : decode cm_107 62 = .ok (.aload_n 0, 1) := by decide +kernel
theorem dm_107_63 : decode cm_107 63 = .ok (.iload_n 1, 1) := by decide +kernel
theorem dm_107_64 : decode cm_107 64 = .ok (.bipush 7, 2) := by decide +kernel
theorem dm_107_66 : decode cm_107 66 = .ok (.iload_n 2, 1) := by decide +kernel
theorem dm_107_67 : decode cm_107 67 = .ok (.iload_n 2, 1) := by decide +kernel
theorem dm_107_68 : decode cm_107 68 = .ok (.iload_n 3, 1) := by decide +kernel
theorem dm_107_69 : decode cm_107 69 = .ok (.invokevirtual 123, 3) := by decide +kernel
theorem dm_107_72 : decode cm_107 72 = .ok (.ifCond .ne 23, 3) := by decide +kernel
theorem dm_107_75 : decode cm_107 75 = .ok (.iload 6, 2) := by decide +kernel
theorem dm_107_77 : decode cm_107 77 = .ok (.ifCond .eq 22, 3) := by decide +kernel
theorem dm_107_80 : decode cm_107 80 = .ok (.aload_n 0, 1) := by decide +kernel
theorem dm_107_81 : decode cm_107 81 = .ok (.iload_n 1, 1) := by decide +kernel
theorem dm_107_82 : decode cm_107 82 = .ok (.iconst 1, 1) := by decide +kernel
theorem dm_107_83 : decode cm_107 83 = .ok (.iadd, 1) := by decide +kernel
theorem dm_107_84 : decode cm_107 84 = .ok (.bipush 7, 2) := by decide +kernel
theorem dm_107_86 : decode cm_107 86 = .ok (.iload_n 2, 1) := by decide +kernel
theorem dm_107_87 : decode cm_107 87 = .ok (.iload_n 2, 1) := by decide +kernel
theorem dm_107_88 : decode cm_107 88 = .ok (.iload_n 3, 1) := by decide +kernel
theorem dm_107_89 : decode cm_107 89 = .ok (.invokevirtual 123, 3) := by decide +kernel
theorem dm_107_92 : decode cm_107 92 = .ok (.ifCond .eq 7, 3) := by decide +kernel
theorem dm_107_95 : decode cm_107 95 = .ok (.iconst 1, 1) := by decide +kernel
theorem dm_107_96 : decode cm_107 96 = .ok (.goto 4, 3) := by decide +kernel
theorem dm_107_99 : decode cm_107 99 = .ok (.iconst 0, 1) := by decide +kernel
theorem dm_107_100 : decode cm_107 100 = .ok (.ireturn, 1) := by decide +kernel
theorem dm_108_0 : decode cm_108 0 = .ok (.aload_n 0, 1) := by decide +kernel
theorem dm_108_1 : decode cm_108 1 = .ok (.getfield 71, 3) := by decide +kernel
theorem dm_108_4 : decode cm_108 4 = .ok (.iload_n 1, 1) := by decide +kernel
theorem dm_108_5 : decode cm_108 5 = .ok (.iaload, 1) := by decide +kernel
theorem dm_108_6 : decode cm_108 6 = .ok (.istore_n 3, 1) := by decide +kernel
theorem dm_108_7 : decode cm_108 7 = .ok (.iload_n 3, 1) := by decide +kernel
theorem dm_108_8 : decode cm_108 8 = .ok (.bipush 15, 2) := by decide +kernel
theorem dm_108_10 : decode cm_108 10 = .ok (.iand, 1) := by decide +kernel
theorem dm_108_11 : decode cm_108 11 = .ok (.istore 4, 2) := by decide +kernel
theorem dm_108_13 : decode cm_108 13 = .ok (.iload_n 3, 1) := by decide +kernel
theorem dm_108_14 : decode cm_108 14 = .ok (.bipush 10, 2) := by decide +kernel
theorem dm_108_16 : decode cm_108 16 = .ok (.ishr, 1) := by decide +kernel
theorem dm_108_17 : decode cm_108 17 = .ok (.istore 5, 2) := by decide +kernel
theorem dm_108_19 : decode cm_108 19 = .ok (.iload 4, 2) := by decide +kernel
theorem dm_108_21 : decode cm_108 21 = .ok (.bipush 15, 2) := by decide +kernel
theorem dm_108_23 : decode cm_108 23 = .ok (.if_icmp .eq 7, 3) := by decide +kernel
theorem dm_108_26 : decode cm_108 26 = .ok (.iconst 1, 1) := by decide +kernel
theorem dm_108_27 : decode cm_108 27 = .ok (.goto 4, 3) := by decide +kernel
theorem dm_108_30 : decode cm_108 30 = .ok (.iconst 0, 1) := by decide +kernel
theorem dm_108_31 : decode cm_108 31 = .ok (.istore 6, 2) := by decide +kernel
theorem dm_108_33 : decode cm_108 33 = .ok (.iload 4, 2) := by decide +kernel
theorem dm_108_35 : decode cm_108 35 = .ok (.bipush 10, 2) := by decide +kernel
theorem dm_108_37 : decode cm_108 37 = .ok (.bipush 12, 2) := by decide +kernel
theorem dm_108_39 : decode cm_108 39 = .ok (.invokestatic 83, 3) := by decide +kernel
theorem dm_108_42 : decode cm_108 42 = .ok (.ifCond .eq 21, 3) := by decide +kernel
theorem dm_108_45 : decode cm_108 45 = .ok (.iload_n 1, 1) := by decide +kernel
theorem dm_108_46 : decode cm_108 46 = .ok (.iconst 1, 1) := by decide +kernel
theorem dm_108_47 : decode cm_108 47 = .ok (.iadd, 1) := by decide +kernel
theorem dm_108_48 : decode cm_108 48 = .ok (.iload 5, 2) := by decide +kernel
theorem dm_108_50 : decode cm_108 50 = .ok (.iadd, 1) := by decide +kernel
theorem dm_108_51 : decode cm_108 51 = .ok (.iconst 0, 1) := by decide +kernel
theorem dm_108_52 : decode cm_108 52 = .ok (.aload_n 0, 1) := by decide +kernel
theorem dm_108_53 : decode cm_108 53 = .ok (.getfield 93, 3) := by decide +kernel
theorem dm_108_56 : decode cm_108 56 = .ok (.iconst 1, 1) := by decide +kernel
theorem dm_108_57 : decode cm_108 57 = .ok (.isub, 1) := by decide +kernel
theorem dm_108_58 : decode cm_108 58 = .ok (.invokestatic 83, 3) := by decide +kernel
theorem dm_108_61 : decode cm_108 61 = .ok (.istore 6, 2) := by decide +kernel
theorem dm_108_63 : decode cm_108 63 = .ok (.iload 4, 2) := by decide +kernel
theorem dm_108_65 : decode cm_108 65 = .ok (.bipush 13, 2) := by decide +kernel
theorem dm_108_67 : decode cm_108 67 = .ok (.if_icmp .ne 21, 3) := by decide +kernel
theorem dm_108_70 : decode cm_108 70 = .ok (.iload_n 3, 1) := by decide +kernel
theorem dm_108_71 : decode cm_108 71 = .ok (.iconst 4, 1) := by decide +kernel
theorem dm_108_72 : decode cm_108 72 = .ok (.ishr, 1) := by decide +kernel
theorem dm_108_73 : decode cm_108 73 = .ok (.bipush 7, 2) := by decide +kernel
theorem dm_108_75 : decode cm_108 75 = .ok (.iand, 1) := by decide +kernel
theorem dm_108_76 : decode cm_108 76 = .ok (.bipush 7, 2) := by decide +kernel
theorem dm_108_78 : decode cm_108 78 = .ok (.if_icmp .ne 7, 3) := by decide +kernel
theorem dm_108_81 : decode cm_108 81 = .ok (.iconst 1, 1) := by decide +kernel
theorem dm_108_82 : decode cm_108 82 = .ok (.goto 4, 3) := by decide +kernel
theorem dm_108_85 : decode cm_108 85 = .ok (.iconst 0, 1) := by decide +kernel
theorem dm_108_86 : decode cm_108 86 = .ok (.istore 6, 2) := by decide +kernel
theorem dm_108_88 : decode cm_108 88 = .ok (.iload 4, 2) := by decide +kernel
theorem dm_108_90 : decode cm_108 90 = .ok (.bipush 14, 2) := by decide +kernel
theorem dm_108_92 : decode cm_108 92 = .ok (.if_icmp .ne 13, 3) := by decide +kernel
theorem dm_108_95 : decode cm_108 95 = .ok (.iload 5, 2) := by decide +kernel
theorem dm_108_97 : decode cm_108 97 = .ok (.iconst 0, 1) := by decide +kernel
theorem dm_108_98 : decode cm_108 98 = .ok (.bipush 6, 2) := by decide +kernel
theorem dm_108_100 : decode cm_108 100 = .ok (.invokestatic 83, 3) := by decide +kernel
theorem dm_108_103 : decode cm_108 103 = .ok (.istore 6, 2) := by decide +kernel
theorem dm_108_105 : decode cm_108 105 = .ok (.iload 4, 2) := by decide +kernel
theorem dm_108_107 : decode cm_108 107 = .ok (.bipush 8, 2) := by decide +kernel
theorem dm_108_109 : decode cm_108 109 = .ok (.if_icmp .eq 10, 3) := by decide +kernel
theorem dm_108_112 : decode cm_108 112 = .ok (.iload 4, 2) := by decide +kernel
theorem dm_108_114 : decode cm_108 114 = .ok (.bipush 9, 2) := by decide +kernel
theorem dm_108_116 : decode cm_108 116 = .ok (.if_icmp .ne 27, 3) := by decide +kernel
theorem dm_108_119 : decode cm_108 119 = .ok (.iload_n 3, 1) := by decide +kernel
theorem dm_108_120 : decode cm_108 120 = .ok (.bipush 7, 2) := by decide +kernel
theorem dm_108_122 : decode cm_108 122 = .ok (.ishr, 1) := by decide +kernel
theorem dm_108_123 : decode cm_108 123 = .ok (.bipush 7, 2) := by decide +kernel
theorem dm_108_125 : decode cm_108 125 = .ok (.iand, 1) := by decide +kernel
theorem dm_108_126 : decode cm_108 126 = .ok (.bipush 6, 2) := by decide +kernel
theorem dm_108_128 : decode cm_108 128 = .ok (.if_icmp .ne 12, 3) := by decide +kernel
theorem dm_108_131 : decode cm_108 131 = .ok (.iload 5, 2) := by decide +kernel
theorem dm_108_133 : decode cm_108 133 = .ok (.ifCond .ne 7, 3) := by decide +kernel
theorem dm_108_136 : decode cm_108 136 = .ok (.iconst 1, 1) := by decide +kernel
theorem dm_108_137 : decode cm_108 137 = .ok (.goto 4, 3) := by decide +kernel
theorem dm_108_140 : decode cm_108 140 = .ok (.iconst 0, 1) := by decide +kernel
theorem dm_108_141 : decode cm_108 141 = .ok (.istore 6, 2) := by decide +kernel
theorem dm_108_143 : decode cm_108 143 = .ok (.iload 6, 2) := by decide +kernel
theorem dm_108_145 : decode cm_108 145 = .ok (.ifCond .eq 42, 3) := by decide +kernel
theorem dm_108_148 : decode cm_108 148 = .ok (.aload_n 0, 1) := by decide +kernel
theorem dm_108_149 : decode cm_108 149 = .ok (.iload_n 1, 1) := by decide +kernel
theorem dm_108_150 : decode cm_108 150 = .ok (.bipush 6, 2) := by decide +kernel
theorem dm_108_152 : decode cm_108 152 = .ok (.bipush 16, 2) := by decide +kernel
theorem dm_108_154 : decode cm_108 154 = .ok (.iload_n 2, 1) := by decide +kernel
theorem dm_108_155 : decode cm_108 155 = .ok (.imul, 1) := by decide +kernel
theorem dm_108_156 : decode cm_108 156 = .ok (.bipush 15, 2) := by decide +kernel
theorem dm_108_158 : decode cm_108 158 = .ok (.invokevirtual 127, 3) := by decide +kernel
theorem dm_108_161 : decode cm_108 161 = .ok (.ifCond .eq 26, 3) := by decide +kernel
theorem dm_108_164 : decode cm_108 164 = .ok (.aload_n 0, 1) := by decide +kernel
theorem dm_108_165 : decode cm_108 165 = .ok (.iload_n 1, 1) := by decide +kernel
theorem dm_108_166 : decode cm_108 166 = .ok (.bipush 7, 2) := by decide +kernel
theorem dm_108_168 : decode cm_108 168 = .ok (.bipush 64, 2) := by decide +kernel
theorem dm_108_170 : decode cm_108 170 = .ok (.bipush 32, 2) := by decide +kernel
theorem dm_108_172 : decode cm_108 172 = .ok (.iload_n 2, 1) := by decide +kernel
theorem dm_108_173 : decode cm_108 173 = .ok (.imul, 1) := by decide +kernel
theorem dm_108_174 : decode cm_108 174 = .ok (.iadd, 1) := by decide +kernel
theorem dm_108_175 : decode cm_108 175 = .ok (.bipush 31, 2) := by decide +kernel
theorem dm_108_177 : decode cm_108 177 = .ok (.invokevirtual 127, 3) := by decide +kernel
theorem dm_108_180 : decode cm_108 180 = .ok (.ifCond .eq 7, 3) := by decide +kernel
theorem dm_108_183 : decode cm_108 183 = .ok (.iconst 1, 1) := by decide +kernel
theorem dm_108_184 : decode cm_108 184 = .ok (.goto 4, 3) := by decide +kernel
theorem dm_108_187 : decode cm_108 187 = .ok (.iconst 0, 1) := by decide +kernel
theorem dm_108_188 : decode cm_108 188 = .ok (.ireturn, 1) := by decide +kernel
theorem dm_109_0 : decode cm_109 0 = .ok (.iload_n 1, 1) := by decide +kernel
theorem dm_109_1 : decode cm_109 1 = .ok (.iconst 0, 1) := by decide +kernel
theorem dm_109_2 : decode cm_109 2 = .ok (.iconst 2, 1) := by decide +kernel
theorem dm_109_3 : decode cm_109 3 = .ok (.invokestatic 83, 3) := by decide +kernel
theorem dm_109_6 : decode cm_109 6 = .ok (.ifCond .ne 6, 3) := by decide +kernel
theorem dm_109_9 : decode cm_109 9 = .ok (.bipush (-2), 2) := by decide +kernel
theorem dm_109_11 : decode cm_109 11 = .ok (.ireturn, 1) := by decide +kernel
theorem dm_109_12 : decode cm_109 12 = .ok (.iconst 0, 1) := by decide +kernel
theorem dm_109_13 : decode cm_109 13 = .ok (.istore_n 2, 1) := by decide +kernel
theorem dm_109_14 : decode cm_109 14 = .ok (.iload_n 2, 1) := by decide +kernel
theorem dm_109_15 : decode cm_109 15 = .ok (.aload_n 0, 1) := by decide +kernel
theorem dm_109_16 : decode cm_109 16 = .ok (.getfield 93, 3) := by decide +kernel
theorem dm_109_19 : decode cm_109 19 = .ok (.if_icmp .ge 20, 3) := by decide +kernel
theorem dm_109_22 : decode cm_109 22 = .ok (.aload_n 0, 1) := by decide +kernel
theorem dm_109_23 : decode cm_109 23 = .ok (.iload_n 2, 1) := by decide +kernel
theorem dm_109_24 : decode cm_109 24 = .ok (.iload_n 1, 1) := by decide +kernel
theorem dm_109_25 : decode cm_109 25 = .ok (.invokevirtual 131, 3) := by decide +kernel
theorem dm_109_28 : decode cm_109 28 = .ok (.ifCond .ne 5, 3) := by decide +kernel
theorem dm_109_31 : decode cm_109 31 = .ok (.iload_n 2, 1) := by decide +kernel
theorem dm_109_32 : decode cm_109 32 = .ok (.ireturn, 1) := by decide +kernel
theorem dm_109_33 : decode cm_109 33 = .ok (.iinc 2 1, 3) := by decide +kernel
theorem dm_109_36 : decode cm_109 36 = .ok (.goto (-22), 3) := by decide +kernel
theorem dm_109_39 : decode cm_109 39 = .ok (.iconst (-1), 1) := by decide +kernel
theorem dm_109_40 : decode cm_109 40 = .ok (.ireturn, 1) := by decide +kernel
theorem dm_110_0 : decode cm_110 0 = .ok (.aload_n 0, 1) := by decide +kernel
theorem dm_110_1 : decode cm_110 1 = .ok (.iload_n 1, 1) := by decide +kernel
theorem dm_110_2 : decode cm_110 2 = .ok (.invokevirtual 135, 3) := by decide +kernel
theorem dm_110_5 : decode cm_110 5 = .ok (.istore_n 2, 1) := by decide +kernel
theorem dm_110_6 : decode cm_110 6 = .ok (.iload_n 2, 1) := by decide +kernel
theorem dm_110_7 : decode cm_110 7 = .ok (.iconst (-1), 1) := by decide +kernel
theorem dm_110_8 : decode cm_110 8 = .ok (.if_icmp .eq 5, 3) := by decide +kernel
theorem dm_110_11 : decode cm_110 11 = .ok (.iconst 0, 1) := by decide +kernel
theorem dm_110_12 : decode cm_110 12 = .ok (.ireturn, 1) := by decide +kernel
theorem dm_110_13 : decode cm_110 13 = .ok (.iconst 0, 1) := by decide +kernel
theorem dm_110_14 : decode cm_110 14 = .ok (.istore_n 3, 1) := by decide +kernel
theorem dm_110_15 : decode cm_110 15 = .ok (.iload_n 3, 1) := by decide +kernel
theorem dm_110_16 : decode cm_110 16 = .ok (.bipush 32, 2) := by decide +kernel
theorem dm_110_18 : decode cm_110 18 = .ok (.if_icmp .ge 41, 3) := by decide +kernel
theorem dm_110_21 : decode cm_110 21 = .ok (.aload_n 0, 1) := by decide +kernel
theorem dm_110_22 : decode cm_110 22 = .ok (.getfield 7, 3) := by decide +kernel
theorem dm_110_25 : decode cm_110 25 = .ok (.bipush 64, 2) := by decide +kernel
theorem dm_110_27 : decode cm_110 27 = .ok (.bipush 32, 2) := by decide +kernel
theorem dm_110_29 : decode cm_110 29 = .ok (.iload_n 1, 1) := by decide +kernel
theorem dm_110_30 : decode cm_110 30 = .ok (.imul, 1) := by decide +kernel
theorem dm_110_31 : decode cm_110 31 = .ok (.iadd, 1) := by decide +kernel
theorem dm_110_32 : decode cm_110 32 = .ok (.iload_n 3, 1) := by decide +kernel
theorem dm_110_33 : decode cm_110 33 = .ok (.iadd, 1) := by decide +kernel
theorem dm_110_34 : decode cm_110 34 = .ok (.iload_n 3, 1) := by decide +kernel
theorem dm_110_35 : decode cm_110 35 = .ok (.aload_n 0, 1) := by decide +kernel
theorem dm_110_36 : decode cm_110 36 = .ok (.getfield 93, 3) := by decide +kernel
theorem dm_110_39 : decode cm_110 39 = .ok (.if_icmp .ge 12, 3) := by decide +kernel
theorem dm_110_42 : decode cm_110 42 = .ok (.aload_n 0, 1) := by decide +kernel
theorem dm_110_43 : decode cm_110 43 = .ok (.getfield 71, 3) := by decide +kernel
theorem dm_110_46 : decode cm_110 46 = .ok (.iload_n 3, 1) := by decide +kernel
theorem dm_110_47 : decode cm_110 47 = .ok (.iaload, 1) := by decide +kernel
theorem dm_110_48 : decode cm_110 48 = .ok (.goto 4, 3) := by decide +kernel
theorem dm_110_51 : decode cm_110 51 = .ok (.iconst 0, 1) := by decide +kernel
theorem dm_110_52 : decode cm_110 52 = .ok (.iastore, 1) := by decide +kernel
theorem dm_110_53 : decode cm_110 53 = .ok (.iinc 3 1, 3) := by decide +kernel
theorem dm_110_56 : decode cm_110 56 = .ok (.goto (-41), 3) := by decide +kernel
theorem dm_110_59 : decode cm_110 59 = .ok (.iconst 0, 1) := by decide +kernel
theorem dm_110_60 : decode cm_110 60 = .ok (.istore_n 3, 1) := by decide +kernel
theorem dm_110_61 : decode cm_110 61 = .ok (.iload_n 3, 1) := by decide +kernel
theorem dm_110_62 : decode cm_110 62 = .ok (.bipush 16, 2) := by decide +kernel
theorem dm_110_64 : decode cm_110 64 = .ok (.if_icmp .ge 21, 3) := by decide +kernel
theorem dm_110_67 : decode cm_110 67 = .ok (.aload_n 0, 1) := by decide +kernel
theorem dm_110_68 : decode cm_110 68 = .ok (.getfield 7, 3) := by decide +kernel
theorem dm_110_71 : decode cm_110 71 = .ok (.bipush 16, 2) := by decide +kernel
theorem dm_110_73 : decode cm_110 73 = .ok (.iload_n 1, 1) := by decide +kernel
theorem dm_110_74 : decode cm_110 74 = .ok (.imul, 1) := by decide +kernel
theorem dm_110_75 : decode cm_110 75 = .ok (.iload_n 3, 1) := by decide +kernel
theorem dm_110_76 : decode cm_110 76 = .ok (.iadd, 1) := by decide +kernel
theorem dm_110_77 : decode cm_110 77 = .ok (.iconst 0, 1) := by decide +kernel
theorem dm_110_78 : decode cm_110 78 = .ok (.iastore, 1) := by decide +kernel
theorem dm_110_79 : decode cm_110 79 = .ok (.iinc 3 1, 3) := by decide +kernel
theorem dm_110_82 : decode cm_110 82 = .ok (.goto (-21), 3) := by decide +kernel
theorem dm_110_85 : decode cm_110 85 = .ok (.iconst 0, 1) := by decide +kernel
theorem dm_110_86 : decode cm_110 86 = .ok (.istore_n 3, 1) := by decide +kernel
theorem dm_110_87 : decode cm_110 87 = .ok (.iload_n 3, 1) := by decide +kernel
theorem dm_110_88 : decode cm_110 88 = .ok (.bipush 8, 2) := by decide +kernel
theorem dm_110_90 : decode cm_110 90 = .ok (.if_icmp .ge 50, 3) := by decide +kernel
theorem dm_110_93 : decode cm_110 93 = .ok (.aload_n 0, 1) := by decide +kernel
theorem dm_110_94 : decode cm_110 94 = .ok (.getfield 16, 3) := by decide +kernel
theorem dm_110_97 : decode cm_110 97 = .ok (.bipush 8, 2) := by decide +kernel
theorem dm_110_99 : decode cm_110 99 = .ok (.iload_n 1, 1) := by decide +kernel
theorem dm_110_100 : decode cm_110 100 = .ok (.imul, 1) := by decide +kernel
theorem dm_110_101 : decode cm_110 101 = .ok (.iload_n 3, 1) := by decide +kernel
theorem dm_110_102 : decode cm_110 102 = .ok (.iadd, 1) := by decide +kernel
theorem dm_110_103 : decode cm_110 103 = .ok (.iload_n 3, 1) := by decide +kernel
theorem dm_110_104 : decode cm_110 104 = .ok (.bipush 6, 2) := by decide +kernel
theorem dm_110_106 : decode cm_110 106 = .ok (.if_icmp .ne 10, 3) := by decide +kernel
theorem dm_110_109 : decode cm_110 109 = .ok (.bipush 16, 2) := by decide +kernel
theorem dm_110_111 : decode cm_110 111 = .ok (.iload_n 1, 1) := by decide +kernel
theorem dm_110_112 : decode cm_110 112 = .ok (.imul, 1) := by decide +kernel
theorem dm_110_113 : decode cm_110 113 = .ok (.goto 20, 3) := by decide +kernel
theorem dm_110_116 : decode cm_110 116 = .ok (.iload_n 3, 1) := by decide +kernel
theorem dm_110_117 : decode cm_110 117 = .ok (.bipush 7, 2) := by decide +kernel
theorem dm_110_119 : decode cm_110 119 = .ok (.if_icmp .ne 13, 3) := by decide +kernel
theorem dm_110_122 : decode cm_110 122 = .ok (.bipush 64, 2) := by decide +kernel
theorem dm_110_124 : decode cm_110 124 = .ok (.bipush 32, 2) := by decide +kernel
theorem dm_110_126 : decode cm_110 126 = .ok (.iload_n 1, 1) := by decide +kernel
theorem dm_110_127 : decode cm_110 127 = .ok (.imul, 1) := by decide +kernel
theorem dm_110_128 : decode cm_110 128 = .ok (.iadd, 1) := by decide +kernel
theorem dm_110_129 : decode cm_110 129 = .ok (.goto 4, 3) := by decide +kernel
theorem dm_110_132 : decode cm_110 132 = .ok (.iconst 0, 1) := by decide +kernel
theorem dm_110_133 : decode cm_110 133 = .ok (.iastore, 1) := by decide +kernel
theorem dm_110_134 : decode cm_110 134 = .ok (.iinc 3 1, 3) := by decide +kernel
theorem dm_110_137 : decode cm_110 137 = .ok (.goto (-50), 3) := by decide +kernel
theorem dm_110_140 : decode cm_110 140 = .ok (.aload_n 0, 1) := by decide +kernel
theorem dm_110_141 : decode cm_110 141 = .ok (.getfield 19, 3) := by decide +kernel
theorem dm_110_144 : decode cm_110 144 = .ok (.iload_n 1, 1) := by decide +kernel
theorem dm_110_145 : decode cm_110 145 = .ok (.bipush 64, 2) := by decide +kernel
theorem dm_110_147 : decode cm_110 147 = .ok (.bipush 32, 2) := by decide +kernel
theorem dm_110_149 : decode cm_110 149 = .ok (.iload_n 1, 1) := by decide +kernel
theorem dm_110_150 : decode cm_110 150 = .ok (.imul, 1) := by decide +kernel
theorem dm_110_151 : decode cm_110 151 = .ok (.iadd, 1) := by decide +kernel
theorem dm_110_152 : decode cm_110 152 = .ok (.iastore, 1) := by decide +kernel
theorem dm_110_153 : decode cm_110 153 = .ok (.aload_n 0, 1) := by decide +kernel
theorem dm_110_154 : decode cm_110 154 = .ok (.getfield 22, 3) := by decide +kernel
theorem dm_110_157 : decode cm_110 157 = .ok (.iload_n 1, 1) := by decide +kernel
theorem dm_110_158 : decode cm_110 158 = .ok (.iconst 0, 1) := by decide +kernel
theorem dm_110_159 : decode cm_110 159 = .ok (.iastore, 1) := by decide +kernel
theorem dm_110_160 : decode cm_110 160 = .ok (.aload_n 0, 1) := by decide +kernel
theorem dm_110_161 : decode cm_110 161 = .ok (.getfield 28, 3) := by decide +kernel
theorem dm_110_164 : decode cm_110 164 = .ok (.iload_n 1, 1) := by decide +kernel
theorem dm_110_165 : decode cm_110 165 = .ok (.iconst 0, 1) := by decide +kernel
theorem dm_110_166 : decode cm_110 166 = .ok (.iastore, 1) := by decide +kernel
theorem dm_110_167 : decode cm_110 167 = .ok (.aload_n 0, 1) := by decide +kernel
theorem dm_110_168 : decode cm_110 168 = .ok (.getfield 34, 3) := by decide +kernel
theorem dm_110_171 : decode cm_110 171 = .ok (.iload_n 1, 1) := by decide +kernel
theorem dm_110_172 : decode cm_110 172 = .ok (.iconst 0, 1) := by decide +kernel
theorem dm_110_173 : decode cm_110 173 = .ok (.iastore, 1) := by decide +kernel
theorem dm_110_174 : decode cm_110 174 = .ok (.aload_n 0, 1) := by decide +kernel
theorem dm_110_175 : decode cm_110 175 = .ok (.getfield 37, 3) := by decide +kernel
theorem dm_110_178 : decode cm_110 178 = .ok (.iload_n 1, 1) := by decide +kernel
theorem dm_110_179 : decode cm_110 179 = .ok (.iconst 0, 1) := by decide +kernel
theorem dm_110_180 : decode cm_110 180 = .ok (.iastore, 1) := by decide +kernel
theorem dm_110_181 : decode cm_110 181 = .ok (.aload_n 0, 1) := by decide +kernel
theorem dm_110_182 : decode cm_110 182 = .ok (.getfield 43, 3) := by decide +kernel
theorem dm_110_185 : decode cm_110 185 = .ok (.iload_n 1, 1) := by decide +kernel
theorem dm_110_186 : decode cm_110 186 = .ok (.iconst 0, 1) := by decide +kernel
theorem dm_110_187 : decode cm_110 187 = .ok (.iastore, 1) := by decide +kernel
theorem dm_110_188 : decode cm_110 188 = .ok (.aload_n 0, 1) := by decide +kernel
theorem dm_110_189 : decode cm_110 189 = .ok (.getfield 46, 3) := by decide +kernel
theorem dm_110_192 : decode cm_110 192 = .ok (.iload_n 1, 1) := by decide +kernel
theorem dm_110_193 : decode cm_110 193 = .ok (.iconst 0, 1) := by decide +kernel
theorem dm_110_194 : decode cm_110 194 = .ok (.iastore, 1) := by decide +kernel
theorem dm_110_195 : decode cm_110 195 = .ok (.aload_n 0, 1) := by decide +kernel
theorem dm_110_196 : decode cm_110 196 = .ok (.getfield 13, 3) := by decide +kernel
theorem dm_110_199 : decode cm_110 199 = .ok (.iload_n 1, 1) := by decide +kernel
theorem dm_110_200 : decode cm_110 200 = .ok (.iconst 1, 1) := by decide +kernel
theorem dm_110_201 : decode cm_110 201 = .ok (.iastore, 1) := by decide +kernel
theorem dm_110_202 : decode cm_110 202 = .ok (.aload_n 0, 1) := by decide +kernel
theorem dm_110_203 : decode cm_110 203 = .ok (.aload_n 0, 1) := by decide +kernel
theorem dm_110_204 : decode cm_110 204 = .ok (.getfield 138, 3) := by decide +kernel
theorem dm_110_207 : decode cm_110 207 = .ok (.iload_n 1, 1) := by decide +kernel
theorem dm_110_208 : decode cm_110 208 = .ok (.if_icmp .ne 7, 3) := by decide +kernel
theorem dm_110_211 : decode cm_110 211 = .ok (.iconst 0, 1) := by decide +kernel
theorem dm_110_212 : decode cm_110 212 = .ok (.goto 7, 3) := by decide +kernel
theorem dm_110_215 : decode cm_110 215 = .ok (.aload_n 0, 1) := by decide +kernel
theorem dm_110_216 : decode cm_110 216 = .ok (.getfield 141, 3) := by decide +kernel
theorem dm_110_219 : decode cm_110 219 = .ok (.putfield 141, 3) := by decide +kernel
theorem dm_110_222 : decode cm_110 222 = .ok (.iconst 1, 1) := by decide +kernel
theorem dm_110_223 : decode cm_110 223 = .ok (.ireturn, 1) := by decide +kernel
theorem dm_111_0 : decode cm_111 0 = .ok (.iload_n 1, 1) := by decide +kernel
theorem dm_111_1 : decode cm_111 1 = .ok (.iconst 0, 1) := by decide +kernel
theorem dm_111_2 : decode cm_111 2 = .ok (.iconst 2, 1) := by decide +kernel
theorem dm_111_3 : decode cm_111 3 = .ok (.invokestatic 83, 3) := by decide +kernel
theorem dm_111_6 : decode cm_111 6 = .ok (.ifCond .eq 23, 3) := by decide +kernel
theorem dm_111_9 : decode cm_111 9 = .ok (.aload_n 0, 1) := by decide +kernel
theorem dm_111_10 : decode cm_111 10 = .ok (.getfield 13, 3) := by decide +kernel
theorem dm_111_13 : decode cm_111 13 = .ok (.iload_n 1, 1) := by decide +kernel
theorem dm_111_14 : decode cm_111 14 = .ok (.iaload, 1) := by decide +kernel
theorem dm_111_15 : decode cm_111 15 = .ok (.ifCond .eq 14, 3) := by decide +kernel
theorem dm_111_18 : decode cm_111 18 = .ok (.aload_n 0, 1) := by decide +kernel
theorem dm_111_19 : decode cm_111 19 = .ok (.getfield 34, 3) := by decide +kernel
theorem dm_111_22 : decode cm_111 22 = .ok (.iload_n 1, 1) := by decide +kernel
theorem dm_111_23 : decode cm_111 23 = .ok (.iaload, 1) := by decide +kernel
theorem dm_111_24 : decode cm_111 24 = .ok (.bipush 12, 2) := by decide +kernel
theorem dm_111_26 : decode cm_111 26 = .ok (.if_icmp .ne 5, 3) := by decide +kernel
theorem dm_111_29 : decode cm_111 29 = .ok (.iconst 0, 1) := by decide +kernel
theorem dm_111_30 : decode cm_111 30 = .ok (.ireturn, 1) := by decide +kernel
theorem dm_111_31 : decode cm_111 31 = .ok (.aload_n 0, 1) := by decide +kernel
theorem dm_111_32 : decode cm_111 32 = .ok (.getfield 31, 3) := by decide +kernel
theorem dm_111_35 : decode cm_111 35 = .ok (.bipush 12, 2) := by decide +kernel
theorem dm_111_37 : decode cm_111 37 = .ok (.iload_n 1, 1) := by decide +kernel
theorem dm_111_38 : decode cm_111 38 = .ok (.imul, 1) := by decide +kernel
theorem dm_111_39 : decode cm_111 39 = .ok (.aload_n 0, 1) := by decide +kernel
theorem dm_111_40 : decode cm_111 40 = .ok (.getfield 34, 3) := by decide +kernel
theorem dm_111_43 : decode cm_111 43 = .ok (.iload_n 1, 1) := by decide +kernel
theorem dm_111_44 : decode cm_111 44 = .ok (.iaload, 1) := by decide +kernel
theorem dm_111_45 : decode cm_111 45 = .ok (.iadd, 1) := by decide +kernel
theorem dm_111_46 : decode cm_111 46 = .ok (.iload_n 2, 1) := by decide +kernel
theorem dm_111_47 : decode cm_111 47 = .ok (.iastore, 1) := by decide +kernel
theorem dm_111_48 : decode cm_111 48 = .ok (.aload_n 0, 1) := by decide +kernel
theorem dm_111_49 : decode cm_111 49 = .ok (.getfield 34, 3) := by decide +kernel
theorem dm_111_52 : decode cm_111 52 = .ok (.iload_n 1, 1) := by decide +kernel
theorem dm_111_53 : decode cm_111 53 = .ok (.dup2, 1) := by decide +kernel
theorem dm_111_54 : decode cm_111 54 = .ok (.iaload, 1) := by decide +kernel
theorem dm_111_55 : decode cm_111 55 = .ok (.iconst 1, 1) := by decide +kernel
theorem dm_111_56 : decode cm_111 56 = .ok (.iadd, 1) := by decide +kernel
theorem dm_111_57 : decode cm_111 57 = .ok (.iastore, 1) := by decide +kernel
theorem dm_111_58 : decode cm_111 58 = .ok (.iconst 1, 1) := by decide +kernel
theorem dm_111_59 : decode cm_111 59 = .ok (.ireturn, 1) := by decide +kernel
theorem dm_112_0 : decode cm_112 0 = .ok (.aload_n 0, 1) := by decide +kernel
theorem dm_112_1 : decode cm_112 1 = .ok (.getfield 40, 3) := by decide +kernel
theorem dm_112_4 : decode cm_112 4 = .ok (.bipush 8, 2) := by decide +kernel
theorem dm_112_6 : decode cm_112 6 = .ok (.iload_n 1, 1) := by decide +kernel
theorem dm_112_7 : decode cm_112 7 = .ok (.imul, 1) := by decide +kernel
theorem dm_112_8 : decode cm_112 8 = .ok (.aload_n 0, 1) := by decide +kernel
theorem dm_112_9 : decode cm_112 9 = .ok (.getfield 43, 3) := by decide +kernel
theorem dm_112_12 : decode cm_112 12 = .ok (.iload_n 1, 1) := by decide +kernel
theorem dm_112_13 : decode cm_112 13 = .ok (.iaload, 1) := by decide +kernel
theorem dm_112_14 : decode cm_112 14 = .ok (.bipush 7, 2) := by decide +kernel
theorem dm_112_16 : decode cm_112 16 = .ok (.iand, 1) := by decide +kernel
theorem dm_112_17 : decode cm_112 17 = .ok (.iadd, 1) := by decide +kernel
theorem dm_112_18 : decode cm_112 18 = .ok (.iload_n 2, 1) := by decide +kernel
theorem dm_112_19 : decode cm_112 19 = .ok (.iastore, 1) := by decide +kernel
theorem dm_112_20 : decode cm_112 20 = .ok (.aload_n 0, 1) := by decide +kernel
theorem dm_112_21 : decode cm_112 21 = .ok (.getfield 43, 3) := by decide +kernel
theorem dm_112_24 : decode cm_112 24 = .ok (.iload_n 1, 1) := by decide +kernel
theorem dm_112_25 : decode cm_112 25 = .ok (.dup2, 1) := by decide +kernel
theorem dm_112_26 : decode cm_112 26 = .ok (.iaload, 1) := by decide +kernel
theorem dm_112_27 : decode cm_112 27 = .ok (.iconst 1, 1) := by decide +kernel
theorem dm_112_28 : decode cm_112 28 = .ok (.iadd, 1) := by decide +kernel
theorem dm_112_29 : decode cm_112 29 = .ok (.iastore, 1) := by decide +kernel
theorem dm_112_30 : decode cm_112 30 = .ok (.return_, 1) := by decide +kernel
theorem dm_113_0 : decode cm_113 0 = .ok (.aload_n 0, 1) := by decide +kernel
theorem dm_113_1 : decode cm_113 1 = .ok (.getfield 46, 3) := by decide +kernel
theorem dm_113_4 : decode cm_113 4 = .ok (.iload_n 1, 1) := by decide +kernel
theorem dm_113_5 : decode cm_113 5 = .ok (.iaload, 1) := by decide +kernel
theorem dm_113_6 : decode cm_113 6 = .ok (.bipush 16, 2) := by decide +kernel
theorem dm_113_8 : decode cm_113 8 = .ok (.if_icmp .ge 47, 3) := by decide +kernel
theorem dm_113_11 : decode cm_113 11 = .ok (.bipush 48, 2) := by decide +kernel
theorem dm_113_13 : decode cm_113 13 = .ok (.iload_n 1, 1) := by decide +kernel
theorem dm_113_14 : decode cm_113 14 = .ok (.imul, 1) := by decide +kernel
theorem dm_113_15 : decode cm_113 15 = .ok (.iconst 3, 1) := by decide +kernel
theorem dm_113_16 : decode cm_113 16 = .ok (.aload_n 0, 1) := by decide +kernel
theorem dm_113_17 : decode cm_113 17 = .ok (.getfield 46, 3) := by decide +kernel
theorem dm_113_20 : decode cm_113 20 = .ok (.iload_n 1, 1) := by decide +kernel
theorem dm_113_21 : decode cm_113 21 = .ok (.iaload, 1) := by decide +kernel
theorem dm_113_22 : decode cm_113 22 = .ok (.imul, 1) := by decide +kernel
theorem dm_113_23 : decode cm_113 23 = .ok (.iadd, 1) := by decide +kernel
theorem dm_113_24 : decode cm_113 24 = .ok (.istore 5, 2) := by decide +kernel
theorem dm_113_26 : decode cm_113 26 = .ok (.aload_n 0, 1) := by decide +kernel
theorem dm_113_27 : decode cm_113 27 = .ok (.getfield 49, 3) := by decide +kernel
theorem dm_113_30 : decode cm_113 30 = .ok (.iload 5, 2) := by decide +kernel
theorem dm_113_32 : decode cm_113 32 = .ok (.iload_n 2, 1) := by decide +kernel
theorem dm_113_33 : decode cm_113 33 = .ok (.iastore, 1) := by decide +kernel
theorem dm_113_34 : decode cm_113 34 = .ok (.aload_n 0, 1) := by decide +kernel
theorem dm_113_35 : decode cm_113 35 = .ok (.getfield 49, 3) := by decide +kernel
theorem dm_113_38 : decode cm_113 38 = .ok (.iload 5, 2) := by decide +kernel
theorem dm_113_40 : decode cm_113 40 = .ok (.iconst 1, 1) := by decide +kernel
theorem dm_113_41 : decode cm_113 41 = .ok (.iadd, 1) := by decide +kernel
theorem dm_113_42 : decode cm_113 42 = .ok (.iload_n 3, 1) := by decide +kernel
theorem dm_113_43 : decode cm_113 43 = .ok (.iastore, 1) := by decide +kernel
theorem dm_113_44 : decode cm_113 44 = .ok (.aload_n 0, 1) := by decide +kernel
theorem dm_113_45 : decode cm_113 45 = .ok (.getfield 49, 3) := by decide +kernel
theorem dm_113_48 : decode cm_113 48 = .ok (.iload 5, 2) := by decide +kernel
theorem dm_113_50 : decode cm_113 50 = .ok (.iconst 2, 1) := by decide +kernel
theorem dm_113_51 : decode cm_113 51 = .ok (.iadd, 1) := by decide +kernel
theorem dm_113_52 : decode cm_113 52 = .ok (.iload 4, 2) := by decide +kernel
theorem dm_113_54 : decode cm_113 54 = .ok (.iastore, 1) := by decide +kernel
theorem dm_113_55 : decode cm_113 55 = .ok (.aload_n 0, 1) := by decide +kernel
theorem dm_113_56 : decode cm_113 56 = .ok (.getfield 46, 3) := by decide +kernel
theorem dm_113_59 : decode cm_113 59 = .ok (.iload_n 1, 1) := by decide +kernel
theorem dm_113_60 : decode cm_113 60 = .ok (.dup2, 1) := by decide +kernel
theorem dm_113_61 : decode cm_113 61 = .ok (.iaload, 1) := by decide +kernel
theorem dm_113_62 : decode cm_113 62 = .ok (.iconst 1, 1) := by decide +kernel
theorem dm_113_63 : decode cm_113 63 = .ok (.iadd, 1) := by decide +kernel
theorem dm_113_64 : decode cm_113 64 = .ok (.iastore, 1) := by decide +kernel
theorem dm_113_65 : decode cm_113 65 = .ok (.return_, 1) := by decide +kernel
theorem dm_114_0 : decode cm_114 0 = .ok (.iload_n 2, 1) := by decide +kernel
theorem dm_114_1 : decode cm_114 1 = .ok (.iconst 1, 1) := by decide +kernel
theorem dm_114_2 : decode cm_114 2 = .ok (.if_icmp .eq 12, 3) := by decide +kernel
theorem dm_114_5 : decode cm_114 5 = .ok (.iload_n 2, 1) := by decide +kernel
theorem dm_114_6 : decode cm_114 6 = .ok (.iconst 3, 1) := by decide +kernel
theorem dm_114_7 : decode cm_114 7 = .ok (.iconst 5, 1) := by decide +kernel
theorem dm_114_8 : decode cm_114 8 = .ok (.invokestatic 83, 3) := by decide +kernel
theorem dm_114_11 : decode cm_114 11 = .ok (.ifCond .eq 17, 3) := by decide +kernel
theorem dm_114_14 : decode cm_114 14 = .ok (.aload_n 0, 1) := by decide +kernel
theorem dm_114_15 : decode cm_114 15 = .ok (.getfield 16, 3) := by decide +kernel
theorem dm_114_18 : decode cm_114 18 = .ok (.bipush 8, 2) := by decide +kernel
theorem dm_114_20 : decode cm_114 20 = .ok (.iload_n 1, 1) := by decide +kernel
theorem dm_114_21 : decode cm_114 21 = .ok (.imul, 1) := by decide +kernel
theorem dm_114_22 : decode cm_114 22 = .ok (.iconst 1, 1) := by decide +kernel
theorem dm_114_23 : decode cm_114 23 = .ok (.iadd, 1) := by decide +kernel
theorem dm_114_24 : decode cm_114 24 = .ok (.iaload, 1) := by decide +kernel
theorem dm_114_25 : decode cm_114 25 = .ok (.goto 4, 3) := by decide +kernel
theorem dm_114_28 : decode cm_114 28 = .ok (.iconst 0, 1) := by decide +kernel
theorem dm_114_29 : decode cm_114 29 = .ok (.istore_n 3, 1) := by decide +kernel
theorem dm_114_30 : decode cm_114 30 = .ok (.iload_n 2, 1) := by decide +kernel
theorem dm_114_31 : decode cm_114 31 = .ok (.iconst 4, 1) := by decide +kernel
theorem dm_114_32 : decode cm_114 32 = .ok (.iconst 5, 1) := by decide +kernel
theorem dm_114_33 : decode cm_114 33 = .ok (.invokestatic 83, 3) := by decide +kernel
theorem dm_114_36 : decode cm_114 36 = .ok (.ifCond .eq 17, 3) := by decide +kernel
theorem dm_114_39 : decode cm_114 39 = .ok (.aload_n 0, 1) := by decide +kernel
theorem dm_114_40 : decode cm_114 40 = .ok (.getfield 16, 3) := by decide +kernel
theorem dm_114_43 : decode cm_114 43 = .ok (.bipush 8, 2) := by decide +kernel
theorem dm_114_45 : decode cm_114 45 = .ok (.iload_n 1, 1) := by decide +kernel
theorem dm_114_46 : decode cm_114 46 = .ok (.imul, 1) := by decide +kernel
theorem dm_114_47 : decode cm_114 47 = .ok (.iconst 2, 1) := by decide +kernel
theorem dm_114_48 : decode cm_114 48 = .ok (.iadd, 1) := by decide +kernel
theorem dm_114_49 : decode cm_114 49 = .ok (.iaload, 1) := by decide +kernel
theorem dm_114_50 : decode cm_114 50 = .ok (.goto 4, 3) := by decide +kernel
theorem dm_114_53 : decode cm_114 53 = .ok (.iconst 0, 1) := by decide +kernel
theorem dm_114_54 : decode cm_114 54 = .ok (.istore 4, 2) := by decide +kernel
theorem dm_114_56 : decode cm_114 56 = .ok (.aload_n 0, 1) := by decide +kernel
theorem dm_114_57 : decode cm_114 57 = .ok (.iload_n 1, 1) := by decide +kernel
theorem dm_114_58 : decode cm_114 58 = .ok (.iload_n 2, 1) := by decide +kernel
theorem dm_114_59 : decode cm_114 59 = .ok (.iload_n 3, 1) := by decide +kernel
theorem dm_114_60 : decode cm_114 60 = .ok (.iload 4, 2) := by decide +kernel
theorem dm_114_62 : decode cm_114 62 = .ok (.invokevirtual 144, 3) := by decide +kernel
theorem dm_114_65 : decode cm_114 65 = .ok (.iconst (-1), 1) := by decide +kernel
theorem dm_114_66 : decode cm_114 66 = .ok (.istore 5, 2) := by decide +kernel
theorem dm_114_68 : decode cm_114 68 = .ok (.iload_n 2, 1) := by decide +kernel
theorem dm_114_69 : decode cm_114 69 = .ok (.iconst 1, 1) := by decide +kernel
theorem dm_114_70 : decode cm_114 70 = .ok (.if_icmp .ne 15, 3) := by decide +kernel
theorem dm_114_73 : decode cm_114 73 = .ok (.aload_n 0, 1) := by decide +kernel
theorem dm_114_74 : decode cm_114 74 = .ok (.iload_n 1, 1) := by decide +kernel
theorem dm_114_75 : decode cm_114 75 = .ok (.iload_n 3, 1) := by decide +kernel
theorem dm_114_76 : decode cm_114 76 = .ok (.invokevirtual 148, 3) := by decide +kernel
theorem dm_114_79 : decode cm_114 79 = .ok (.iconst 0, 1) := by decide +kernel
theorem dm_114_80 : decode cm_114 80 = .ok (.istore 5, 2) := by decide +kernel
theorem dm_114_82 : decode cm_114 82 = .ok (.goto 298, 3) := by decide +kernel
theorem dm_114_85 : decode cm_114 85 = .ok (.iload_n 2, 1) := by decide +kernel
theorem dm_114_86 : decode cm_114 86 = .ok (.iconst 2, 1) := by decide +kernel
theorem dm_114_87 : decode cm_114 87 = .ok (.if_icmp .ne 49, 3) := by decide +kernel
theorem dm_114_90 : decode cm_114 90 = .ok (.aload_n 0, 1) := by decide +kernel
theorem dm_114_91 : decode cm_114 91 = .ok (.getfield 37, 3) := by decide +kernel
theorem dm_114_94 : decode cm_114 94 = .ok (.iload_n 1, 1) := by decide +kernel
theorem dm_114_95 : decode cm_114 95 = .ok (.iaload, 1) := by decide +kernel
theorem dm_114_96 : decode cm_114 96 = .ok (.aload_n 0, 1) := by decide +kernel
theorem dm_114_97 : decode cm_114 97 = .ok (.getfield 34, 3) := by decide +kernel
theorem dm_114_100 : decode cm_114 100 = .ok (.iload_n 1, 1) := by decide +kernel
theorem dm_114_101 : decode cm_114 101 = .ok (.iaload, 1) := by decide +kernel
theorem dm_114_102 : decode cm_114 102 = .ok (.if_icmp .ge 34, 3) := by decide +kernel
theorem dm_114_105 : decode cm_114 105 = .ok (.aload_n 0, 1) := by decide +kernel
theorem dm_114_106 : decode cm_114 106 = .ok (.getfield 31, 3) := by decide +kernel
theorem dm_114_109 : decode cm_114 109 = .ok (.bipush 12, 2) := by decide +kernel
theorem dm_114_111 : decode cm_114 111 = .ok (.iload_n 1, 1) := by decide +kernel
theorem dm_114_112 : decode cm_114 112 = .ok (.imul, 1) := by decide +kernel
theorem dm_114_113 : decode cm_114 113 = .ok (.aload_n 0, 1) := by decide +kernel
theorem dm_114_114 : decode cm_114 114 = .ok (.getfield 37, 3) := by decide +kernel
theorem dm_114_117 : decode cm_114 117 = .ok (.iload_n 1, 1) := by decide +kernel
theorem dm_114_118 : decode cm_114 118 = .ok (.iaload, 1) := by decide +kernel
theorem dm_114_119 : decode cm_114 119 = .ok (.iadd, 1) := by decide +kernel
theorem dm_114_120 : decode cm_114 120 = .ok (.iaload, 1) := by decide +kernel
theorem dm_114_121 : decode cm_114 121 = .ok (.istore 5, 2) := by decide +kernel
theorem dm_114_123 : decode cm_114 123 = .ok (.aload_n 0, 1) := by decide +kernel
theorem dm_114_124 : decode cm_114 124 = .ok (.getfield 37, 3) := by decide +kernel
theorem dm_114_127 : decode cm_114 127 = .ok (.iload_n 1, 1) := by decide +kernel
theorem dm_114_128 : decode cm_114 128 = .ok (.dup2, 1) := by decide +kernel
theorem dm_114_129 : decode cm_114 129 = .ok (.iaload, 1) := by decide +kernel
theorem dm_114_130 : decode cm_114 130 = .ok (.iconst 1, 1) := by decide +kernel
theorem dm_114_131 : decode cm_114 131 = .ok (.iadd, 1) := by decide +kernel
theorem dm_114_132 : decode cm_114 132 = .ok (.iastore, 1) := by decide +kernel
theorem dm_114_133 : decode cm_114 133 = .ok (.goto 247, 3) := by decide +kernel
theorem dm_114_136 : decode cm_114 136 = .ok (.iload_n 2, 1) := by decide +kernel
theorem dm_114_137 : decode cm_114 137 = .ok (.iconst 3, 1) := by decide +kernel
theorem dm_114_138 : decode cm_114 138 = .ok (.if_icmp .ne 41, 3) := by decide +kernel
theorem dm_114_141 : decode cm_114 141 = .ok (.iload_n 3, 1) := by decide +kernel
theorem dm_114_142 : decode cm_114 142 = .ok (.iconst 1, 1) := by decide +kernel
theorem dm_114_143 : decode cm_114 143 = .ok (.bipush 16, 2) := by decide +kernel
theorem dm_114_145 : decode cm_114 145 = .ok (.aload_n 0, 1) := by decide +kernel
theorem dm_114_146 : decode cm_114 146 = .ok (.getfield 22, 3) := by decide +kernel
theorem dm_114_149 : decode cm_114 149 = .ok (.iload_n 1, 1) := by decide +kernel
theorem dm_114_150 : decode cm_114 150 = .ok (.iaload, 1) := by decide +kernel
theorem dm_114_151 : decode cm_114 151 = .ok (.isub, 1) := by decide +kernel
theorem dm_114_152 : decode cm_114 152 = .ok (.invokestatic 83, 3) := by decide +kernel
theorem dm_114_155 : decode cm_114 155 = .ok (.ifCond .eq 24, 3) := by decide +kernel
theorem dm_114_158 : decode cm_114 158 = .ok (.aload_n 0, 1) := by decide +kernel
theorem dm_114_159 : decode cm_114 159 = .ok (.getfield 22, 3) := by decide +kernel
theorem dm_114_162 : decode cm_114 162 = .ok (.iload_n 1, 1) := by decide +kernel
theorem dm_114_163 : decode cm_114 163 = .ok (.iaload, 1) := by decide +kernel
theorem dm_114_164 : decode cm_114 164 = .ok (.istore 5, 2) := by decide +kernel
theorem dm_114_166 : decode cm_114 166 = .ok (.aload_n 0, 1) := by decide +kernel
theorem dm_114_167 : decode cm_114 167 = .ok (.getfield 22, 3) := by decide +kernel
theorem dm_114_170 : decode cm_114 170 = .ok (.iload_n 1, 1) := by decide +kernel
theorem dm_114_171 : decode cm_114 171 = .ok (.dup2, 1) := by decide +kernel
theorem dm_114_172 : decode cm_114 172 = .ok (.iaload, 1) := by decide +kernel
theorem dm_114_173 : decode cm_114 173 = .ok (.iload_n 3, 1) := by decide +kernel
theorem dm_114_174 : decode cm_114 174 = .ok (.iadd, 1) := by decide +kernel
theorem dm_114_175 : decode cm_114 175 = .ok (.iastore, 1) := by decide +kernel
theorem dm_114_176 : decode cm_114 176 = .ok (.goto 204, 3) := by decide +kernel
theorem dm_114_179 : decode cm_114 179 = .ok (.iload_n 2, 1) := by decide +kernel
theorem dm_114_180 : decode cm_114 180 = .ok (.iconst 4, 1) := by decide +kernel
theorem dm_114_181 : decode cm_114 181 = .ok (.if_icmp .ne 54, 3) := by decide +kernel
theorem dm_114_184 : decode cm_114 184 = .ok (.iload_n 3, 1) := by decide +kernel
theorem dm_114_185 : decode cm_114 185 = .ok (.iload 4, 2) := by decide +kernel
theorem dm_114_187 : decode cm_114 187 = .ok (.invokestatic 151, 3) := by decide +kernel
theorem dm_114_190 : decode cm_114 190 = .ok (.ifCond .eq 45, 3) := by decide +kernel
theorem dm_114_193 : decode cm_114 193 = .ok (.iconst 0, 1) := by decide +kernel
theorem dm_114_194 : decode cm_114 194 = .ok (.istore 6, 2) := by decide +kernel
theorem dm_114_196 : decode cm_114 196 = .ok (.iload 6, 2) := by decide +kernel
theorem dm_114_198 : decode cm_114 198 = .ok (.iload 4, 2) := by decide +kernel
theorem dm_114_200 : decode cm_114 200 = .ok (.if_icmp .ge 28, 3) := by decide +kernel
theorem dm_114_203 : decode cm_114 203 = .ok (.aload_n 0, 1) := by decide +kernel
theorem dm_114_204 : decode cm_114 204 = .ok (.iload_n 1, 1) := by decide +kernel
theorem dm_114_205 : decode cm_114 205 = .ok (.aload_n 0, 1) := by decide +kernel
theorem dm_114_206 : decode cm_114 206 = .ok (.getfield 7, 3) := by decide +kernel
theorem dm_114_209 : decode cm_114 209 = .ok (.bipush 16, 2) := by decide +kernel
theorem dm_114_211 : decode cm_114 211 = .ok (.iload_n 1, 1) := by decide +kernel
theorem dm_114_212 : decode cm_114 212 = .ok (.imul, 1) := by decide +kernel
theorem dm_114_213 : decode cm_114 213 = .ok (.iload_n 3, 1) := by decide +kernel
theorem dm_114_214 : decode cm_114 214 = .ok (.iadd, 1) := by decide +kernel
theorem dm_114_215 : decode cm_114 215 = .ok (.iload 6, 2) := by decide +kernel
theorem dm_114_217 : decode cm_114 217 = .ok (.iadd, 1) := by decide +kernel
theorem dm_114_218 : decode cm_114 218 = .ok (.iaload, 1) := by decide +kernel
theorem dm_114_219 : decode cm_114 219 = .ok (.invokevirtual 148, 3) := by decide +kernel
theorem dm_114_222 : decode cm_114 222 = .ok (.iinc 6 1, 3) := by decide +kernel
theorem dm_114_225 : decode cm_114 225 = .ok (.goto (-29), 3) := by decide +kernel
theorem dm_114_228 : decode cm_114 228 = .ok (.iload 4, 2) := by decide +kernel
theorem dm_114_230 : decode cm_114 230 = .ok (.istore 5, 2) := by decide +kernel
theorem dm_114_232 : decode cm_114 232 = .ok (.goto 148, 3) := by decide +kernel
theorem dm_114_235 : decode cm_114 235 = .ok (.iload_n 2, 1) := by decide +kernel
theorem dm_114_236 : decode cm_114 236 = .ok (.iconst 5, 1) := by decide +kernel
theorem dm_114_237 : decode cm_114 237 = .ok (.if_icmp .ne 64, 3) := by decide +kernel
theorem dm_114_240 : decode cm_114 240 = .ok (.iload_n 3, 1) := by decide +kernel
theorem dm_114_241 : decode cm_114 241 = .ok (.iconst 0, 1) := by decide +kernel
theorem dm_114_242 : decode cm_114 242 = .ok (.iconst 2, 1) := by decide +kernel
theorem dm_114_243 : decode cm_114 243 = .ok (.invokestatic 83, 3) := by decide +kernel
theorem dm_114_246 : decode cm_114 246 = .ok (.ifCond .eq 55, 3) := by decide +kernel
theorem dm_114_249 : decode cm_114 249 = .ok (.aload_n 0, 1) := by decide +kernel
theorem dm_114_250 : decode cm_114 250 = .ok (.getfield 13, 3) := by decide +kernel
theorem dm_114_253 : decode cm_114 253 = .ok (.iload_n 3, 1) := by decide +kernel
theorem dm_114_254 : decode cm_114 254 = .ok (.iaload, 1) := by decide +kernel
theorem dm_114_255 : decode cm_114 255 = .ok (.ifCond .eq 46, 3) := by decide +kernel
theorem dm_114_258 : decode cm_114 258 = .ok (.aload_n 0, 1) := by decide +kernel
theorem dm_114_259 : decode cm_114 259 = .ok (.getfield 28, 3) := by decide +kernel
theorem dm_114_262 : decode cm_114 262 = .ok (.iload_n 3, 1) := by decide +kernel
theorem dm_114_263 : decode cm_114 263 = .ok (.iaload, 1) := by decide +kernel
theorem dm_114_264 : decode cm_114 264 = .ok (.iconst 4, 1) := by decide +kernel
theorem dm_114_265 : decode cm_114 265 = .ok (.if_icmp .ge 36, 3) := by decide +kernel
theorem dm_114_268 : decode cm_114 268 = .ok (.aload_n 0, 1) := by decide +kernel
theorem dm_114_269 : decode cm_114 269 = .ok (.getfield 25, 3) := by decide +kernel
theorem dm_114_272 : decode cm_114 272 = .ok (.iconst 4, 1) := by decide +kernel
theorem dm_114_273 : decode cm_114 273 = .ok (.iload_n 3, 1) := by decide +kernel
theorem dm_114_274 : decode cm_114 274 = .ok (.imul, 1) := by decide +kernel
theorem dm_114_275 : decode cm_114 275 = .ok (.aload_n 0, 1) := by decide +kernel
theorem dm_114_276 : decode cm_114 276 = .ok (.getfield 28, 3) := by decide +kernel
theorem dm_114_279 : decode cm_114 279 = .ok (.iload_n 3, 1) := by decide +kernel
theorem dm_114_280 : decode cm_114 280 = .ok (.iaload, 1) := by decide +kernel
theorem dm_114_281 : decode cm_114 281 = .ok (.iadd, 1) := by decide +kernel
theorem dm_114_282 : decode cm_114 282 = .ok (.iload 4, 2) := by decide +kernel
theorem dm_114_284 : decode cm_114 284 = .ok (.iastore, 1) := by decide +kernel
theorem dm_114_285 : decode cm_114 285 = .ok (.aload_n 0, 1) := by decide +kernel
theorem dm_114_286 : decode cm_114 286 = .ok (.getfield 28, 3) := by decide +kernel
theorem dm_114_289 : decode cm_114 289 = .ok (.iload_n 3, 1) := by decide +kernel
theorem dm_114_290 : decode cm_114 290 = .ok (.dup2, 1) := by decide +kernel
theorem dm_114_291 : decode cm_114 291 = .ok (.iaload, 1) := by decide +kernel
theorem dm_114_292 : decode cm_114 292 = .ok (.iconst 1, 1) := by decide +kernel
theorem dm_114_293 : decode cm_114 293 = .ok (.iadd, 1) := by decide +kernel
theorem dm_114_294 : decode cm_114 294 = .ok (.iastore, 1) := by decide +kernel
theorem dm_114_295 : decode cm_114 295 = .ok (.iconst 0, 1) := by decide +kernel
theorem dm_114_296 : decode cm_114 296 = .ok (.istore 5, 2) := by decide +kernel
theorem dm_114_298 : decode cm_114 298 = .ok (.goto 82, 3) := by decide +kernel
theorem dm_114_301 : decode cm_114 301 = .ok (.iload_n 2, 1) := by decide +kernel
theorem dm_114_302 : decode cm_114 302 = .ok (.bipush 6, 2) := by decide +kernel
theorem dm_114_304 : decode cm_114 304 = .ok (.if_icmp .ne 76, 3) := by decide +kernel
theorem dm_114_307 : decode cm_114 307 = .ok (.aload_n 0, 1) := by decide +kernel
theorem dm_114_308 : decode cm_114 308 = .ok (.getfield 28, 3) := by decide +kernel
theorem dm_114_311 : decode cm_114 311 = .ok (.iload_n 1, 1) := by decide +kernel
theorem dm_114_312 : decode cm_114 312 = .ok (.iaload, 1) := by decide +kernel
theorem dm_114_313 : decode cm_114 313 = .ok (.ifCond .le 67, 3) := by decide +kernel
theorem dm_114_316 : decode cm_114 316 = .ok (.aload_n 0, 1) := by decide +kernel
theorem dm_114_317 : decode cm_114 317 = .ok (.getfield 25, 3) := by decide +kernel
theorem dm_114_320 : decode cm_114 320 = .ok (.iconst 4, 1) := by decide +kernel
theorem dm_114_321 : decode cm_114 321 = .ok (.iload_n 1, 1) := by decide +kernel
theorem dm_114_322 : decode cm_114 322 = .ok (.imul, 1) := by decide +kernel
theorem dm_114_323 : decode cm_114 323 = .ok (.iaload, 1) := by decide +kernel
theorem dm_114_324 : decode cm_114 324 = .ok (.istore 5, 2) := by decide +kernel
theorem dm_114_326 : decode cm_114 326 = .ok (.aload_n 0, 1) := by decide +kernel
theorem dm_114_327 : decode cm_114 327 = .ok (.getfield 28, 3) := by decide +kernel
theorem dm_114_330 : decode cm_114 330 = .ok (.iload_n 1, 1) := by decide +kernel
theorem dm_114_331 : decode cm_114 331 = .ok (.dup2, 1) := by decide +kernel
theorem dm_114_332 : decode cm_114 332 = .ok (.iaload, 1) := by decide +kernel
theorem dm_114_333 : decode cm_114 333 = .ok (.iconst 1, 1) := by decide +kernel
theorem dm_114_334 : decode cm_114 334 = .ok (.isub, 1) := by decide +kernel
theorem dm_114_335 : decode cm_114 335 = .ok (.iastore, 1) := by decide +kernel
theorem dm_114_336 : decode cm_114 336 = .ok (.iconst 0, 1) := by decide +kernel
theorem dm_114_337 : decode cm_114 337 = .ok (.istore 6, 2) := by decide +kernel
theorem dm_114_339 : decode cm_114 339 = .ok (.iload 6, 2) := by decide +kernel
theorem dm_114_341 : decode cm_114 341 = .ok (.aload_n 0, 1) := by decide +kernel
theorem dm_114_342 : decode cm_114 342 = .ok (.getfield 28, 3) := by decide +kernel
theorem dm_114_345 : decode cm_114 345 = .ok (.iload_n 1, 1) := by decide +kernel
theorem dm_114_346 : decode cm_114 346 = .ok (.iaload, 1) := by decide +kernel
theorem dm_114_347 : decode cm_114 347 = .ok (.if_icmp .ge 33, 3) := by decide +kernel
theorem dm_114_350 : decode cm_114 350 = .ok (.aload_n 0, 1) := by decide +kernel
theorem dm_114_351 : decode cm_114 351 = .ok (.getfield 25, 3) := by decide +kernel
theorem dm_114_354 : decode cm_114 354 = .ok (.iconst 4, 1) := by decide +kernel
theorem dm_114_355 : decode cm_114 355 = .ok (.iload_n 1, 1) := by decide +kernel
theorem dm_114_356 : decode cm_114 356 = .ok (.imul, 1) := by decide +kernel
theorem dm_114_357 : decode cm_114 357 = .ok (.iload 6, 2) := by decide +kernel
theorem dm_114_359 : decode cm_114 359 = .ok (.iadd, 1) := by decide +kernel
theorem dm_114_360 : decode cm_114 360 = .ok (.aload_n 0, 1) := by decide +kernel
theorem dm_114_361 : decode cm_114 361 = .ok (.getfield 25, 3) := by decide +kernel
theorem dm_114_364 : decode cm_114 364 = .ok (.iconst 4, 1) := by decide +kernel
theorem dm_114_365 : decode cm_114 365 = .ok (.iload_n 1, 1) := by decide +kernel
theorem dm_114_366 : decode cm_114 366 = .ok (.imul, 1) := by decide +kernel
theorem dm_114_367 : decode cm_114 367 = .ok (.iload 6, 2) := by decide +kernel
theorem dm_114_369 : decode cm_114 369 = .ok (.iadd, 1) := by decide +kernel
theorem dm_114_370 : decode cm_114 370 = .ok (.iconst 1, 1) := by decide +kernel
theorem dm_114_371 : decode cm_114 371 = .ok (.iadd, 1) := by decide +kernel
theorem dm_114_372 : decode cm_114 372 = .ok (.iaload, 1) := by decide +kernel
theorem dm_114_373 : decode cm_114 373 = .ok (.iastore, 1) := by decide +kernel
theorem dm_114_374 : decode cm_114 374 = .ok (.iinc 6 1, 3) := by decide +kernel
theorem dm_114_377 : decode cm_114 377 = .ok (.goto (-38), 3) := by decide +kernel
theorem dm_114_380 : decode cm_114 380 = .ok (.aload_n 0, 1) := by decide +kernel
theorem dm_114_381 : decode cm_114 381 = .ok (.getfield 16, 3) := by decide +kernel
theorem dm_114_384 : decode cm_114 384 = .ok (.bipush 8, 2) := by decide +kernel
theorem dm_114_386 : decode cm_114 386 = .ok (.iload_n 1, 1) := by decide +kernel
theorem dm_114_387 : decode cm_114 387 = .ok (.imul, 1) := by decide +kernel
theorem dm_114_388 : decode cm_114 388 = .ok (.iconst 1, 1) := by decide +kernel
theorem dm_114_389 : decode cm_114 389 = .ok (.iadd, 1) := by decide +kernel
theorem dm_114_390 : decode cm_114 390 = .ok (.iload 5, 2) := by decide +kernel
theorem dm_114_392 : decode cm_114 392 = .ok (.iastore, 1) := by decide +kernel
theorem dm_114_393 : decode cm_114 393 = .ok (.return_, 1) := by decide +kernel
theorem dm_115_0 : decode cm_115 0 = .ok (.iload_n 0, 1) := by decide +kernel
theorem dm_115_1 : decode cm_115 1 = .ok (.iconst 0, 1) := by decide +kernel
theorem dm_115_2 : decode cm_115 2 = .ok (.bipush 16, 2) := by decide +kernel
theorem dm_115_4 : decode cm_115 4 = .ok (.invokestatic 83, 3) := by decide +kernel
theorem dm_115_7 : decode cm_115 7 = .ok (.ifCond .eq 25, 3) := by decide +kernel
theorem dm_115_10 : decode cm_115 10 = .ok (.iload_n 1, 1) := by decide +kernel
theorem dm_115_11 : decode cm_115 11 = .ok (.iconst 0, 1) := by decide +kernel
theorem dm_115_12 : decode cm_115 12 = .ok (.bipush 16, 2) := by decide +kernel
theorem dm_115_14 : decode cm_115 14 = .ok (.invokestatic 83, 3) := by decide +kernel
theorem dm_115_17 : decode cm_115 17 = .ok (.ifCond .eq 15, 3) := by decide +kernel
theorem dm_115_20 : decode cm_115 20 = .ok (.iload_n 0, 1) := by decide +kernel
theorem dm_115_21 : decode cm_115 21 = .ok (.iload_n 1, 1) := by decide +kernel
theorem dm_115_22 : decode cm_115 22 = .ok (.iadd, 1) := by decide +kernel
theorem dm_115_23 : decode cm_115 23 = .ok (.bipush 16, 2) := by decide +kernel
theorem dm_115_25 : decode cm_115 25 = .ok (.if_icmp .gt 7, 3) := by decide +kernel
theorem dm_115_28 : decode cm_115 28 = .ok (.iconst 1, 1) := by decide +kernel
theorem dm_115_29 : decode cm_115 29 = .ok (.goto 4, 3) := by decide +kernel
theorem dm_115_32 : decode cm_115 32 = .ok (.iconst 0, 1) := by decide +kernel
theorem dm_115_33 : decode cm_115 33 = .ok (.ireturn, 1) := by decide +kernel
theorem dm_116_0 : decode cm_116 0 = .ok (.aload_n 0, 1) := by decide +kernel
theorem dm_116_1 : decode cm_116 1 = .ok (.getfield 19, 3) := by decide +kernel
theorem dm_116_4 : decode cm_116 4 = .ok (.iload_n 1, 1) := by decide +kernel
theorem dm_116_5 : decode cm_116 5 = .ok (.iaload, 1) := by decide +kernel
theorem dm_116_6 : decode cm_116 6 = .ok (.istore_n 2, 1) := by decide +kernel
theorem dm_116_7 : decode cm_116 7 = .ok (.aload_n 0, 1) := by decide +kernel
theorem dm_116_8 : decode cm_116 8 = .ok (.getfield 7, 3) := by decide +kernel
theorem dm_116_11 : decode cm_116 11 = .ok (.iload_n 2, 1) := by decide +kernel
theorem dm_116_12 : decode cm_116 12 = .ok (.iaload, 1) := by decide +kernel
theorem dm_116_13 : decode cm_116 13 = .ok (.istore_n 3, 1) := by decide +kernel
theorem dm_116_14 : decode cm_116 14 = .ok (.iload_n 3, 1) := by decide +kernel
theorem dm_116_15 : decode cm_116 15 = .ok (.bipush 15, 2) := by decide +kernel
theorem dm_116_17 : decode cm_116 17 = .ok (.iand, 1) := by decide +kernel
theorem dm_116_18 : decode cm_116 18 = .ok (.istore 4, 2) := by decide +kernel
theorem dm_116_20 : decode cm_116 20 = .ok (.iload_n 3, 1) := by decide +kernel
theorem dm_116_21 : decode cm_116 21 = .ok (.bipush 10, 2) := by decide +kernel
theorem dm_116_23 : decode cm_116 23 = .ok (.ishr, 1) := by decide +kernel
theorem dm_116_24 : decode cm_116 24 = .ok (.istore 5, 2) := by decide +kernel
theorem dm_116_26 : decode cm_116 26 = .ok (.bipush 8, 2) := by decide +kernel
theorem dm_116_28 : decode cm_116 28 = .ok (.iload_n 1, 1) := by decide +kernel
theorem dm_116_29 : decode cm_116 29 = .ok (.imul, 1) := by decide +kernel
theorem dm_116_30 : decode cm_116 30 = .ok (.iload_n 3, 1) := by decide +kernel
theorem dm_116_31 : decode cm_116 31 = .ok (.iconst 4, 1) := by decide +kernel
theorem dm_116_32 : decode cm_116 32 = .ok (.ishr, 1) := by decide +kernel
theorem dm_116_33 : decode cm_116 33 = .ok (.bipush 7, 2) := by decide +kernel
theorem dm_116_35 : decode cm_116 35 = .ok (.iand, 1) := by decide +kernel
theorem dm_116_36 : decode cm_116 36 = .ok (.iadd, 1) := by decide +kernel
theorem dm_116_37 : decode cm_116 37 = .ok (.istore 6, 2) := by decide +kernel
theorem dm_116_39 : decode cm_116 39 = .ok (.bipush 8, 2) := by decide +kernel
theorem dm_116_41 : decode cm_116 41 = .ok (.iload_n 1, 1) := by decide +kernel
theorem dm_116_42 : decode cm_116 42 = .ok (.imul, 1) := by decide +kernel
theorem dm_116_43 : decode cm_116 43 = .ok (.iload_n 3, 1) := by decide +kernel
theorem dm_116_44 : decode cm_116 44 = .ok (.bipush 7, 2) := by decide +kernel
theorem dm_116_46 : decode cm_116 46 = .ok (.ishr, 1) := by decide +kernel
theorem dm_116_47 : decode cm_116 47 = .ok (.bipush 7, 2) := by decide +kernel
theorem dm_116_49 : decode cm_116 49 = .ok (.iand, 1) := by decide +kernel
theorem dm_116_50 : decode cm_116 50 = .ok (.iadd, 1) := by decide +kernel
theorem dm_116_51 : decode cm_116 51 = .ok (.istore 7, 2) := by decide +kernel
theorem dm_116_53 : decode cm_116 53 = .ok (.iload 4, 2) := by decide +kernel
end
section
theorem dm_116_55 : decode cm_116 55 = .ok (.ifCond .eq 15, 3) := by decide +kernel
theorem dm_116_58 : decode cm_116 58 = .ok (.iload 4, 2) := by decide +kernel
theorem dm_116_60 : decode cm_116 60 = .ok (.bipush 14, 2) := by decide +kernel
theorem dm_116_62 : decode cm_116 62 = .ok (.if_icmp .ne 40, 3) := by decide +kernel
theorem dm_116_65 : decode cm_116 65 = .ok (.iload 5, 2) := by decide +kernel
theorem dm_116_67 : decode cm_116 67 = .ok (.ifCond .ne 35, 3) := by decide +kernel
theorem dm_116_70 : decode cm_116 70 = .ok (.iload 4, 2) := by decide +kernel
theorem dm_116_72 : decode cm_116 72 = .ok (.bipush 14, 2) := by decide +kernel
theorem dm_116_74 : decode cm_116 74 = .ok (.if_icmp .ne 11, 3) := by decide +kernel
theorem dm_116_77 : decode cm_116 77 = .ok (.aload_n 0, 1) := by decide +kernel
theorem dm_116_78 : decode cm_116 78 = .ok (.iload_n 1, 1) := by decide +kernel
theorem dm_116_79 : decode cm_116 79 = .ok (.iconst 0, 1) := by decide +kernel
theorem dm_116_80 : decode cm_116 80 = .ok (.iconst 0, 1) := by decide +kernel
theorem dm_116_81 : decode cm_116 81 = .ok (.iconst 0, 1) := by decide +kernel
theorem dm_116_82 : decode cm_116 82 = .ok (.invokevirtual 144, 3) := by decide +kernel
theorem dm_116_85 : decode cm_116 85 = .ok (.aload_n 0, 1) := by decide +kernel
theorem dm_116_86 : decode cm_116 86 = .ok (.getfield 13, 3) := by decide +kernel
theorem dm_116_89 : decode cm_116 89 = .ok (.iload_n 1, 1) := by decide +kernel
theorem dm_116_90 : decode cm_116 90 = .ok (.iload 4, 2) := by decide +kernel
theorem dm_116_92 : decode cm_116 92 = .ok (.ifCond .ne 7, 3) := by decide +kernel
theorem dm_116_95 : decode cm_116 95 = .ok (.iconst 3, 1) := by decide +kernel
theorem dm_116_96 : decode cm_116 96 = .ok (.goto 4, 3) := by decide +kernel
theorem dm_116_99 : decode cm_116 99 = .ok (.iconst 2, 1) := by decide +kernel
theorem dm_116_100 : decode cm_116 100 = .ok (.iastore, 1) := by decide +kernel
theorem dm_116_101 : decode cm_116 101 = .ok (.return_, 1) := by decide +kernel
theorem dm_116_102 : decode cm_116 102 = .ok (.aload_n 0, 1) := by decide +kernel
theorem dm_116_103 : decode cm_116 103 = .ok (.getfield 19, 3) := by decide +kernel
theorem dm_116_106 : decode cm_116 106 = .ok (.iload_n 1, 1) := by decide +kernel
theorem dm_116_107 : decode cm_116 107 = .ok (.iload_n 2, 1) := by decide +kernel
theorem dm_116_108 : decode cm_116 108 = .ok (.iconst 1, 1) := by decide +kernel
theorem dm_116_109 : decode cm_116 109 = .ok (.iadd, 1) := by decide +kernel
theorem dm_116_110 : decode cm_116 110 = .ok (.iastore, 1) := by decide +kernel
theorem dm_116_111 : decode cm_116 111 = .ok (.iload 4, 2) := by decide +kernel
theorem dm_116_113 : decode cm_116 113 = .ok (.bipush 14, 2) := by decide +kernel
theorem dm_116_115 : decode cm_116 115 = .ok (.if_icmp .ne 13, 3) := by decide +kernel
theorem dm_116_118 : decode cm_116 118 = .ok (.aload_n 0, 1) := by decide +kernel
theorem dm_116_119 : decode cm_116 119 = .ok (.iload_n 1, 1) := by decide +kernel
theorem dm_116_120 : decode cm_116 120 = .ok (.iload 5, 2) := by decide +kernel
theorem dm_116_122 : decode cm_116 122 = .ok (.invokevirtual 154, 3) := by decide +kernel
theorem dm_116_125 : decode cm_116 125 = .ok (.goto 168, 3) := by decide +kernel
theorem dm_116_128 : decode cm_116 128 = .ok (.iload 4, 2) := by decide +kernel
theorem dm_116_130 : decode cm_116 130 = .ok (.bipush 8, 2) := by decide +kernel
theorem dm_116_132 : decode cm_116 132 = .ok (.if_icmp .ne 28, 3) := by decide +kernel
theorem dm_116_135 : decode cm_116 135 = .ok (.aload_n 0, 1) := by decide +kernel
theorem dm_116_136 : decode cm_116 136 = .ok (.getfield 16, 3) := by decide +kernel
theorem dm_116_139 : decode cm_116 139 = .ok (.iload 6, 2) := by decide +kernel
theorem dm_116_141 : decode cm_116 141 = .ok (.aload_n 0, 1) := by decide +kernel
theorem dm_116_142 : decode cm_116 142 = .ok (.getfield 7, 3) := by decide +kernel
theorem dm_116_145 : decode cm_116 145 = .ok (.aload_n 0, 1) := by decide +kernel
theorem dm_116_146 : decode cm_116 146 = .ok (.getfield 16, 3) := by decide +kernel
theorem dm_116_149 : decode cm_116 149 = .ok (.iload 7, 2) := by decide +kernel
theorem dm_116_151 : decode cm_116 151 = .ok (.iaload, 1) := by decide +kernel
theorem dm_116_152 : decode cm_116 152 = .ok (.iload 5, 2) := by decide +kernel
theorem dm_116_154 : decode cm_116 154 = .ok (.iadd, 1) := by decide +kernel
theorem dm_116_155 : decode cm_116 155 = .ok (.iaload, 1) := by decide +kernel
theorem dm_116_156 : decode cm_116 156 = .ok (.iastore, 1) := by decide +kernel
theorem dm_116_157 : decode cm_116 157 = .ok (.goto 136, 3) := by decide +kernel
theorem dm_116_160 : decode cm_116 160 = .ok (.iload 4, 2) := by decide +kernel
theorem dm_116_162 : decode cm_116 162 = .ok (.bipush 9, 2) := by decide +kernel
theorem dm_116_164 : decode cm_116 164 = .ok (.if_icmp .ne 28, 3) := by decide +kernel
theorem dm_116_167 : decode cm_116 167 = .ok (.aload_n 0, 1) := by decide +kernel
theorem dm_116_168 : decode cm_116 168 = .ok (.getfield 7, 3) := by decide +kernel
theorem dm_116_171 : decode cm_116 171 = .ok (.aload_n 0, 1) := by decide +kernel
theorem dm_116_172 : decode cm_116 172 = .ok (.getfield 16, 3) := by decide +kernel
theorem dm_116_175 : decode cm_116 175 = .ok (.iload 7, 2) := by decide +kernel
theorem dm_116_177 : decode cm_116 177 = .ok (.iaload, 1) := by decide +kernel
theorem dm_116_178 : decode cm_116 178 = .ok (.iload 5, 2) := by decide +kernel
theorem dm_116_180 : decode cm_116 180 = .ok (.iadd, 1) := by decide +kernel
theorem dm_116_181 : decode cm_116 181 = .ok (.aload_n 0, 1) := by decide +kernel
theorem dm_116_182 : decode cm_116 182 = .ok (.getfield 16, 3) := by decide +kernel
theorem dm_116_185 : decode cm_116 185 = .ok (.iload 6, 2) := by decide +kernel
theorem dm_116_187 : decode cm_116 187 = .ok (.iaload, 1) := by decide +kernel
theorem dm_116_188 : decode cm_116 188 = .ok (.iastore, 1) := by decide +kernel
theorem dm_116_189 : decode cm_116 189 = .ok (.goto 104, 3) := by decide +kernel
theorem dm_116_192 : decode cm_116 192 = .ok (.iload 4, 2) := by decide +kernel
theorem dm_116_194 : decode cm_116 194 = .ok (.bipush 13, 2) := by decide +kernel
theorem dm_116_196 : decode cm_116 196 = .ok (.if_icmp .ne 19, 3) := by decide +kernel
theorem dm_116_199 : decode cm_116 199 = .ok (.aload_n 0, 1) := by decide +kernel
theorem dm_116_200 : decode cm_116 200 = .ok (.getfield 19, 3) := by decide +kernel
theorem dm_116_203 : decode cm_116 203 = .ok (.iload_n 1, 1) := by decide +kernel
theorem dm_116_204 : decode cm_116 204 = .ok (.aload_n 0, 1) := by decide +kernel
theorem dm_116_205 : decode cm_116 205 = .ok (.getfield 16, 3) := by decide +kernel
theorem dm_116_208 : decode cm_116 208 = .ok (.iload 6, 2) := by decide +kernel
theorem dm_116_210 : decode cm_116 210 = .ok (.iaload, 1) := by decide +kernel
theorem dm_116_211 : decode cm_116 211 = .ok (.iastore, 1) := by decide +kernel
theorem dm_116_212 : decode cm_116 212 = .ok (.goto 81, 3) := by decide +kernel
theorem dm_116_215 : decode cm_116 215 = .ok (.iload 4, 2) := by decide +kernel
theorem dm_116_217 : decode cm_116 217 = .ok (.bipush 9, 2) := by decide +kernel
theorem dm_116_219 : decode cm_116 219 = .ok (.if_icmp .le 46, 3) := by decide +kernel
theorem dm_116_222 : decode cm_116 222 = .ok (.aload_n 0, 1) := by decide +kernel
theorem dm_116_223 : decode cm_116 223 = .ok (.getfield 19, 3) := by decide +kernel
theorem dm_116_226 : decode cm_116 226 = .ok (.iload_n 1, 1) := by decide +kernel
theorem dm_116_227 : decode cm_116 227 = .ok (.iload 4, 2) := by decide +kernel
theorem dm_116_229 : decode cm_116 229 = .ok (.aload_n 0, 1) := by decide +kernel
theorem dm_116_230 : decode cm_116 230 = .ok (.getfield 16, 3) := by decide +kernel
theorem dm_116_233 : decode cm_116 233 = .ok (.iload 6, 2) := by decide +kernel
theorem dm_116_235 : decode cm_116 235 = .ok (.iaload, 1) := by decide +kernel
theorem dm_116_236 : decode cm_116 236 = .ok (.aload_n 0, 1) := by decide +kernel
theorem dm_116_237 : decode cm_116 237 = .ok (.getfield 16, 3) := by decide +kernel
theorem dm_116_240 : decode cm_116 240 = .ok (.iload 7, 2) := by decide +kernel
theorem dm_116_242 : decode cm_116 242 = .ok (.iaload, 1) := by decide +kernel
theorem dm_116_243 : decode cm_116 243 = .ok (.invokestatic 157, 3) := by decide +kernel
theorem dm_116_246 : decode cm_116 246 = .ok (.ifCond .eq 12, 3) := by decide +kernel
theorem dm_116_249 : decode cm_116 249 = .ok (.iload_n 2, 1) := by decide +kernel
theorem dm_116_250 : decode cm_116 250 = .ok (.iconst 1, 1) := by decide +kernel
theorem dm_116_251 : decode cm_116 251 = .ok (.iadd, 1) := by decide +kernel
theorem dm_116_252 : decode cm_116 252 = .ok (.iload 5, 2) := by decide +kernel
theorem dm_116_254 : decode cm_116 254 = .ok (.iadd, 1) := by decide +kernel
theorem dm_116_255 : decode cm_116 255 = .ok (.goto 6, 3) := by decide +kernel
theorem dm_116_258 : decode cm_116 258 = .ok (.iload_n 2, 1) := by decide +kernel
theorem dm_116_259 : decode cm_116 259 = .ok (.iconst 1, 1) := by decide +kernel
theorem dm_116_260 : decode cm_116 260 = .ok (.iadd, 1) := by decide +kernel
theorem dm_116_261 : decode cm_116 261 = .ok (.iastore, 1) := by decide +kernel
theorem dm_116_262 : decode cm_116 262 = .ok (.goto 31, 3) := by decide +kernel
theorem dm_116_265 : decode cm_116 265 = .ok (.aload_n 0, 1) := by decide +kernel
theorem dm_116_266 : decode cm_116 266 = .ok (.getfield 16, 3) := by decide +kernel
theorem dm_116_269 : decode cm_116 269 = .ok (.iload 6, 2) := by decide +kernel
theorem dm_116_271 : decode cm_116 271 = .ok (.iload 4, 2) := by decide +kernel
theorem dm_116_273 : decode cm_116 273 = .ok (.aload_n 0, 1) := by decide +kernel
theorem dm_116_274 : decode cm_116 274 = .ok (.getfield 16, 3) := by decide +kernel
theorem dm_116_277 : decode cm_116 277 = .ok (.iload 6, 2) := by decide +kernel
theorem dm_116_279 : decode cm_116 279 = .ok (.iaload, 1) := by decide +kernel
theorem dm_116_280 : decode cm_116 280 = .ok (.aload_n 0, 1) := by decide +kernel
theorem dm_116_281 : decode cm_116 281 = .ok (.getfield 16, 3) := by decide +kernel
theorem dm_116_284 : decode cm_116 284 = .ok (.iload 7, 2) := by decide +kernel
theorem dm_116_286 : decode cm_116 286 = .ok (.iaload, 1) := by decide +kernel
theorem dm_116_287 : decode cm_116 287 = .ok (.iload 5, 2) := by decide +kernel
theorem dm_116_289 : decode cm_116 289 = .ok (.invokestatic 160, 3) := by decide +kernel
theorem dm_116_292 : decode cm_116 292 = .ok (.iastore, 1) := by decide +kernel
theorem dm_116_293 : decode cm_116 293 = .ok (.return_, 1) := by decide +kernel
theorem dm_117_0 : decode cm_117 0 = .ok (.iload_n 0, 1) := by decide +kernel
theorem dm_117_1 : decode cm_117 1 = .ok (.bipush 12, 2) := by decide +kernel
theorem dm_117_3 : decode cm_117 3 = .ok (.if_icmp .eq 22, 3) := by decide +kernel
theorem dm_117_6 : decode cm_117 6 = .ok (.iload_n 0, 1) := by decide +kernel
theorem dm_117_7 : decode cm_117 7 = .ok (.bipush 10, 2) := by decide +kernel
theorem dm_117_9 : decode cm_117 9 = .ok (.if_icmp .ne 11, 3) := by decide +kernel
theorem dm_117_12 : decode cm_117 12 = .ok (.iload_n 1, 1) := by decide +kernel
theorem dm_117_13 : decode cm_117 13 = .ok (.iload_n 2, 1) := by decide +kernel
theorem dm_117_14 : decode cm_117 14 = .ok (.if_icmp .ne 15, 3) := by decide +kernel
theorem dm_117_17 : decode cm_117 17 = .ok (.goto 8, 3) := by decide +kernel
theorem dm_117_20 : decode cm_117 20 = .ok (.iload_n 1, 1) := by decide +kernel
theorem dm_117_21 : decode cm_117 21 = .ok (.iload_n 2, 1) := by decide +kernel
theorem dm_117_22 : decode cm_117 22 = .ok (.if_icmp .ge 7, 3) := by decide +kernel
theorem dm_117_25 : decode cm_117 25 = .ok (.iconst 1, 1) := by decide +kernel
theorem dm_117_26 : decode cm_117 26 = .ok (.goto 4, 3) := by decide +kernel
theorem dm_117_29 : decode cm_117 29 = .ok (.iconst 0, 1) := by decide +kernel
theorem dm_117_30 : decode cm_117 30 = .ok (.ireturn, 1) := by decide +kernel
theorem dm_118_0 : decode cm_118 0 = .ok (.iload_n 0, 1) := by decide +kernel
theorem dm_118_1 : decode cm_118 1 = .ok (.tableswitch 61 1 6 #[39, 41, 45, 49, 53, 57], 39) := by decide +kernel
theorem dm_118_40 : decode cm_118 40 = .ok (.iload_n 3, 1) := by decide +kernel
theorem dm_118_41 : decode cm_118 41 = .ok (.ireturn, 1) := by decide +kernel
theorem dm_118_42 : decode cm_118 42 = .ok (.iload_n 2, 1) := by decide +kernel
theorem dm_118_43 : decode cm_118 43 = .ok (.iload_n 3, 1) := by decide +kernel
theorem dm_118_44 : decode cm_118 44 = .ok (.iadd, 1) := by decide +kernel
theorem dm_118_45 : decode cm_118 45 = .ok (.ireturn, 1) := by decide +kernel
theorem dm_118_46 : decode cm_118 46 = .ok (.iload_n 1, 1) := by decide +kernel
theorem dm_118_47 : decode cm_118 47 = .ok (.iload_n 2, 1) := by decide +kernel
theorem dm_118_48 : decode cm_118 48 = .ok (.iadd, 1) := by decide +kernel
theorem dm_118_49 : decode cm_118 49 = .ok (.ireturn, 1) := by decide +kernel
theorem dm_118_50 : decode cm_118 50 = .ok (.iload_n 1, 1) := by decide +kernel
theorem dm_118_51 : decode cm_118 51 = .ok (.iload_n 2, 1) := by decide +kernel
theorem dm_118_52 : decode cm_118 52 = .ok (.isub, 1) := by decide +kernel
theorem dm_118_53 : decode cm_118 53 = .ok (.ireturn, 1) := by decide +kernel
theorem dm_118_54 : decode cm_118 54 = .ok (.iload_n 1, 1) := by decide +kernel
theorem dm_118_55 : decode cm_118 55 = .ok (.iload_n 2, 1) := by decide +kernel
theorem dm_118_56 : decode cm_118 56 = .ok (.ixor, 1) := by decide +kernel
theorem dm_118_57 : decode cm_118 57 = .ok (.ireturn, 1) := by decide +kernel
theorem dm_118_58 : decode cm_118 58 = .ok (.iload_n 2, 1) := by decide +kernel
theorem dm_118_59 : decode cm_118 59 = .ok (.iload_n 3, 1) := by decide +kernel
theorem dm_118_60 : decode cm_118 60 = .ok (.iand, 1) := by decide +kernel
theorem dm_118_61 : decode cm_118 61 = .ok (.ireturn, 1) := by decide +kernel
theorem dm_118_62 : decode cm_118 62 = .ok (.iload_n 2, 1) := by decide +kernel
theorem dm_118_63 : decode cm_118 63 = .ok (.iload_n 3, 1) := by decide +kernel
theorem dm_118_64 : decode cm_118 64 = .ok (.ior, 1) := by decide +kernel
theorem dm_118_65 : decode cm_118 65 = .ok (.ireturn, 1) := by decide +kernel
theorem dm_119_0 : decode cm_119 0 = .ok (.aload_n 0, 1) := by decide +kernel
theorem dm_119_1 : decode cm_119 1 = .ok (.aload_n 0, 1) := by decide +kernel
theorem dm_119_2 : decode cm_119 2 = .ok (.getfield 138, 3) := by decide +kernel
theorem dm_119_5 : decode cm_119 5 = .ok (.iconst 2, 1) := by decide +kernel
theorem dm_119_6 : decode cm_119 6 = .ok (.if_icmp .ne 7, 3) := by decide +kernel
theorem dm_119_9 : decode cm_119 9 = .ok (.iconst 0, 1) := by decide +kernel
theorem dm_119_10 : decode cm_119 10 = .ok (.goto 9, 3) := by decide +kernel
theorem dm_119_13 : decode cm_119 13 = .ok (.aload_n 0, 1) := by decide +kernel
theorem dm_119_14 : decode cm_119 14 = .ok (.getfield 138, 3) := by decide +kernel
theorem dm_119_17 : decode cm_119 17 = .ok (.iconst 1, 1) := by decide +kernel
theorem dm_119_18 : decode cm_119 18 = .ok (.iadd, 1) := by decide +kernel
theorem dm_119_19 : decode cm_119 19 = .ok (.putfield 138, 3) := by decide +kernel
theorem dm_119_22 : decode cm_119 22 = .ok (.aload_n 0, 1) := by decide +kernel
theorem dm_119_23 : decode cm_119 23 = .ok (.iconst 0, 1) := by decide +kernel
theorem dm_119_24 : decode cm_119 24 = .ok (.putfield 141, 3) := by decide +kernel
theorem dm_119_27 : decode cm_119 27 = .ok (.return_, 1) := by decide +kernel
theorem dm_120_0 : decode cm_120 0 = .ok (.iload_n 1, 1) := by decide +kernel
theorem dm_120_1 : decode cm_120 1 = .ok (.iconst 0, 1) := by decide +kernel
theorem dm_120_2 : decode cm_120 2 = .ok (.sipush 500, 3) := by decide +kernel
theorem dm_120_5 : decode cm_120 5 = .ok (.invokestatic 83, 3) := by decide +kernel
theorem dm_120_8 : decode cm_120 8 = .ok (.ifCond .ne 5, 3) := by decide +kernel
theorem dm_120_11 : decode cm_120 11 = .ok (.iconst (-1), 1) := by decide +kernel
theorem dm_120_12 : decode cm_120 12 = .ok (.ireturn, 1) := by decide +kernel
theorem dm_120_13 : decode cm_120 13 = .ok (.iconst 0, 1) := by decide +kernel
theorem dm_120_14 : decode cm_120 14 = .ok (.istore_n 2, 1) := by decide +kernel
theorem dm_120_15 : decode cm_120 15 = .ok (.iload_n 2, 1) := by decide +kernel
theorem dm_120_16 : decode cm_120 16 = .ok (.iload_n 1, 1) := by decide +kernel
theorem dm_120_17 : decode cm_120 17 = .ok (.if_icmp .ge 112, 3) := by decide +kernel
theorem dm_120_20 : decode cm_120 20 = .ok (.aload_n 0, 1) := by decide +kernel
theorem dm_120_21 : decode cm_120 21 = .ok (.getfield 13, 3) := by decide +kernel
theorem dm_120_24 : decode cm_120 24 = .ok (.iconst 0, 1) := by decide +kernel
theorem dm_120_25 : decode cm_120 25 = .ok (.iaload, 1) := by decide +kernel
theorem dm_120_26 : decode cm_120 26 = .ok (.iconst 1, 1) := by decide +kernel
theorem dm_120_27 : decode cm_120 27 = .ok (.if_icmp .eq 23, 3) := by decide +kernel
theorem dm_120_30 : decode cm_120 30 = .ok (.aload_n 0, 1) := by decide +kernel
theorem dm_120_31 : decode cm_120 31 = .ok (.getfield 13, 3) := by decide +kernel
theorem dm_120_34 : decode cm_120 34 = .ok (.iconst 1, 1) := by decide +kernel
theorem dm_120_35 : decode cm_120 35 = .ok (.iaload, 1) := by decide +kernel
theorem dm_120_36 : decode cm_120 36 = .ok (.iconst 1, 1) := by decide +kernel
theorem dm_120_37 : decode cm_120 37 = .ok (.if_icmp .eq 13, 3) := by decide +kernel
theorem dm_120_40 : decode cm_120 40 = .ok (.aload_n 0, 1) := by decide +kernel
theorem dm_120_41 : decode cm_120 41 = .ok (.getfield 13, 3) := by decide +kernel
theorem dm_120_44 : decode cm_120 44 = .ok (.iconst 2, 1) := by decide +kernel
theorem dm_120_45 : decode cm_120 45 = .ok (.iaload, 1) := by decide +kernel
theorem dm_120_46 : decode cm_120 46 = .ok (.iconst 1, 1) := by decide +kernel
theorem dm_120_47 : decode cm_120 47 = .ok (.if_icmp .ne 82, 3) := by decide +kernel
theorem dm_120_50 : decode cm_120 50 = .ok (.iconst 0, 1) := by decide +kernel
theorem dm_120_51 : decode cm_120 51 = .ok (.istore_n 3, 1) := by decide +kernel
theorem dm_120_52 : decode cm_120 52 = .ok (.iload_n 3, 1) := by decide +kernel
theorem dm_120_53 : decode cm_120 53 = .ok (.iconst 2, 1) := by decide +kernel
theorem dm_120_54 : decode cm_120 54 = .ok (.if_icmp .ge 26, 3) := by decide +kernel
theorem dm_120_57 : decode cm_120 57 = .ok (.aload_n 0, 1) := by decide +kernel
theorem dm_120_58 : decode cm_120 58 = .ok (.getfield 13, 3) := by decide +kernel
theorem dm_120_61 : decode cm_120 61 = .ok (.aload_n 0, 1) := by decide +kernel
theorem dm_120_62 : decode cm_120 62 = .ok (.getfield 138, 3) := by decide +kernel
theorem dm_120_65 : decode cm_120 65 = .ok (.iaload, 1) := by decide +kernel
theorem dm_120_66 : decode cm_120 66 = .ok (.iconst 1, 1) := by decide +kernel
theorem dm_120_67 : decode cm_120 67 = .ok (.if_icmp .eq 13, 3) := by decide +kernel
theorem dm_120_70 : decode cm_120 70 = .ok (.aload_n 0, 1) := by decide +kernel
theorem dm_120_71 : decode cm_120 71 = .ok (.invokevirtual 163, 3) := by decide +kernel
theorem dm_120_74 : decode cm_120 74 = .ok (.iinc 3 1, 3) := by decide +kernel
theorem dm_120_77 : decode cm_120 77 = .ok (.goto (-25), 3) := by decide +kernel
theorem dm_120_80 : decode cm_120 80 = .ok (.aload_n 0, 1) := by decide +kernel
theorem dm_120_81 : decode cm_120 81 = .ok (.aload_n 0, 1) := by decide +kernel
theorem dm_120_82 : decode cm_120 82 = .ok (.getfield 138, 3) := by decide +kernel
theorem dm_120_85 : decode cm_120 85 = .ok (.invokevirtual 166, 3) := by decide +kernel
theorem dm_120_88 : decode cm_120 88 = .ok (.iinc 2 1, 3) := by decide +kernel
theorem dm_120_91 : decode cm_120 91 = .ok (.aload_n 0, 1) := by decide +kernel
theorem dm_120_92 : decode cm_120 92 = .ok (.dup, 1) := by decide +kernel
theorem dm_120_93 : decode cm_120 93 = .ok (.getfield 141, 3) := by decide +kernel
theorem dm_120_96 : decode cm_120 96 = .ok (.iconst 1, 1) := by decide +kernel
theorem dm_120_97 : decode cm_120 97 = .ok (.iadd, 1) := by decide +kernel
theorem dm_120_98 : decode cm_120 98 = .ok (.putfield 141, 3) := by decide +kernel
theorem dm_120_101 : decode cm_120 101 = .ok (.aload_n 0, 1) := by decide +kernel
theorem dm_120_102 : decode cm_120 102 = .ok (.getfield 141, 3) := by decide +kernel
theorem dm_120_105 : decode cm_120 105 = .ok (.iconst 3, 1) := by decide +kernel
theorem dm_120_106 : decode cm_120 106 = .ok (.if_icmp .eq 16, 3) := by decide +kernel
theorem dm_120_109 : decode cm_120 109 = .ok (.aload_n 0, 1) := by decide +kernel
theorem dm_120_110 : decode cm_120 110 = .ok (.getfield 13, 3) := by decide +kernel
theorem dm_120_113 : decode cm_120 113 = .ok (.aload_n 0, 1) := by decide +kernel
theorem dm_120_114 : decode cm_120 114 = .ok (.getfield 138, 3) := by decide +kernel
theorem dm_120_117 : decode cm_120 117 = .ok (.iaload, 1) := by decide +kernel
theorem dm_120_118 : decode cm_120 118 = .ok (.iconst 1, 1) := by decide +kernel
theorem dm_120_119 : decode cm_120 119 = .ok (.if_icmp .eq (-104), 3) := by decide +kernel
theorem dm_120_122 : decode cm_120 122 = .ok (.aload_n 0, 1) := by decide +kernel
theorem dm_120_123 : decode cm_120 123 = .ok (.invokevirtual 163, 3) := by decide +kernel
theorem dm_120_126 : decode cm_120 126 = .ok (.goto (-111), 3) := by decide +kernel
theorem dm_120_129 : decode cm_120 129 = .ok (.iload_n 2, 1) := by decide +kernel
theorem dm_120_130 : decode cm_120 130 = .ok (.ireturn, 1) := by decide +kernel
theorem dm_121_0 : decode cm_121 0 = .ok (.iconst 0, 1) := by decide +kernel
theorem dm_121_1 : decode cm_121 1 = .ok (.istore_n 3, 1) := by decide +kernel
theorem dm_121_2 : decode cm_121 2 = .ok (.iload_n 1, 1) := by decide +kernel
theorem dm_121_3 : decode cm_121 3 = .ok (.istore 4, 2) := by decide +kernel
theorem dm_121_5 : decode cm_121 5 = .ok (.iload 4, 2) := by decide +kernel
theorem dm_121_7 : decode cm_121 7 = .ok (.iload_n 2, 1) := by decide +kernel
theorem dm_121_8 : decode cm_121 8 = .ok (.if_icmp .ge 29, 3) := by decide +kernel
theorem dm_121_11 : decode cm_121 11 = .ok (.iload_n 3, 1) := by decide +kernel
theorem dm_121_12 : decode cm_121 12 = .ok (.ifCond .ne 13, 3) := by decide +kernel
theorem dm_121_15 : decode cm_121 15 = .ok (.aload_n 0, 1) := by decide +kernel
theorem dm_121_16 : decode cm_121 16 = .ok (.getfield 77, 3) := by decide +kernel
theorem dm_121_19 : decode cm_121 19 = .ok (.iload 4, 2) := by decide +kernel
theorem dm_121_21 : decode cm_121 21 = .ok (.baload, 1) := by decide +kernel
theorem dm_121_22 : decode cm_121 22 = .ok (.ifCond .eq 7, 3) := by decide +kernel
theorem dm_121_25 : decode cm_121 25 = .ok (.iconst 1, 1) := by decide +kernel
theorem dm_121_26 : decode cm_121 26 = .ok (.goto 4, 3) := by decide +kernel
theorem dm_121_29 : decode cm_121 29 = .ok (.iconst 0, 1) := by decide +kernel
theorem dm_121_30 : decode cm_121 30 = .ok (.istore_n 3, 1) := by decide +kernel
theorem dm_121_31 : decode cm_121 31 = .ok (.iinc 4 1, 3) := by decide +kernel
theorem dm_121_34 : decode cm_121 34 = .ok (.goto (-29), 3) := by decide +kernel
theorem dm_121_37 : decode cm_121 37 = .ok (.iload_n 3, 1) := by decide +kernel
theorem dm_121_38 : decode cm_121 38 = .ok (.ireturn, 1) := by decide +kernel
theorem dm_122_0 : decode cm_122 0 = .ok (.aload_n 0, 1) := by decide +kernel
theorem dm_122_1 : decode cm_122 1 = .ok (.getfield 74, 3) := by decide +kernel
theorem dm_122_4 : decode cm_122 4 = .ok (.iload_n 1, 1) := by decide +kernel
theorem dm_122_5 : decode cm_122 5 = .ok (.iload_n 2, 1) := by decide +kernel
theorem dm_122_6 : decode cm_122 6 = .ok (.iastore, 1) := by decide +kernel
theorem dm_122_7 : decode cm_122 7 = .ok (.aload_n 0, 1) := by decide +kernel
theorem dm_122_8 : decode cm_122 8 = .ok (.getfield 77, 3) := by decide +kernel
theorem dm_122_11 : decode cm_122 11 = .ok (.iload_n 1, 1) := by decide +kernel
theorem dm_122_12 : decode cm_122 12 = .ok (.iload_n 3, 1) := by decide +kernel
theorem dm_122_13 : decode cm_122 13 = .ok (.bastore, 1) := by decide +kernel
theorem dm_122_14 : decode cm_122 14 = .ok (.return_, 1) := by decide +kernel
theorem dm_123_0 : decode cm_123 0 = .ok (.iload_n 2, 1) := by decide +kernel
theorem dm_123_1 : decode cm_123 1 = .ok (.iconst 0, 1) := by decide +kernel
theorem dm_123_2 : decode cm_123 2 = .ok (.sipush 300, 3) := by decide +kernel
theorem dm_123_5 : decode cm_123 5 = .ok (.invokestatic 83, 3) := by decide +kernel
theorem dm_123_8 : decode cm_123 8 = .ok (.ifCond .eq 19, 3) := by decide +kernel
theorem dm_123_11 : decode cm_123 11 = .ok (.iload_n 1, 1) := by decide +kernel
theorem dm_123_12 : decode cm_123 12 = .ok (.iconst 0, 1) := by decide +kernel
theorem dm_123_13 : decode cm_123 13 = .ok (.iconst 2, 1) := by decide +kernel
theorem dm_123_14 : decode cm_123 14 = .ok (.invokestatic 83, 3) := by decide +kernel
theorem dm_123_17 : decode cm_123 17 = .ok (.ifCond .eq 10, 3) := by decide +kernel
theorem dm_123_20 : decode cm_123 20 = .ok (.aload_n 0, 1) := by decide +kernel
theorem dm_123_21 : decode cm_123 21 = .ok (.invokevirtual 104, 3) := by decide +kernel
theorem dm_123_24 : decode cm_123 24 = .ok (.ifCond .ne 5, 3) := by decide +kernel
theorem dm_123_27 : decode cm_123 27 = .ok (.iconst (-1), 1) := by decide +kernel
theorem dm_123_28 : decode cm_123 28 = .ok (.ireturn, 1) := by decide +kernel
theorem dm_123_29 : decode cm_123 29 = .ok (.iconst 0, 1) := by decide +kernel
theorem dm_123_30 : decode cm_123 30 = .ok (.istore_n 3, 1) := by decide +kernel
theorem dm_123_31 : decode cm_123 31 = .ok (.iload_n 3, 1) := by decide +kernel
theorem dm_123_32 : decode cm_123 32 = .ok (.bipush 24, 2) := by decide +kernel
theorem dm_123_34 : decode cm_123 34 = .ok (.if_icmp .ge 16, 3) := by decide +kernel
theorem dm_123_37 : decode cm_123 37 = .ok (.aload_n 0, 1) := by decide +kernel
theorem dm_123_38 : decode cm_123 38 = .ok (.iload_n 3, 1) := by decide +kernel
theorem dm_123_39 : decode cm_123 39 = .ok (.iconst 0, 1) := by decide +kernel
theorem dm_123_40 : decode cm_123 40 = .ok (.iconst 0, 1) := by decide +kernel
theorem dm_123_41 : decode cm_123 41 = .ok (.invokevirtual 169, 3) := by decide +kernel
theorem dm_123_44 : decode cm_123 44 = .ok (.iinc 3 1, 3) := by decide +kernel
theorem dm_123_47 : decode cm_123 47 = .ok (.goto (-16), 3) := by decide +kernel
theorem dm_123_50 : decode cm_123 50 = .ok (.aload_n 0, 1) := by decide +kernel
theorem dm_123_51 : decode cm_123 51 = .ok (.iconst 0, 1) := by decide +kernel
theorem dm_123_52 : decode cm_123 52 = .ok (.putfield 173, 3) := by decide +kernel
theorem dm_123_55 : decode cm_123 55 = .ok (.aload_n 0, 1) := by decide +kernel
theorem dm_123_56 : decode cm_123 56 = .ok (.iconst 0, 1) := by decide +kernel
theorem dm_123_57 : decode cm_123 57 = .ok (.putfield 176, 3) := by decide +kernel
theorem dm_123_60 : decode cm_123 60 = .ok (.aload_n 0, 1) := by decide +kernel
theorem dm_123_61 : decode cm_123 61 = .ok (.iconst 0, 1) := by decide +kernel
theorem dm_123_62 : decode cm_123 62 = .ok (.putfield 179, 3) := by decide +kernel
theorem dm_123_65 : decode cm_123 65 = .ok (.aload_n 0, 1) := by decide +kernel
theorem dm_123_66 : decode cm_123 66 = .ok (.iconst 0, 1) := by decide +kernel
theorem dm_123_67 : decode cm_123 67 = .ok (.putfield 182, 3) := by decide +kernel
theorem dm_123_70 : decode cm_123 70 = .ok (.iconst 0, 1) := by decide +kernel
theorem dm_123_71 : decode cm_123 71 = .ok (.istore_n 3, 1) := by decide +kernel
theorem dm_123_72 : decode cm_123 72 = .ok (.iconst 0, 1) := by decide +kernel
theorem dm_123_73 : decode cm_123 73 = .ok (.istore 4, 2) := by decide +kernel
theorem dm_123_75 : decode cm_123 75 = .ok (.iload 4, 2) := by decide +kernel
theorem dm_123_77 : decode cm_123 77 = .ok (.iload_n 2, 1) := by decide +kernel
theorem dm_123_78 : decode cm_123 78 = .ok (.if_icmp .ge 19, 3) := by decide +kernel
theorem dm_123_81 : decode cm_123 81 = .ok (.iload_n 3, 1) := by decide +kernel
theorem dm_123_82 : decode cm_123 82 = .ok (.ifCond .ne 15, 3) := by decide +kernel
theorem dm_123_85 : decode cm_123 85 = .ok (.aload_n 0, 1) := by decide +kernel
theorem dm_123_86 : decode cm_123 86 = .ok (.iload_n 1, 1) := by decide +kernel
theorem dm_123_87 : decode cm_123 87 = .ok (.invokevirtual 185, 3) := by decide +kernel
theorem dm_123_90 : decode cm_123 90 = .ok (.istore_n 3, 1) := by decide +kernel
theorem dm_123_91 : decode cm_123 91 = .ok (.iinc 4 1, 3) := by decide +kernel
theorem dm_123_94 : decode cm_123 94 = .ok (.goto (-19), 3) := by decide +kernel
theorem dm_123_97 : decode cm_123 97 = .ok (.iload_n 3, 1) := by decide +kernel
theorem dm_123_98 : decode cm_123 98 = .ok (.ireturn, 1) := by decide +kernel
theorem dm_124_0 : decode cm_124 0 = .ok (.aload_n 0, 1) := by decide +kernel
theorem dm_124_1 : decode cm_124 1 = .ok (.getfield 173, 3) := by decide +kernel
theorem dm_124_4 : decode cm_124 4 = .ok (.aload_n 0, 1) := by decide +kernel
theorem dm_124_5 : decode cm_124 5 = .ok (.getfield 89, 3) := by decide +kernel
theorem dm_124_8 : decode cm_124 8 = .ok (.if_icmp .ge 15, 3) := by decide +kernel
theorem dm_124_11 : decode cm_124 11 = .ok (.aload_n 0, 1) := by decide +kernel
theorem dm_124_12 : decode cm_124 12 = .ok (.getfield 52, 3) := by decide +kernel
theorem dm_124_15 : decode cm_124 15 = .ok (.aload_n 0, 1) := by decide +kernel
theorem dm_124_16 : decode cm_124 16 = .ok (.getfield 173, 3) := by decide +kernel
theorem dm_124_19 : decode cm_124 19 = .ok (.iaload, 1) := by decide +kernel
theorem dm_124_20 : decode cm_124 20 = .ok (.ifCond .ne 5, 3) := by decide +kernel
theorem dm_124_23 : decode cm_124 23 = .ok (.iconst 2, 1) := by decide +kernel
theorem dm_124_24 : decode cm_124 24 = .ok (.ireturn, 1) := by decide +kernel
theorem dm_124_25 : decode cm_124 25 = .ok (.aload_n 0, 1) := by decide +kernel
theorem dm_124_26 : decode cm_124 26 = .ok (.getfield 52, 3) := by decide +kernel
theorem dm_124_29 : decode cm_124 29 = .ok (.aload_n 0, 1) := by decide +kernel
theorem dm_124_30 : decode cm_124 30 = .ok (.getfield 173, 3) := by decide +kernel
theorem dm_124_33 : decode cm_124 33 = .ok (.iaload, 1) := by decide +kernel
theorem dm_124_34 : decode cm_124 34 = .ok (.istore_n 2, 1) := by decide +kernel
theorem dm_124_35 : decode cm_124 35 = .ok (.aload_n 0, 1) := by decide +kernel
theorem dm_124_36 : decode cm_124 36 = .ok (.getfield 55, 3) := by decide +kernel
theorem dm_124_39 : decode cm_124 39 = .ok (.aload_n 0, 1) := by decide +kernel
theorem dm_124_40 : decode cm_124 40 = .ok (.getfield 173, 3) := by decide +kernel
theorem dm_124_43 : decode cm_124 43 = .ok (.iaload, 1) := by decide +kernel
theorem dm_124_44 : decode cm_124 44 = .ok (.istore_n 3, 1) := by decide +kernel
theorem dm_124_45 : decode cm_124 45 = .ok (.aload_n 0, 1) := by decide +kernel
theorem dm_124_46 : decode cm_124 46 = .ok (.getfield 58, 3) := by decide +kernel
theorem dm_124_49 : decode cm_124 49 = .ok (.aload_n 0, 1) := by decide +kernel
theorem dm_124_50 : decode cm_124 50 = .ok (.getfield 173, 3) := by decide +kernel
theorem dm_124_53 : decode cm_124 53 = .ok (.iaload, 1) := by decide +kernel
theorem dm_124_54 : decode cm_124 54 = .ok (.istore 4, 2) := by decide +kernel
theorem dm_124_56 : decode cm_124 56 = .ok (.aload_n 0, 1) := by decide +kernel
theorem dm_124_57 : decode cm_124 57 = .ok (.getfield 61, 3) := by decide +kernel
theorem dm_124_60 : decode cm_124 60 = .ok (.aload_n 0, 1) := by decide +kernel
theorem dm_124_61 : decode cm_124 61 = .ok (.getfield 173, 3) := by decide +kernel
theorem dm_124_64 : decode cm_124 64 = .ok (.iaload, 1) := by decide +kernel
theorem dm_124_65 : decode cm_124 65 = .ok (.istore 5, 2) := by decide +kernel
theorem dm_124_67 : decode cm_124 67 = .ok (.iload_n 2, 1) := by decide +kernel
theorem dm_124_68 : decode cm_124 68 = .ok (.iconst 2, 1) := by decide +kernel
theorem dm_124_69 : decode cm_124 69 = .ok (.if_icmp .ne 26, 3) := by decide +kernel
theorem dm_124_72 : decode cm_124 72 = .ok (.aload_n 0, 1) := by decide +kernel
theorem dm_124_73 : decode cm_124 73 = .ok (.getfield 77, 3) := by decide +kernel
theorem dm_124_76 : decode cm_124 76 = .ok (.iload 4, 2) := by decide +kernel
theorem dm_124_78 : decode cm_124 78 = .ok (.baload, 1) := by decide +kernel
theorem dm_124_79 : decode cm_124 79 = .ok (.ifCond .eq 12, 3) := by decide +kernel
theorem dm_124_82 : decode cm_124 82 = .ok (.iload 5, 2) := by decide +kernel
theorem dm_124_84 : decode cm_124 84 = .ok (.ifCond .eq 7, 3) := by decide +kernel
theorem dm_124_87 : decode cm_124 87 = .ok (.iconst 1, 1) := by decide +kernel
theorem dm_124_88 : decode cm_124 88 = .ok (.goto 81, 3) := by decide +kernel
theorem dm_124_91 : decode cm_124 91 = .ok (.iconst 0, 1) := by decide +kernel
theorem dm_124_92 : decode cm_124 92 = .ok (.goto 77, 3) := by decide +kernel
theorem dm_124_95 : decode cm_124 95 = .ok (.iload_n 2, 1) := by decide +kernel
theorem dm_124_96 : decode cm_124 96 = .ok (.iconst 3, 1) := by decide +kernel
theorem dm_124_97 : decode cm_124 97 = .ok (.iconst 5, 1) := by decide +kernel
theorem dm_124_98 : decode cm_124 98 = .ok (.invokestatic 83, 3) := by decide +kernel
theorem dm_124_101 : decode cm_124 101 = .ok (.ifCond .ne 15, 3) := by decide +kernel
theorem dm_124_104 : decode cm_124 104 = .ok (.iload_n 2, 1) := by decide +kernel
theorem dm_124_105 : decode cm_124 105 = .ok (.bipush 10, 2) := by decide +kernel
theorem dm_124_107 : decode cm_124 107 = .ok (.if_icmp .eq 9, 3) := by decide +kernel
theorem dm_124_110 : decode cm_124 110 = .ok (.iload_n 2, 1) := by decide +kernel
theorem dm_124_111 : decode cm_124 111 = .ok (.bipush 11, 2) := by decide +kernel
theorem dm_124_113 : decode cm_124 113 = .ok (.if_icmp .ne 30, 3) := by decide +kernel
theorem dm_124_116 : decode cm_124 116 = .ok (.aload_n 0, 1) := by decide +kernel
theorem dm_124_117 : decode cm_124 117 = .ok (.getfield 77, 3) := by decide +kernel
theorem dm_124_120 : decode cm_124 120 = .ok (.iload_n 3, 1) := by decide +kernel
theorem dm_124_121 : decode cm_124 121 = .ok (.baload, 1) := by decide +kernel
theorem dm_124_122 : decode cm_124 122 = .ok (.ifCond .ne 13, 3) := by decide +kernel
theorem dm_124_125 : decode cm_124 125 = .ok (.aload_n 0, 1) := by decide +kernel
theorem dm_124_126 : decode cm_124 126 = .ok (.getfield 77, 3) := by decide +kernel
theorem dm_124_129 : decode cm_124 129 = .ok (.iload 4, 2) := by decide +kernel
theorem dm_124_131 : decode cm_124 131 = .ok (.baload, 1) := by decide +kernel
theorem dm_124_132 : decode cm_124 132 = .ok (.ifCond .eq 7, 3) := by decide +kernel
theorem dm_124_135 : decode cm_124 135 = .ok (.iconst 1, 1) := by decide +kernel
theorem dm_124_136 : decode cm_124 136 = .ok (.goto 33, 3) := by decide +kernel
theorem dm_124_139 : decode cm_124 139 = .ok (.iconst 0, 1) := by decide +kernel
theorem dm_124_140 : decode cm_124 140 = .ok (.goto 29, 3) := by decide +kernel
theorem dm_124_143 : decode cm_124 143 = .ok (.iload_n 2, 1) := by decide +kernel
theorem dm_124_144 : decode cm_124 144 = .ok (.bipush 6, 2) := by decide +kernel
theorem dm_124_146 : decode cm_124 146 = .ok (.bipush 9, 2) := by decide +kernel
theorem dm_124_148 : decode cm_124 148 = .ok (.invokestatic 83, 3) := by decide +kernel
theorem dm_124_151 : decode cm_124 151 = .ok (.ifCond .eq 17, 3) := by decide +kernel
theorem dm_124_154 : decode cm_124 154 = .ok (.aload_n 0, 1) := by decide +kernel
theorem dm_124_155 : decode cm_124 155 = .ok (.getfield 77, 3) := by decide +kernel
theorem dm_124_158 : decode cm_124 158 = .ok (.iload 4, 2) := by decide +kernel
theorem dm_124_160 : decode cm_124 160 = .ok (.baload, 1) := by decide +kernel
theorem dm_124_161 : decode cm_124 161 = .ok (.ifCond .eq 7, 3) := by decide +kernel
theorem dm_124_164 : decode cm_124 164 = .ok (.iconst 1, 1) := by decide +kernel
theorem dm_124_165 : decode cm_124 165 = .ok (.goto 4, 3) := by decide +kernel
theorem dm_124_168 : decode cm_124 168 = .ok (.iconst 0, 1) := by decide +kernel
theorem dm_124_169 : decode cm_124 169 = .ok (.istore 6, 2) := by decide +kernel
theorem dm_124_171 : decode cm_124 171 = .ok (.iload 6, 2) := by decide +kernel
theorem dm_124_173 : decode cm_124 173 = .ok (.ifCond .eq 5, 3) := by decide +kernel
theorem dm_124_176 : decode cm_124 176 = .ok (.iconst 3, 1) := by decide +kernel
theorem dm_124_177 : decode cm_124 177 = .ok (.ireturn, 1) := by decide +kernel
theorem dm_124_178 : decode cm_124 178 = .ok (.iload_n 2, 1) := by decide +kernel
theorem dm_124_179 : decode cm_124 179 = .ok (.bipush 13, 2) := by decide +kernel
theorem dm_124_181 : decode cm_124 181 = .ok (.if_icmp .ne 31, 3) := by decide +kernel
theorem dm_124_184 : decode cm_124 184 = .ok (.aload_n 0, 1) := by decide +kernel
theorem dm_124_185 : decode cm_124 185 = .ok (.getfield 77, 3) := by decide +kernel
theorem dm_124_188 : decode cm_124 188 = .ok (.iload_n 3, 1) := by decide +kernel
theorem dm_124_189 : decode cm_124 189 = .ok (.baload, 1) := by decide +kernel
theorem dm_124_190 : decode cm_124 190 = .ok (.ifCond .ne 5, 3) := by decide +kernel
theorem dm_124_193 : decode cm_124 193 = .ok (.iconst 4, 1) := by decide +kernel
theorem dm_124_194 : decode cm_124 194 = .ok (.ireturn, 1) := by decide +kernel
theorem dm_124_195 : decode cm_124 195 = .ok (.aload_n 0, 1) := by decide +kernel
theorem dm_124_196 : decode cm_124 196 = .ok (.aload_n 0, 1) := by decide +kernel
theorem dm_124_197 : decode cm_124 197 = .ok (.getfield 68, 3) := by decide +kernel
theorem dm_124_200 : decode cm_124 200 = .ok (.aload_n 0, 1) := by decide +kernel
theorem dm_124_201 : decode cm_124 201 = .ok (.getfield 74, 3) := by decide +kernel
theorem dm_124_204 : decode cm_124 204 = .ok (.iload_n 3, 1) := by decide +kernel
theorem dm_124_205 : decode cm_124 205 = .ok (.iaload, 1) := by decide +kernel
theorem dm_124_206 : decode cm_124 206 = .ok (.iaload, 1) := by decide +kernel
theorem dm_124_207 : decode cm_124 207 = .ok (.putfield 173, 3) := by decide +kernel
theorem dm_124_210 : decode cm_124 210 = .ok (.iconst 0, 1) := by decide +kernel
theorem dm_124_211 : decode cm_124 211 = .ok (.ireturn, 1) := by decide +kernel
theorem dm_124_212 : decode cm_124 212 = .ok (.iload_n 2, 1) := by decide +kernel
theorem dm_124_213 : decode cm_124 213 = .ok (.bipush 14, 2) := by decide +kernel
theorem dm_124_215 : decode cm_124 215 = .ok (.if_icmp .ne 11, 3) := by decide +kernel
theorem dm_124_218 : decode cm_124 218 = .ok (.aload_n 0, 1) := by decide +kernel
theorem dm_124_219 : decode cm_124 219 = .ok (.iload_n 1, 1) := by decide +kernel
theorem dm_124_220 : decode cm_124 220 = .ok (.iload 5, 2) := by decide +kernel
theorem dm_124_222 : decode cm_124 222 = .ok (.invokevirtual 188, 3) := by decide +kernel
theorem dm_124_225 : decode cm_124 225 = .ok (.ireturn, 1) := by decide +kernel
theorem dm_124_226 : decode cm_124 226 = .ok (.iload_n 2, 1) := by decide +kernel
theorem dm_124_227 : decode cm_124 227 = .ok (.bipush 8, 2) := by decide +kernel
theorem dm_124_229 : decode cm_124 229 = .ok (.if_icmp .eq 9, 3) := by decide +kernel
theorem dm_124_232 : decode cm_124 232 = .ok (.iload_n 2, 1) := by decide +kernel
theorem dm_124_233 : decode cm_124 233 = .ok (.bipush 9, 2) := by decide +kernel
theorem dm_124_235 : decode cm_124 235 = .ok (.if_icmp .ne 86, 3) := by decide +kernel
theorem dm_124_238 : decode cm_124 238 = .ok (.aload_n 0, 1) := by decide +kernel
theorem dm_124_239 : decode cm_124 239 = .ok (.getfield 74, 3) := by decide +kernel
theorem dm_124_242 : decode cm_124 242 = .ok (.iload 4, 2) := by decide +kernel
theorem dm_124_244 : decode cm_124 244 = .ok (.iaload, 1) := by decide +kernel
theorem dm_124_245 : decode cm_124 245 = .ok (.iload 5, 2) := by decide +kernel
theorem dm_124_247 : decode cm_124 247 = .ok (.iadd, 1) := by decide +kernel
theorem dm_124_248 : decode cm_124 248 = .ok (.istore 7, 2) := by decide +kernel
theorem dm_124_250 : decode cm_124 250 = .ok (.iload 7, 2) := by decide +kernel
theorem dm_124_252 : decode cm_124 252 = .ok (.iconst 0, 1) := by decide +kernel
theorem dm_124_253 : decode cm_124 253 = .ok (.bipush 15, 2) := by decide +kernel
theorem dm_124_255 : decode cm_124 255 = .ok (.invokestatic 83, 3) := by decide +kernel
theorem dm_124_258 : decode cm_124 258 = .ok (.ifCond .ne 5, 3) := by decide +kernel
theorem dm_124_261 : decode cm_124 261 = .ok (.iconst 5, 1) := by decide +kernel
theorem dm_124_262 : decode cm_124 262 = .ok (.ireturn, 1) := by decide +kernel
theorem dm_124_263 : decode cm_124 263 = .ok (.iload_n 2, 1) := by decide +kernel
theorem dm_124_264 : decode cm_124 264 = .ok (.bipush 8, 2) := by decide +kernel
theorem dm_124_266 : decode cm_124 266 = .ok (.if_icmp .ne 31, 3) := by decide +kernel
theorem dm_124_269 : decode cm_124 269 = .ok (.aload_n 0, 1) := by decide +kernel
theorem dm_124_270 : decode cm_124 270 = .ok (.iload_n 3, 1) := by decide +kernel
theorem dm_124_271 : decode cm_124 271 = .ok (.aload_n 0, 1) := by decide +kernel
theorem dm_124_272 : decode cm_124 272 = .ok (.getfield 74, 3) := by decide +kernel
theorem dm_124_275 : decode cm_124 275 = .ok (.bipush 8, 2) := by decide +kernel
theorem dm_124_277 : decode cm_124 277 = .ok (.iload 7, 2) := by decide +kernel
theorem dm_124_279 : decode cm_124 279 = .ok (.iadd, 1) := by decide +kernel
theorem dm_124_280 : decode cm_124 280 = .ok (.iaload, 1) := by decide +kernel
theorem dm_124_281 : decode cm_124 281 = .ok (.aload_n 0, 1) := by decide +kernel
theorem dm_124_282 : decode cm_124 282 = .ok (.getfield 77, 3) := by decide +kernel
theorem dm_124_285 : decode cm_124 285 = .ok (.bipush 8, 2) := by decide +kernel
theorem dm_124_287 : decode cm_124 287 = .ok (.iload 7, 2) := by decide +kernel
theorem dm_124_289 : decode cm_124 289 = .ok (.iadd, 1) := by decide +kernel
theorem dm_124_290 : decode cm_124 290 = .ok (.baload, 1) := by decide +kernel
theorem dm_124_291 : decode cm_124 291 = .ok (.invokevirtual 169, 3) := by decide +kernel
theorem dm_124_294 : decode cm_124 294 = .ok (.goto 24, 3) := by decide +kernel
theorem dm_124_297 : decode cm_124 297 = .ok (.aload_n 0, 1) := by decide +kernel
theorem dm_124_298 : decode cm_124 298 = .ok (.bipush 8, 2) := by decide +kernel
theorem dm_124_300 : decode cm_124 300 = .ok (.iload 7, 2) := by decide +kernel
theorem dm_124_302 : decode cm_124 302 = .ok (.iadd, 1) := by decide +kernel
theorem dm_124_303 : decode cm_124 303 = .ok (.aload_n 0, 1) := by decide +kernel
theorem dm_124_304 : decode cm_124 304 = .ok (.getfield 74, 3) := by decide +kernel
theorem dm_124_307 : decode cm_124 307 = .ok (.iload_n 3, 1) := by decide +kernel
theorem dm_124_308 : decode cm_124 308 = .ok (.iaload, 1) := by decide +kernel
theorem dm_124_309 : decode cm_124 309 = .ok (.aload_n 0, 1) := by decide +kernel
theorem dm_124_310 : decode cm_124 310 = .ok (.getfield 77, 3) := by decide +kernel
theorem dm_124_313 : decode cm_124 313 = .ok (.iload_n 3, 1) := by decide +kernel
theorem dm_124_314 : decode cm_124 314 = .ok (.baload, 1) := by decide +kernel
theorem dm_124_315 : decode cm_124 315 = .ok (.invokevirtual 169, 3) := by decide +kernel
theorem dm_124_318 : decode cm_124 318 = .ok (.goto 86, 3) := by decide +kernel
theorem dm_124_321 : decode cm_124 321 = .ok (.iload_n 2, 1) := by decide +kernel
theorem dm_124_322 : decode cm_124 322 = .ok (.bipush 15, 2) := by decide +kernel
theorem dm_124_324 : decode cm_124 324 = .ok (.if_icmp .ne 14, 3) := by decide +kernel
theorem dm_124_327 : decode cm_124 327 = .ok (.aload_n 0, 1) := by decide +kernel
theorem dm_124_328 : decode cm_124 328 = .ok (.iload_n 3, 1) := by decide +kernel
theorem dm_124_329 : decode cm_124 329 = .ok (.iload 5, 2) := by decide +kernel
theorem dm_124_331 : decode cm_124 331 = .ok (.iconst 1, 1) := by decide +kernel
theorem dm_124_332 : decode cm_124 332 = .ok (.invokevirtual 169, 3) := by decide +kernel
theorem dm_124_335 : decode cm_124 335 = .ok (.goto 69, 3) := by decide +kernel
theorem dm_124_338 : decode cm_124 338 = .ok (.iload_n 2, 1) := by decide +kernel
theorem dm_124_339 : decode cm_124 339 = .ok (.iconst 2, 1) := by decide +kernel
theorem dm_124_340 : decode cm_124 340 = .ok (.if_icmp .ne 29, 3) := by decide +kernel
theorem dm_124_343 : decode cm_124 343 = .ok (.aload_n 0, 1) := by decide +kernel
theorem dm_124_344 : decode cm_124 344 = .ok (.getfield 77, 3) := by decide +kernel
theorem dm_124_347 : decode cm_124 347 = .ok (.iload 4, 2) := by decide +kernel
theorem dm_124_349 : decode cm_124 349 = .ok (.baload, 1) := by decide +kernel
theorem dm_124_350 : decode cm_124 350 = .ok (.ifCond .eq 19, 3) := by decide +kernel
theorem dm_124_353 : decode cm_124 353 = .ok (.aload_n 0, 1) := by decide +kernel
theorem dm_124_354 : decode cm_124 354 = .ok (.iload_n 3, 1) := by decide +kernel
theorem dm_124_355 : decode cm_124 355 = .ok (.aload_n 0, 1) := by decide +kernel
theorem dm_124_356 : decode cm_124 356 = .ok (.getfield 74, 3) := by decide +kernel
theorem dm_124_359 : decode cm_124 359 = .ok (.iload 4, 2) := by decide +kernel
theorem dm_124_361 : decode cm_124 361 = .ok (.iaload, 1) := by decide +kernel
theorem dm_124_362 : decode cm_124 362 = .ok (.iconst 1, 1) := by decide +kernel
theorem dm_124_363 : decode cm_124 363 = .ok (.invokevirtual 169, 3) := by decide +kernel
theorem dm_124_366 : decode cm_124 366 = .ok (.goto 38, 3) := by decide +kernel
theorem dm_124_369 : decode cm_124 369 = .ok (.iload_n 2, 1) := by decide +kernel
theorem dm_124_370 : decode cm_124 370 = .ok (.bipush 8, 2) := by decide +kernel
theorem dm_124_372 : decode cm_124 372 = .ok (.if_icmp .ge 32, 3) := by decide +kernel
theorem dm_124_375 : decode cm_124 375 = .ok (.iload_n 2, 1) := by decide +kernel
theorem dm_124_376 : decode cm_124 376 = .ok (.aload_n 0, 1) := by decide +kernel
theorem dm_124_377 : decode cm_124 377 = .ok (.getfield 74, 3) := by decide +kernel
theorem dm_124_380 : decode cm_124 380 = .ok (.iload_n 3, 1) := by decide +kernel
theorem dm_124_381 : decode cm_124 381 = .ok (.iaload, 1) := by decide +kernel
theorem dm_124_382 : decode cm_124 382 = .ok (.aload_n 0, 1) := by decide +kernel
theorem dm_124_383 : decode cm_124 383 = .ok (.getfield 74, 3) := by decide +kernel
theorem dm_124_386 : decode cm_124 386 = .ok (.iload 4, 2) := by decide +kernel
theorem dm_124_388 : decode cm_124 388 = .ok (.iaload, 1) := by decide +kernel
theorem dm_124_389 : decode cm_124 389 = .ok (.iload 5, 2) := by decide +kernel
theorem dm_124_391 : decode cm_124 391 = .ok (.invokestatic 160, 3) := by decide +kernel
theorem dm_124_394 : decode cm_124 394 = .ok (.istore 7, 2) := by decide +kernel
theorem dm_124_396 : decode cm_124 396 = .ok (.aload_n 0, 1) := by decide +kernel
theorem dm_124_397 : decode cm_124 397 = .ok (.iload_n 3, 1) := by decide +kernel
theorem dm_124_398 : decode cm_124 398 = .ok (.iload 7, 2) := by decide +kernel
theorem dm_124_400 : decode cm_124 400 = .ok (.iconst 0, 1) := by decide +kernel
theorem dm_124_401 : decode cm_124 401 = .ok (.invokevirtual 169, 3) := by decide +kernel
theorem dm_124_404 : decode cm_124 404 = .ok (.aload_n 0, 1) := by decide +kernel
theorem dm_124_405 : decode cm_124 405 = .ok (.iload_n 2, 1) := by decide +kernel
theorem dm_124_406 : decode cm_124 406 = .ok (.bipush 10, 2) := by decide +kernel
theorem dm_124_408 : decode cm_124 408 = .ok (.bipush 12, 2) := by decide +kernel
theorem dm_124_410 : decode cm_124 410 = .ok (.invokestatic 83, 3) := by decide +kernel
theorem dm_124_413 : decode cm_124 413 = .ok (.ifCond .eq 33, 3) := by decide +kernel
theorem dm_124_416 : decode cm_124 416 = .ok (.iload_n 2, 1) := by decide +kernel
theorem dm_124_417 : decode cm_124 417 = .ok (.aload_n 0, 1) := by decide +kernel
theorem dm_124_418 : decode cm_124 418 = .ok (.getfield 74, 3) := by decide +kernel
theorem dm_124_421 : decode cm_124 421 = .ok (.iload_n 3, 1) := by decide +kernel
theorem dm_124_422 : decode cm_124 422 = .ok (.iaload, 1) := by decide +kernel
theorem dm_124_423 : decode cm_124 423 = .ok (.aload_n 0, 1) := by decide +kernel
theorem dm_124_424 : decode cm_124 424 = .ok (.getfield 74, 3) := by decide +kernel
theorem dm_124_427 : decode cm_124 427 = .ok (.iload 4, 2) := by decide +kernel
theorem dm_124_429 : decode cm_124 429 = .ok (.iaload, 1) := by decide +kernel
theorem dm_124_430 : decode cm_124 430 = .ok (.invokestatic 157, 3) := by decide +kernel
theorem dm_124_433 : decode cm_124 433 = .ok (.ifCond .eq 13, 3) := by decide +kernel
theorem dm_124_436 : decode cm_124 436 = .ok (.aload_n 0, 1) := by decide +kernel
theorem dm_124_437 : decode cm_124 437 = .ok (.getfield 68, 3) := by decide +kernel
theorem dm_124_440 : decode cm_124 440 = .ok (.iload 5, 2) := by decide +kernel
theorem dm_124_442 : decode cm_124 442 = .ok (.iaload, 1) := by decide +kernel
theorem dm_124_443 : decode cm_124 443 = .ok (.goto 9, 3) := by decide +kernel
theorem dm_124_446 : decode cm_124 446 = .ok (.aload_n 0, 1) := by decide +kernel
theorem dm_124_447 : decode cm_124 447 = .ok (.getfield 173, 3) := by decide +kernel
theorem dm_124_450 : decode cm_124 450 = .ok (.iconst 1, 1) := by decide +kernel
theorem dm_124_451 : decode cm_124 451 = .ok (.iadd, 1) := by decide +kernel
theorem dm_124_452 : decode cm_124 452 = .ok (.putfield 173, 3) := by decide +kernel
theorem dm_124_455 : decode cm_124 455 = .ok (.iconst 0, 1) := by decide +kernel
theorem dm_124_456 : decode cm_124 456 = .ok (.ireturn, 1) := by decide +kernel
theorem dm_125_0 : decode cm_125 0 = .ok (.iload_n 2, 1) := by decide +kernel
theorem dm_125_1 : decode cm_125 1 = .ok (.iconst 1, 1) := by decide +kernel
theorem dm_125_2 : decode cm_125 2 = .ok (.if_icmp .eq 12, 3) := by decide +kernel
theorem dm_125_5 : decode cm_125 5 = .ok (.iload_n 2, 1) := by decide +kernel
theorem dm_125_6 : decode cm_125 6 = .ok (.iconst 3, 1) := by decide +kernel
theorem dm_125_7 : decode cm_125 7 = .ok (.iconst 5, 1) := by decide +kernel
theorem dm_125_8 : decode cm_125 8 = .ok (.invokestatic 83, 3) := by decide +kernel
theorem dm_125_11 : decode cm_125 11 = .ok (.ifCond .eq 7, 3) := by decide +kernel
theorem dm_125_14 : decode cm_125 14 = .ok (.iconst 1, 1) := by decide +kernel
theorem dm_125_15 : decode cm_125 15 = .ok (.goto 4, 3) := by decide +kernel
theorem dm_125_18 : decode cm_125 18 = .ok (.iconst 0, 1) := by decide +kernel
theorem dm_125_19 : decode cm_125 19 = .ok (.istore_n 3, 1) := by decide +kernel
theorem dm_125_20 : decode cm_125 20 = .ok (.iload_n 2, 1) := by decide +kernel
theorem dm_125_21 : decode cm_125 21 = .ok (.iconst 4, 1) := by decide +kernel
theorem dm_125_22 : decode cm_125 22 = .ok (.iconst 5, 1) := by decide +kernel
theorem dm_125_23 : decode cm_125 23 = .ok (.invokestatic 83, 3) := by decide +kernel
theorem dm_125_26 : decode cm_125 26 = .ok (.istore 4, 2) := by decide +kernel
theorem dm_125_28 : decode cm_125 28 = .ok (.iload_n 3, 1) := by decide +kernel
theorem dm_125_29 : decode cm_125 29 = .ok (.ifCond .eq 12, 3) := by decide +kernel
theorem dm_125_32 : decode cm_125 32 = .ok (.aload_n 0, 1) := by decide +kernel
theorem dm_125_33 : decode cm_125 33 = .ok (.getfield 77, 3) := by decide +kernel
theorem dm_125_36 : decode cm_125 36 = .ok (.iconst 1, 1) := by decide +kernel
theorem dm_125_37 : decode cm_125 37 = .ok (.baload, 1) := by decide +kernel
theorem dm_125_38 : decode cm_125 38 = .ok (.ifCond .ne 17, 3) := by decide +kernel
theorem dm_125_41 : decode cm_125 41 = .ok (.iload 4, 2) := by decide +kernel
theorem dm_125_43 : decode cm_125 43 = .ok (.ifCond .eq 14, 3) := by decide +kernel
theorem dm_125_46 : decode cm_125 46 = .ok (.aload_n 0, 1) := by decide +kernel
theorem dm_125_47 : decode cm_125 47 = .ok (.getfield 77, 3) := by decide +kernel
theorem dm_125_50 : decode cm_125 50 = .ok (.iconst 2, 1) := by decide +kernel
theorem dm_125_51 : decode cm_125 51 = .ok (.baload, 1) := by decide +kernel
theorem dm_125_52 : decode cm_125 52 = .ok (.ifCond .eq 5, 3) := by decide +kernel
theorem dm_125_55 : decode cm_125 55 = .ok (.iconst 3, 1) := by decide +kernel
theorem dm_125_56 : decode cm_125 56 = .ok (.ireturn, 1) := by decide +kernel
theorem dm_125_57 : decode cm_125 57 = .ok (.iload_n 3, 1) := by decide +kernel
theorem dm_125_58 : decode cm_125 58 = .ok (.ifCond .eq 12, 3) := by decide +kernel
theorem dm_125_61 : decode cm_125 61 = .ok (.aload_n 0, 1) := by decide +kernel
theorem dm_125_62 : decode cm_125 62 = .ok (.getfield 74, 3) := by decide +kernel
theorem dm_125_65 : decode cm_125 65 = .ok (.iconst 1, 1) := by decide +kernel
theorem dm_125_66 : decode cm_125 66 = .ok (.iaload, 1) := by decide +kernel
theorem dm_125_67 : decode cm_125 67 = .ok (.goto 4, 3) := by decide +kernel
theorem dm_125_70 : decode cm_125 70 = .ok (.iconst 0, 1) := by decide +kernel
theorem dm_125_71 : decode cm_125 71 = .ok (.istore 5, 2) := by decide +kernel
theorem dm_125_73 : decode cm_125 73 = .ok (.iload 4, 2) := by decide +kernel
theorem dm_125_75 : decode cm_125 75 = .ok (.ifCond .eq 12, 3) := by decide +kernel
theorem dm_125_78 : decode cm_125 78 = .ok (.aload_n 0, 1) := by decide +kernel
theorem dm_125_79 : decode cm_125 79 = .ok (.getfield 74, 3) := by decide +kernel
theorem dm_125_82 : decode cm_125 82 = .ok (.iconst 2, 1) := by decide +kernel
theorem dm_125_83 : decode cm_125 83 = .ok (.iaload, 1) := by decide +kernel
theorem dm_125_84 : decode cm_125 84 = .ok (.goto 4, 3) := by decide +kernel
theorem dm_125_87 : decode cm_125 87 = .ok (.iconst 0, 1) := by decide +kernel
theorem dm_125_88 : decode cm_125 88 = .ok (.istore 6, 2) := by decide +kernel
theorem dm_125_90 : decode cm_125 90 = .ok (.iload_n 2, 1) := by decide +kernel
theorem dm_125_91 : decode cm_125 91 = .ok (.iconst 4, 1) := by decide +kernel
theorem dm_125_92 : decode cm_125 92 = .ok (.if_icmp .ne 17, 3) := by decide +kernel
theorem dm_125_95 : decode cm_125 95 = .ok (.iload 5, 2) := by decide +kernel
theorem dm_125_97 : decode cm_125 97 = .ok (.iload 6, 2) := by decide +kernel
theorem dm_125_99 : decode cm_125 99 = .ok (.invokestatic 151, 3) := by decide +kernel
theorem dm_125_102 : decode cm_125 102 = .ok (.ifCond .eq 7, 3) := by decide +kernel
theorem dm_125_105 : decode cm_125 105 = .ok (.iconst 1, 1) := by decide +kernel
theorem dm_125_106 : decode cm_125 106 = .ok (.goto 4, 3) := by decide +kernel
theorem dm_125_109 : decode cm_125 109 = .ok (.iconst 0, 1) := by decide +kernel
theorem dm_125_110 : decode cm_125 110 = .ok (.istore 7, 2) := by decide +kernel
theorem dm_125_112 : decode cm_125 112 = .ok (.iload 7, 2) := by decide +kernel
theorem dm_125_114 : decode cm_125 114 = .ok (.ifCond .eq 25, 3) := by decide +kernel
theorem dm_125_117 : decode cm_125 117 = .ok (.aload_n 0, 1) := by decide +kernel
theorem dm_125_118 : decode cm_125 118 = .ok (.bipush 8, 2) := by decide +kernel
theorem dm_125_120 : decode cm_125 120 = .ok (.iload 5, 2) := by decide +kernel
theorem dm_125_122 : decode cm_125 122 = .ok (.iadd, 1) := by decide +kernel
theorem dm_125_123 : decode cm_125 123 = .ok (.bipush 8, 2) := by decide +kernel
theorem dm_125_125 : decode cm_125 125 = .ok (.iload 5, 2) := by decide +kernel
theorem dm_125_127 : decode cm_125 127 = .ok (.iadd, 1) := by decide +kernel
theorem dm_125_128 : decode cm_125 128 = .ok (.iload 6, 2) := by decide +kernel
theorem dm_125_130 : decode cm_125 130 = .ok (.iadd, 1) := by decide +kernel
theorem dm_125_131 : decode cm_125 131 = .ok (.invokevirtual 192, 3) := by decide +kernel
theorem dm_125_134 : decode cm_125 134 = .ok (.ifCond .eq 5, 3) := by decide +kernel
theorem dm_125_137 : decode cm_125 137 = .ok (.iconst 3, 1) := by decide +kernel
theorem dm_125_138 : decode cm_125 138 = .ok (.ireturn, 1) := by decide +kernel
theorem dm_125_139 : decode cm_125 139 = .ok (.aload_n 0, 1) := by decide +kernel
theorem dm_125_140 : decode cm_125 140 = .ok (.getfield 182, 3) := by decide +kernel
theorem dm_125_143 : decode cm_125 143 = .ok (.bipush 16, 2) := by decide +kernel
theorem dm_125_145 : decode cm_125 145 = .ok (.if_icmp .ge 45, 3) := by decide +kernel
theorem dm_125_148 : decode cm_125 148 = .ok (.aload_n 0, 1) := by decide +kernel
theorem dm_125_149 : decode cm_125 149 = .ok (.getfield 80, 3) := by decide +kernel
theorem dm_125_152 : decode cm_125 152 = .ok (.iconst 3, 1) := by decide +kernel
theorem dm_125_153 : decode cm_125 153 = .ok (.aload_n 0, 1) := by decide +kernel
theorem dm_125_154 : decode cm_125 154 = .ok (.getfield 182, 3) := by decide +kernel
theorem dm_125_157 : decode cm_125 157 = .ok (.imul, 1) := by decide +kernel
theorem dm_125_158 : decode cm_125 158 = .ok (.iload_n 2, 1) := by decide +kernel
theorem dm_125_159 : decode cm_125 159 = .ok (.iastore, 1) := by decide +kernel
theorem dm_125_160 : decode cm_125 160 = .ok (.aload_n 0, 1) := by decide +kernel
theorem dm_125_161 : decode cm_125 161 = .ok (.getfield 80, 3) := by decide +kernel
theorem dm_125_164 : decode cm_125 164 = .ok (.iconst 3, 1) := by decide +kernel
theorem dm_125_165 : decode cm_125 165 = .ok (.aload_n 0, 1) := by decide +kernel
theorem dm_125_166 : decode cm_125 166 = .ok (.getfield 182, 3) := by decide +kernel
theorem dm_125_169 : decode cm_125 169 = .ok (.imul, 1) := by decide +kernel
theorem dm_125_170 : decode cm_125 170 = .ok (.iconst 1, 1) := by decide +kernel
theorem dm_125_171 : decode cm_125 171 = .ok (.iadd, 1) := by decide +kernel
theorem dm_125_172 : decode cm_125 172 = .ok (.iload 5, 2) := by decide +kernel
theorem dm_125_174 : decode cm_125 174 = .ok (.iastore, 1) := by decide +kernel
theorem dm_125_175 : decode cm_125 175 = .ok (.aload_n 0, 1) := by decide +kernel
theorem dm_125_176 : decode cm_125 176 = .ok (.getfield 80, 3) := by decide +kernel
theorem dm_125_179 : decode cm_125 179 = .ok (.iconst 3, 1) := by decide +kernel
theorem dm_125_180 : decode cm_125 180 = .ok (.aload_n 0, 1) := by decide +kernel
theorem dm_125_181 : decode cm_125 181 = .ok (.getfield 182, 3) := by decide +kernel
theorem dm_125_184 : decode cm_125 184 = .ok (.imul, 1) := by decide +kernel
theorem dm_125_185 : decode cm_125 185 = .ok (.iconst 2, 1) := by decide +kernel
theorem dm_125_186 : decode cm_125 186 = .ok (.iadd, 1) := by decide +kernel
theorem dm_125_187 : decode cm_125 187 = .ok (.iload 6, 2) := by decide +kernel
theorem dm_125_189 : decode cm_125 189 = .ok (.iastore, 1) := by decide +kernel
theorem dm_125_190 : decode cm_125 190 = .ok (.aload_n 0, 1) := by decide +kernel
theorem dm_125_191 : decode cm_125 191 = .ok (.dup, 1) := by decide +kernel
theorem dm_125_192 : decode cm_125 192 = .ok (.getfield 182, 3) := by decide +kernel
theorem dm_125_195 : decode cm_125 195 = .ok (.iconst 1, 1) := by decide +kernel
theorem dm_125_196 : decode cm_125 196 = .ok (.iadd, 1) := by decide +kernel
theorem dm_125_197 : decode cm_125 197 = .ok (.putfield 182, 3) := by decide +kernel
theorem dm_125_200 : decode cm_125 200 = .ok (.iload_n 2, 1) := by decide +kernel
theorem dm_125_201 : decode cm_125 201 = .ok (.ifCond .ne 5, 3) := by decide +kernel
theorem dm_125_204 : decode cm_125 204 = .ok (.iconst 1, 1) := by decide +kernel
theorem dm_125_205 : decode cm_125 205 = .ok (.ireturn, 1) := by decide +kernel
theorem dm_125_206 : decode cm_125 206 = .ok (.iconst (-1), 1) := by decide +kernel
theorem dm_125_207 : decode cm_125 207 = .ok (.istore 8, 2) := by decide +kernel
theorem dm_125_209 : decode cm_125 209 = .ok (.iload_n 2, 1) := by decide +kernel
theorem dm_125_210 : decode cm_125 210 = .ok (.iconst 1, 1) := by decide +kernel
theorem dm_125_211 : decode cm_125 211 = .ok (.if_icmp .ne 9, 3) := by decide +kernel
theorem dm_125_214 : decode cm_125 214 = .ok (.iconst 0, 1) := by decide +kernel
theorem dm_125_215 : decode cm_125 215 = .ok (.istore 8, 2) := by decide +kernel
theorem dm_125_217 : decode cm_125 217 = .ok (.goto 109, 3) := by decide +kernel
theorem dm_125_220 : decode cm_125 220 = .ok (.iload_n 2, 1) := by decide +kernel
theorem dm_125_221 : decode cm_125 221 = .ok (.iconst 2, 1) := by decide +kernel
theorem dm_125_222 : decode cm_125 222 = .ok (.if_icmp .ne 54, 3) := by decide +kernel
theorem dm_125_225 : decode cm_125 225 = .ok (.aload_n 0, 1) := by decide +kernel
theorem dm_125_226 : decode cm_125 226 = .ok (.getfield 13, 3) := by decide +kernel
theorem dm_125_229 : decode cm_125 229 = .ok (.iload_n 1, 1) := by decide +kernel
theorem dm_125_230 : decode cm_125 230 = .ok (.iaload, 1) := by decide +kernel
theorem dm_125_231 : decode cm_125 231 = .ok (.ifCond .eq 45, 3) := by decide +kernel
theorem dm_125_234 : decode cm_125 234 = .ok (.aload_n 0, 1) := by decide +kernel
theorem dm_125_235 : decode cm_125 235 = .ok (.getfield 179, 3) := by decide +kernel
theorem dm_125_238 : decode cm_125 238 = .ok (.aload_n 0, 1) := by decide +kernel
theorem dm_125_239 : decode cm_125 239 = .ok (.getfield 34, 3) := by decide +kernel
theorem dm_125_242 : decode cm_125 242 = .ok (.iload_n 1, 1) := by decide +kernel
theorem dm_125_243 : decode cm_125 243 = .ok (.iaload, 1) := by decide +kernel
theorem dm_125_244 : decode cm_125 244 = .ok (.if_icmp .ge 32, 3) := by decide +kernel
theorem dm_125_247 : decode cm_125 247 = .ok (.aload_n 0, 1) := by decide +kernel
theorem dm_125_248 : decode cm_125 248 = .ok (.getfield 31, 3) := by decide +kernel
theorem dm_125_251 : decode cm_125 251 = .ok (.bipush 12, 2) := by decide +kernel
theorem dm_125_253 : decode cm_125 253 = .ok (.iload_n 1, 1) := by decide +kernel
theorem dm_125_254 : decode cm_125 254 = .ok (.imul, 1) := by decide +kernel
theorem dm_125_255 : decode cm_125 255 = .ok (.aload_n 0, 1) := by decide +kernel
theorem dm_125_256 : decode cm_125 256 = .ok (.getfield 179, 3) := by decide +kernel
theorem dm_125_259 : decode cm_125 259 = .ok (.iadd, 1) := by decide +kernel
theorem dm_125_260 : decode cm_125 260 = .ok (.iaload, 1) := by decide +kernel
theorem dm_125_261 : decode cm_125 261 = .ok (.istore 8, 2) := by decide +kernel
theorem dm_125_263 : decode cm_125 263 = .ok (.aload_n 0, 1) := by decide +kernel
theorem dm_125_264 : decode cm_125 264 = .ok (.dup, 1) := by decide +kernel
theorem dm_125_265 : decode cm_125 265 = .ok (.getfield 179, 3) := by decide +kernel
theorem dm_125_268 : decode cm_125 268 = .ok (.iconst 1, 1) := by decide +kernel
theorem dm_125_269 : decode cm_125 269 = .ok (.iadd, 1) := by decide +kernel
theorem dm_125_270 : decode cm_125 270 = .ok (.putfield 179, 3) := by decide +kernel
theorem dm_125_273 : decode cm_125 273 = .ok (.goto 53, 3) := by decide +kernel
theorem dm_125_276 : decode cm_125 276 = .ok (.iload_n 2, 1) := by decide +kernel
theorem dm_125_277 : decode cm_125 277 = .ok (.iconst 3, 1) := by decide +kernel
theorem dm_125_278 : decode cm_125 278 = .ok (.if_icmp .ne 39, 3) := by decide +kernel
theorem dm_125_281 : decode cm_125 281 = .ok (.iload 5, 2) := by decide +kernel
theorem dm_125_283 : decode cm_125 283 = .ok (.iconst 1, 1) := by decide +kernel
theorem dm_125_284 : decode cm_125 284 = .ok (.bipush 16, 2) := by decide +kernel
theorem dm_125_286 : decode cm_125 286 = .ok (.aload_n 0, 1) := by decide +kernel
theorem dm_125_287 : decode cm_125 287 = .ok (.getfield 176, 3) := by decide +kernel
theorem dm_125_290 : decode cm_125 290 = .ok (.isub, 1) := by decide +kernel
theorem dm_125_291 : decode cm_125 291 = .ok (.invokestatic 83, 3) := by decide +kernel
theorem dm_125_294 : decode cm_125 294 = .ok (.ifCond .eq 23, 3) := by decide +kernel
theorem dm_125_297 : decode cm_125 297 = .ok (.aload_n 0, 1) := by decide +kernel
theorem dm_125_298 : decode cm_125 298 = .ok (.getfield 176, 3) := by decide +kernel
theorem dm_125_301 : decode cm_125 301 = .ok (.istore 8, 2) := by decide +kernel
theorem dm_125_303 : decode cm_125 303 = .ok (.aload_n 0, 1) := by decide +kernel
theorem dm_125_304 : decode cm_125 304 = .ok (.dup, 1) := by decide +kernel
theorem dm_125_305 : decode cm_125 305 = .ok (.getfield 176, 3) := by decide +kernel
theorem dm_125_308 : decode cm_125 308 = .ok (.iload 5, 2) := by decide +kernel
theorem dm_125_310 : decode cm_125 310 = .ok (.iadd, 1) := by decide +kernel
theorem dm_125_311 : decode cm_125 311 = .ok (.putfield 176, 3) := by decide +kernel
theorem dm_125_314 : decode cm_125 314 = .ok (.goto 12, 3) := by decide +kernel
theorem dm_125_317 : decode cm_125 317 = .ok (.iload 7, 2) := by decide +kernel
theorem dm_125_319 : decode cm_125 319 = .ok (.ifCond .eq 7, 3) := by decide +kernel
theorem dm_125_322 : decode cm_125 322 = .ok (.iload 6, 2) := by decide +kernel
theorem dm_125_324 : decode cm_125 324 = .ok (.istore 8, 2) := by decide +kernel
theorem dm_125_326 : decode cm_125 326 = .ok (.aload_n 0, 1) := by decide +kernel
theorem dm_125_327 : decode cm_125 327 = .ok (.iconst 1, 1) := by decide +kernel
theorem dm_125_328 : decode cm_125 328 = .ok (.iload 8, 2) := by decide +kernel
theorem dm_125_330 : decode cm_125 330 = .ok (.iconst 0, 1) := by decide +kernel
theorem dm_125_331 : decode cm_125 331 = .ok (.invokevirtual 169, 3) := by decide +kernel
theorem dm_125_334 : decode cm_125 334 = .ok (.aload_n 0, 1) := by decide +kernel
theorem dm_125_335 : decode cm_125 335 = .ok (.dup, 1) := by decide +kernel
theorem dm_125_336 : decode cm_125 336 = .ok (.getfield 173, 3) := by decide +kernel
theorem dm_125_339 : decode cm_125 339 = .ok (.iconst 1, 1) := by decide +kernel
theorem dm_125_340 : decode cm_125 340 = .ok (.iadd, 1) := by decide +kernel
theorem dm_125_341 : decode cm_125 341 = .ok (.putfield 173, 3) := by decide +kernel
theorem dm_125_344 : decode cm_125 344 = .ok (.iconst 0, 1) := by decide +kernel
theorem dm_125_345 : decode cm_125 345 = .ok (.ireturn, 1) := by decide +kernel
theorem dm_126_0 : decode cm_126 0 = .ok (.iload_n 1, 1) := by decide +kernel
theorem dm_126_1 : decode cm_126 1 = .ok (.iconst 0, 1) := by decide +kernel
theorem dm_126_2 : decode cm_126 2 = .ok (.iconst 2, 1) := by decide +kernel
theorem dm_126_3 : decode cm_126 3 = .ok (.invokestatic 83, 3) := by decide +kernel
theorem dm_126_6 : decode cm_126 6 = .ok (.ifCond .eq 12, 3) := by decide +kernel
theorem dm_126_9 : decode cm_126 9 = .ok (.aload_n 0, 1) := by decide +kernel
theorem dm_126_10 : decode cm_126 10 = .ok (.getfield 13, 3) := by decide +kernel
theorem dm_126_13 : decode cm_126 13 = .ok (.iload_n 1, 1) := by decide +kernel
theorem dm_126_14 : decode cm_126 14 = .ok (.iaload, 1) := by decide +kernel
theorem dm_126_15 : decode cm_126 15 = .ok (.goto 4, 3) := by decide +kernel
theorem dm_126_18 : decode cm_126 18 = .ok (.iconst (-1), 1) := by decide +kernel
theorem dm_126_19 : decode cm_126 19 = .ok (.ireturn, 1) := by decide +kernel
theorem dm_127_0 : decode cm_127 0 = .ok (.iload_n 1, 1) := by decide +kernel
theorem dm_127_1 : decode cm_127 1 = .ok (.iconst 0, 1) := by decide +kernel
theorem dm_127_2 : decode cm_127 2 = .ok (.iconst 2, 1) := by decide +kernel
theorem dm_127_3 : decode cm_127 3 = .ok (.invokestatic 83, 3) := by decide +kernel
theorem dm_127_6 : decode cm_127 6 = .ok (.ifCond .eq 12, 3) := by decide +kernel
theorem dm_127_9 : decode cm_127 9 = .ok (.aload_n 0, 1) := by decide +kernel
theorem dm_127_10 : decode cm_127 10 = .ok (.getfield 19, 3) := by decide +kernel
theorem dm_127_13 : decode cm_127 13 = .ok (.iload_n 1, 1) := by decide +kernel
theorem dm_127_14 : decode cm_127 14 = .ok (.iaload, 1) := by decide +kernel
theorem dm_127_15 : decode cm_127 15 = .ok (.goto 4, 3) := by decide +kernel
theorem dm_127_18 : decode cm_127 18 = .ok (.iconst (-1), 1) := by decide +kernel
theorem dm_127_19 : decode cm_127 19 = .ok (.ireturn, 1) := by decide +kernel
theorem dm_128_0 : decode cm_128 0 = .ok (.iload_n 1, 1) := by decide +kernel
theorem dm_128_1 : decode cm_128 1 = .ok (.iconst 0, 1) := by decide +kernel
theorem dm_128_2 : decode cm_128 2 = .ok (.iconst 2, 1) := by decide +kernel
theorem dm_128_3 : decode cm_128 3 = .ok (.invokestatic 83, 3) := by decide +kernel
theorem dm_128_6 : decode cm_128 6 = .ok (.ifCond .eq 27, 3) := by decide +kernel
theorem dm_128_9 : decode cm_128 9 = .ok (.iload_n 2, 1) := by decide +kernel
theorem dm_128_10 : decode cm_128 10 = .ok (.iconst 0, 1) := by decide +kernel
theorem dm_128_11 : decode cm_128 11 = .ok (.bipush 7, 2) := by decide +kernel
theorem dm_128_13 : decode cm_128 13 = .ok (.invokestatic 83, 3) := by decide +kernel
theorem dm_128_16 : decode cm_128 16 = .ok (.ifCond .eq 17, 3) := by decide +kernel
theorem dm_128_19 : decode cm_128 19 = .ok (.aload_n 0, 1) := by decide +kernel
theorem dm_128_20 : decode cm_128 20 = .ok (.getfield 16, 3) := by decide +kernel
theorem dm_128_23 : decode cm_128 23 = .ok (.bipush 8, 2) := by decide +kernel
theorem dm_128_25 : decode cm_128 25 = .ok (.iload_n 1, 1) := by decide +kernel
theorem dm_128_26 : decode cm_128 26 = .ok (.imul, 1) := by decide +kernel
theorem dm_128_27 : decode cm_128 27 = .ok (.iload_n 2, 1) := by decide +kernel
theorem dm_128_28 : decode cm_128 28 = .ok (.iadd, 1) := by decide +kernel
theorem dm_128_29 : decode cm_128 29 = .ok (.iaload, 1) := by decide +kernel
theorem dm_128_30 : decode cm_128 30 = .ok (.goto 4, 3) := by decide +kernel
theorem dm_128_33 : decode cm_128 33 = .ok (.iconst 0, 1) := by decide +kernel
theorem dm_128_34 : decode cm_128 34 = .ok (.ireturn, 1) := by decide +kernel
theorem dm_129_0 : decode cm_129 0 = .ok (.iload_n 1, 1) := by decide +kernel
theorem dm_129_1 : decode cm_129 1 = .ok (.iconst 0, 1) := by decide +kernel
theorem dm_129_2 : decode cm_129 2 = .ok (.sipush 255, 3) := by decide +kernel
theorem dm_129_5 : decode cm_129 5 = .ok (.invokestatic 83, 3) := by decide +kernel
theorem dm_129_8 : decode cm_129 8 = .ok (.ifCond .eq 12, 3) := by decide +kernel
theorem dm_129_11 : decode cm_129 11 = .ok (.aload_n 0, 1) := by decide +kernel
theorem dm_129_12 : decode cm_129 12 = .ok (.getfield 7, 3) := by decide +kernel
theorem dm_129_15 : decode cm_129 15 = .ok (.iload_n 1, 1) := by decide +kernel
theorem dm_129_16 : decode cm_129 16 = .ok (.iaload, 1) := by decide +kernel
theorem dm_129_17 : decode cm_129 17 = .ok (.goto 4, 3) := by decide +kernel
theorem dm_129_20 : decode cm_129 20 = .ok (.iconst 0, 1) := by decide +kernel
theorem dm_129_21 : decode cm_129 21 = .ok (.ireturn, 1) := by decide +kernel
theorem dm_130_0 : decode cm_130 0 = .ok (.iload_n 1, 1) := by decide +kernel
theorem dm_130_1 : decode cm_130 1 = .ok (.iconst 0, 1) := by decide +kernel
theorem dm_130_2 : decode cm_130 2 = .ok (.iconst 2, 1) := by decide +kernel
theorem dm_130_3 : decode cm_130 3 = .ok (.invokestatic 83, 3) := by decide +kernel
theorem dm_130_6 : decode cm_130 6 = .ok (.ifCond .ne 5, 3) := by decide +kernel
theorem dm_130_9 : decode cm_130 9 = .ok (.iconst 0, 1) := by decide +kernel
theorem dm_130_10 : decode cm_130 10 = .ok (.ireturn, 1) := by decide +kernel
theorem dm_130_11 : decode cm_130 11 = .ok (.iload_n 2, 1) := by decide +kernel
theorem dm_130_12 : decode cm_130 12 = .ok (.iconst (-1), 1) := by decide +kernel
theorem dm_130_13 : decode cm_130 13 = .ok (.if_icmp .ne 12, 3) := by decide +kernel
theorem dm_130_16 : decode cm_130 16 = .ok (.aload_n 0, 1) := by decide +kernel
theorem dm_130_17 : decode cm_130 17 = .ok (.getfield 43, 3) := by decide +kernel
theorem dm_130_20 : decode cm_130 20 = .ok (.iload_n 1, 1) := by decide +kernel
theorem dm_130_21 : decode cm_130 21 = .ok (.iaload, 1) := by decide +kernel
theorem dm_130_22 : decode cm_130 22 = .ok (.goto 50, 3) := by decide +kernel
theorem dm_130_25 : decode cm_130 25 = .ok (.iload_n 2, 1) := by decide +kernel
theorem dm_130_26 : decode cm_130 26 = .ok (.iconst 0, 1) := by decide +kernel
theorem dm_130_27 : decode cm_130 27 = .ok (.bipush 7, 2) := by decide +kernel
theorem dm_130_29 : decode cm_130 29 = .ok (.invokestatic 83, 3) := by decide +kernel
theorem dm_130_32 : decode cm_130 32 = .ok (.ifCond .eq 39, 3) := by decide +kernel
theorem dm_130_35 : decode cm_130 35 = .ok (.iload_n 2, 1) := by decide +kernel
theorem dm_130_36 : decode cm_130 36 = .ok (.aload_n 0, 1) := by decide +kernel
theorem dm_130_37 : decode cm_130 37 = .ok (.getfield 43, 3) := by decide +kernel
theorem dm_130_40 : decode cm_130 40 = .ok (.iload_n 1, 1) := by decide +kernel
theorem dm_130_41 : decode cm_130 41 = .ok (.iaload, 1) := by decide +kernel
theorem dm_130_42 : decode cm_130 42 = .ok (.if_icmp .ge 29, 3) := by decide +kernel
theorem dm_130_45 : decode cm_130 45 = .ok (.aload_n 0, 1) := by decide +kernel
theorem dm_130_46 : decode cm_130 46 = .ok (.getfield 40, 3) := by decide +kernel
theorem dm_130_49 : decode cm_130 49 = .ok (.bipush 8, 2) := by decide +kernel
theorem dm_130_51 : decode cm_130 51 = .ok (.iload_n 1, 1) := by decide +kernel
theorem dm_130_52 : decode cm_130 52 = .ok (.imul, 1) := by decide +kernel
theorem dm_130_53 : decode cm_130 53 = .ok (.aload_n 0, 1) := by decide +kernel
theorem dm_130_54 : decode cm_130 54 = .ok (.getfield 43, 3) := by decide +kernel
theorem dm_130_57 : decode cm_130 57 = .ok (.iload_n 1, 1) := by decide +kernel
theorem dm_130_58 : decode cm_130 58 = .ok (.iaload, 1) := by decide +kernel
theorem dm_130_59 : decode cm_130 59 = .ok (.iconst 1, 1) := by decide +kernel
theorem dm_130_60 : decode cm_130 60 = .ok (.isub, 1) := by decide +kernel
theorem dm_130_61 : decode cm_130 61 = .ok (.iload_n 2, 1) := by decide +kernel
theorem dm_130_62 : decode cm_130 62 = .ok (.isub, 1) := by decide +kernel
theorem dm_130_63 : decode cm_130 63 = .ok (.bipush 7, 2) := by decide +kernel
theorem dm_130_65 : decode cm_130 65 = .ok (.iand, 1) := by decide +kernel
theorem dm_130_66 : decode cm_130 66 = .ok (.iadd, 1) := by decide +kernel
theorem dm_130_67 : decode cm_130 67 = .ok (.iaload, 1) := by decide +kernel
theorem dm_130_68 : decode cm_130 68 = .ok (.goto 4, 3) := by decide +kernel
theorem dm_130_71 : decode cm_130 71 = .ok (.iconst 0, 1) := by decide +kernel
theorem dm_130_72 : decode cm_130 72 = .ok (.ireturn, 1) := by decide +kernel
theorem dm_131_0 : decode cm_131 0 = .ok (.iload_n 1, 1) := by decide +kernel
theorem dm_131_1 : decode cm_131 1 = .ok (.iconst 0, 1) := by decide +kernel
theorem dm_131_2 : decode cm_131 2 = .ok (.iconst 2, 1) := by decide +kernel
theorem dm_131_3 : decode cm_131 3 = .ok (.invokestatic 83, 3) := by decide +kernel
theorem dm_131_6 : decode cm_131 6 = .ok (.ifCond .ne 5, 3) := by decide +kernel
theorem dm_131_9 : decode cm_131 9 = .ok (.iconst 0, 1) := by decide +kernel
theorem dm_131_10 : decode cm_131 10 = .ok (.ireturn, 1) := by decide +kernel
theorem dm_131_11 : decode cm_131 11 = .ok (.iload_n 2, 1) := by decide +kernel
theorem dm_131_12 : decode cm_131 12 = .ok (.iconst (-1), 1) := by decide +kernel
theorem dm_131_13 : decode cm_131 13 = .ok (.if_icmp .ne 10, 3) := by decide +kernel
theorem dm_131_16 : decode cm_131 16 = .ok (.aload_n 0, 1) := by decide +kernel
theorem dm_131_17 : decode cm_131 17 = .ok (.getfield 46, 3) := by decide +kernel
theorem dm_131_20 : decode cm_131 20 = .ok (.iload_n 1, 1) := by decide +kernel
theorem dm_131_21 : decode cm_131 21 = .ok (.iaload, 1) := by decide +kernel
theorem dm_131_22 : decode cm_131 22 = .ok (.ireturn, 1) := by decide +kernel
theorem dm_131_23 : decode cm_131 23 = .ok (.iload_n 2, 1) := by decide +kernel
theorem dm_131_24 : decode cm_131 24 = .ok (.iconst 0, 1) := by decide +kernel
theorem dm_131_25 : decode cm_131 25 = .ok (.bipush 15, 2) := by decide +kernel
theorem dm_131_27 : decode cm_131 27 = .ok (.invokestatic 83, 3) := by decide +kernel
theorem dm_131_30 : decode cm_131 30 = .ok (.ifCond .eq 40, 3) := by decide +kernel
theorem dm_131_33 : decode cm_131 33 = .ok (.iload_n 2, 1) := by decide +kernel
theorem dm_131_34 : decode cm_131 34 = .ok (.aload_n 0, 1) := by decide +kernel
theorem dm_131_35 : decode cm_131 35 = .ok (.getfield 46, 3) := by decide +kernel
theorem dm_131_38 : decode cm_131 38 = .ok (.iload_n 1, 1) := by decide +kernel
theorem dm_131_39 : decode cm_131 39 = .ok (.iaload, 1) := by decide +kernel
theorem dm_131_40 : decode cm_131 40 = .ok (.if_icmp .ge 30, 3) := by decide +kernel
theorem dm_131_43 : decode cm_131 43 = .ok (.iload_n 3, 1) := by decide +kernel
theorem dm_131_44 : decode cm_131 44 = .ok (.iconst 0, 1) := by decide +kernel
theorem dm_131_45 : decode cm_131 45 = .ok (.iconst 2, 1) := by decide +kernel
theorem dm_131_46 : decode cm_131 46 = .ok (.invokestatic 83, 3) := by decide +kernel
theorem dm_131_49 : decode cm_131 49 = .ok (.ifCond .eq 21, 3) := by decide +kernel
theorem dm_131_52 : decode cm_131 52 = .ok (.aload_n 0, 1) := by decide +kernel
theorem dm_131_53 : decode cm_131 53 = .ok (.getfield 49, 3) := by decide +kernel
theorem dm_131_56 : decode cm_131 56 = .ok (.bipush 48, 2) := by decide +kernel
theorem dm_131_58 : decode cm_131 58 = .ok (.iload_n 1, 1) := by decide +kernel
theorem dm_131_59 : decode cm_131 59 = .ok (.imul, 1) := by decide +kernel
theorem dm_131_60 : decode cm_131 60 = .ok (.iconst 3, 1) := by decide +kernel
theorem dm_131_61 : decode cm_131 61 = .ok (.iload_n 2, 1) := by decide +kernel
theorem dm_131_62 : decode cm_131 62 = .ok (.imul, 1) := by decide +kernel
theorem dm_131_63 : decode cm_131 63 = .ok (.iadd, 1) := by decide +kernel
theorem dm_131_64 : decode cm_131 64 = .ok (.iload_n 3, 1) := by decide +kernel
theorem dm_131_65 : decode cm_131 65 = .ok (.iadd, 1) := by decide +kernel
theorem dm_131_66 : decode cm_131 66 = .ok (.iaload, 1) := by decide +kernel
theorem dm_131_67 : decode cm_131 67 = .ok (.goto 4, 3) := by decide +kernel
theorem dm_131_70 : decode cm_131 70 = .ok (.iconst 0, 1) := by decide +kernel
theorem dm_131_71 : decode cm_131 71 = .ok (.ireturn, 1) := by decide +kernel
theorem dm_132_0 : decode cm_132 0 = .ok (.iload_n 1, 1) := by decide +kernel
theorem dm_132_1 : decode cm_132 1 = .ok (.iconst (-1), 1) := by decide +kernel
theorem dm_132_2 : decode cm_132 2 = .ok (.if_icmp .ne 8, 3) := by decide +kernel
theorem dm_132_5 : decode cm_132 5 = .ok (.aload_n 0, 1) := by decide +kernel
theorem dm_132_6 : decode cm_132 6 = .ok (.getfield 182, 3) := by decide +kernel
theorem dm_132_9 : decode cm_132 9 = .ok (.ireturn, 1) := by decide +kernel
theorem dm_132_10 : decode cm_132 10 = .ok (.iload_n 1, 1) := by decide +kernel
theorem dm_132_11 : decode cm_132 11 = .ok (.iconst 0, 1) := by decide +kernel
theorem dm_132_12 : decode cm_132 12 = .ok (.bipush 15, 2) := by decide +kernel
theorem dm_132_14 : decode cm_132 14 = .ok (.invokestatic 83, 3) := by decide +kernel
theorem dm_132_17 : decode cm_132 17 = .ok (.ifCond .eq 33, 3) := by decide +kernel
theorem dm_132_20 : decode cm_132 20 = .ok (.iload_n 1, 1) := by decide +kernel
theorem dm_132_21 : decode cm_132 21 = .ok (.aload_n 0, 1) := by decide +kernel
theorem dm_132_22 : decode cm_132 22 = .ok (.getfield 182, 3) := by decide +kernel
theorem dm_132_25 : decode cm_132 25 = .ok (.if_icmp .ge 25, 3) := by decide +kernel
theorem dm_132_28 : decode cm_132 28 = .ok (.iload_n 2, 1) := by decide +kernel
theorem dm_132_29 : decode cm_132 29 = .ok (.iconst 0, 1) := by decide +kernel
theorem dm_132_30 : decode cm_132 30 = .ok (.iconst 2, 1) := by decide +kernel
theorem dm_132_31 : decode cm_132 31 = .ok (.invokestatic 83, 3) := by decide +kernel
theorem dm_132_34 : decode cm_132 34 = .ok (.ifCond .eq 16, 3) := by decide +kernel
theorem dm_132_37 : decode cm_132 37 = .ok (.aload_n 0, 1) := by decide +kernel
theorem dm_132_38 : decode cm_132 38 = .ok (.getfield 80, 3) := by decide +kernel
theorem dm_132_41 : decode cm_132 41 = .ok (.iconst 3, 1) := by decide +kernel
theorem dm_132_42 : decode cm_132 42 = .ok (.iload_n 1, 1) := by decide +kernel
theorem dm_132_43 : decode cm_132 43 = .ok (.imul, 1) := by decide +kernel
theorem dm_132_44 : decode cm_132 44 = .ok (.iload_n 2, 1) := by decide +kernel
theorem dm_132_45 : decode cm_132 45 = .ok (.iadd, 1) := by decide +kernel
theorem dm_132_46 : decode cm_132 46 = .ok (.iaload, 1) := by decide +kernel
theorem dm_132_47 : decode cm_132 47 = .ok (.goto 4, 3) := by decide +kernel
theorem dm_132_50 : decode cm_132 50 = .ok (.iconst 0, 1) := by decide +kernel
theorem dm_132_51 : decode cm_132 51 = .ok (.ireturn, 1) := by decide +kernel
theorem dm_133_0 : decode cm_133 0 = .ok (.aload_n 2, 1) := by decide +kernel
theorem dm_133_1 : decode cm_133 1 = .ok (.invokevirtual 7, 3) := by decide +kernel
theorem dm_133_4 : decode cm_133 4 = .ok (.iconst 0, 1) := by decide +kernel
theorem dm_133_5 : decode cm_133 5 = .ok (.istore_n 3, 1) := by decide +kernel
theorem dm_133_6 : decode cm_133 6 = .ok (.iload_n 3, 1) := by decide +kernel
theorem dm_133_7 : decode cm_133 7 = .ok (.aload_n 0, 1) := by decide +kernel
theorem dm_133_8 : decode cm_133 8 = .ok (.invokevirtual 12, 3) := by decide +kernel
theorem dm_133_11 : decode cm_133 11 = .ok (.if_icmp .ge 16, 3) := by decide +kernel
theorem dm_133_14 : decode cm_133 14 = .ok (.aload_n 0, 1) := by decide +kernel
theorem dm_133_15 : decode cm_133 15 = .ok (.iload_n 3, 1) := by decide +kernel
theorem dm_133_16 : decode cm_133 16 = .ok (.iload_n 1, 1) := by decide +kernel
theorem dm_133_17 : decode cm_133 17 = .ok (.aload_n 2, 1) := by decide +kernel
theorem dm_133_18 : decode cm_133 18 = .ok (.invokestatic 18, 3) := by decide +kernel
theorem dm_133_21 : decode cm_133 21 = .ok (.iinc 3 1, 3) := by decide +kernel
theorem dm_133_24 : decode cm_133 24 = .ok (.goto (-18), 3) := by decide +kernel
theorem dm_133_27 : decode cm_133 27 = .ok (.aload_n 2, 1) := by decide +kernel
theorem dm_133_28 : decode cm_133 28 = .ok (.iconst 0, 1) := by decide +kernel
theorem dm_133_29 : decode cm_133 29 = .ok (.iconst 0, 1) := by decide +kernel
theorem dm_133_30 : decode cm_133 30 = .ok (.iconst 0, 1) := by decide +kernel
theorem dm_133_31 : decode cm_133 31 = .ok (.iconst 0, 1) := by decide +kernel
theorem dm_133_32 : decode cm_133 32 = .ok (.invokestatic 26, 3) := by decide +kernel
theorem dm_133_35 : decode cm_133 35 = .ok (.invokevirtual 30, 3) := by decide +kernel
theorem dm_133_38 : decode cm_133 38 = .ok (.pop, 1) := by decide +kernel
theorem dm_133_39 : decode cm_133 39 = .ok (.return_, 1) := by decide +kernel
theorem dm_134_0 : decode cm_134 0 = .ok (.aload_n 0, 1) := by decide +kernel
theorem dm_134_1 : decode cm_134 1 = .ok (.iload_n 1, 1) := by decide +kernel
theorem dm_134_2 : decode cm_134 2 = .ok (.invokevirtual 34, 3) := by decide +kernel
theorem dm_134_5 : decode cm_134 5 = .ok (.istore 4, 2) := by decide +kernel
theorem dm_134_7 : decode cm_134 7 = .ok (.aload_n 0, 1) := by decide +kernel
theorem dm_134_8 : decode cm_134 8 = .ok (.iload_n 1, 1) := by decide +kernel
theorem dm_134_9 : decode cm_134 9 = .ok (.invokevirtual 38, 3) := by decide +kernel
theorem dm_134_12 : decode cm_134 12 = .ok (.istore 5, 2) := by decide +kernel
theorem dm_134_14 : decode cm_134 14 = .ok (.aload_n 0, 1) := by decide +kernel
theorem dm_134_15 : decode cm_134 15 = .ok (.iload_n 1, 1) := by decide +kernel
theorem dm_134_16 : decode cm_134 16 = .ok (.invokevirtual 41, 3) := by decide +kernel
theorem dm_134_19 : decode cm_134 19 = .ok (.istore 6, 2) := by decide +kernel
theorem dm_134_21 : decode cm_134 21 = .ok (.aload_n 0, 1) := by decide +kernel
theorem dm_134_22 : decode cm_134 22 = .ok (.iload_n 1, 1) := by decide +kernel
theorem dm_134_23 : decode cm_134 23 = .ok (.invokevirtual 44, 3) := by decide +kernel
theorem dm_134_26 : decode cm_134 26 = .ok (.istore 7, 2) := by decide +kernel
theorem dm_134_28 : decode cm_134 28 = .ok (.iload 4, 2) := by decide +kernel
theorem dm_134_30 : decode cm_134 30 = .ok (.tableswitch 194 8 15 #[46, 46, 148, 148, 172, 91, 194, 122], 46) := by decide +kernel
theorem dm_134_76 : decode cm_134 76 = .ok (.aload_n 3, 1) := by decide +kernel
theorem dm_134_77 : decode cm_134 77 = .ok (.iconst 2, 1) := by decide +kernel
theorem dm_134_78 : decode cm_134 78 = .ok (.iconst 5, 1) := by decide +kernel
theorem dm_134_79 : decode cm_134 79 = .ok (.iload 6, 2) := by decide +kernel
theorem dm_134_81 : decode cm_134 81 = .ok (.iload 7, 2) := by decide +kernel
theorem dm_134_83 : decode cm_134 83 = .ok (.invokestatic 26, 3) := by decide +kernel
theorem dm_134_86 : decode cm_134 86 = .ok (.invokevirtual 30, 3) := by decide +kernel
theorem dm_134_89 : decode cm_134 89 = .ok (.pop, 1) := by decide +kernel
theorem dm_134_90 : decode cm_134 90 = .ok (.aload_n 3, 1) := by decide +kernel
theorem dm_134_91 : decode cm_134 91 = .ok (.bipush 6, 2) := by decide +kernel
theorem dm_134_93 : decode cm_134 93 = .ok (.iconst 5, 1) := by decide +kernel
theorem dm_134_94 : decode cm_134 94 = .ok (.bipush 15, 2) := by decide +kernel
theorem dm_134_96 : decode cm_134 96 = .ok (.iload_n 2, 1) := by decide +kernel
theorem dm_134_97 : decode cm_134 97 = .ok (.invokestatic 49, 3) := by decide +kernel
theorem dm_134_100 : decode cm_134 100 = .ok (.invokestatic 52, 3) := by decide +kernel
theorem dm_134_103 : decode cm_134 103 = .ok (.aload_n 3, 1) := by decide +kernel
theorem dm_134_104 : decode cm_134 104 = .ok (.iload 4, 2) := by decide +kernel
theorem dm_134_106 : decode cm_134 106 = .ok (.iload 5, 2) := by decide +kernel
theorem dm_134_108 : decode cm_134 108 = .ok (.bipush 6, 2) := by decide +kernel
theorem dm_134_110 : decode cm_134 110 = .ok (.iconst 0, 1) := by decide +kernel
theorem dm_134_111 : decode cm_134 111 = .ok (.invokestatic 26, 3) := by decide +kernel
theorem dm_134_114 : decode cm_134 114 = .ok (.invokevirtual 30, 3) := by decide +kernel
theorem dm_134_117 : decode cm_134 117 = .ok (.pop, 1) := by decide +kernel
theorem dm_134_118 : decode cm_134 118 = .ok (.goto 122, 3) := by decide +kernel
theorem dm_134_121 : decode cm_134 121 = .ok (.aload_n 3, 1) := by decide +kernel
theorem dm_134_122 : decode cm_134 122 = .ok (.bipush 7, 2) := by decide +kernel
theorem dm_134_124 : decode cm_134 124 = .ok (.iload 5, 2) := by decide +kernel
theorem dm_134_126 : decode cm_134 126 = .ok (.bipush 31, 2) := by decide +kernel
theorem dm_134_128 : decode cm_134 128 = .ok (.iload_n 2, 1) := by decide +kernel
theorem dm_134_129 : decode cm_134 129 = .ok (.invokestatic 56, 3) := by decide +kernel
theorem dm_134_132 : decode cm_134 132 = .ok (.invokestatic 52, 3) := by decide +kernel
theorem dm_134_135 : decode cm_134 135 = .ok (.aload_n 3, 1) := by decide +kernel
theorem dm_134_136 : decode cm_134 136 = .ok (.iload 4, 2) := by decide +kernel
theorem dm_134_138 : decode cm_134 138 = .ok (.bipush 7, 2) := by decide +kernel
theorem dm_134_140 : decode cm_134 140 = .ok (.iconst 0, 1) := by decide +kernel
theorem dm_134_141 : decode cm_134 141 = .ok (.iconst 0, 1) := by decide +kernel
theorem dm_134_142 : decode cm_134 142 = .ok (.invokestatic 26, 3) := by decide +kernel
theorem dm_134_145 : decode cm_134 145 = .ok (.invokevirtual 30, 3) := by decide +kernel
theorem dm_134_148 : decode cm_134 148 = .ok (.pop, 1) := by decide +kernel
theorem dm_134_149 : decode cm_134 149 = .ok (.goto 91, 3) := by decide +kernel
theorem dm_134_152 : decode cm_134 152 = .ok (.aload_n 3, 1) := by decide +kernel
theorem dm_134_153 : decode cm_134 153 = .ok (.iconst 1, 1) := by decide +kernel
theorem dm_134_154 : decode cm_134 154 = .ok (.iload 5, 2) := by decide +kernel
theorem dm_134_156 : decode cm_134 156 = .ok (.iconst 0, 1) := by decide +kernel
theorem dm_134_157 : decode cm_134 157 = .ok (.iload_n 2, 1) := by decide +kernel
theorem dm_134_158 : decode cm_134 158 = .ok (.invokestatic 56, 3) := by decide +kernel
theorem dm_134_161 : decode cm_134 161 = .ok (.aload_n 0, 1) := by decide +kernel
theorem dm_134_162 : decode cm_134 162 = .ok (.iload 7, 2) := by decide +kernel
theorem dm_134_164 : decode cm_134 164 = .ok (.invokestatic 59, 3) := by decide +kernel
theorem dm_134_167 : decode cm_134 167 = .ok (.iadd, 1) := by decide +kernel
theorem dm_134_168 : decode cm_134 168 = .ok (.invokestatic 26, 3) := by decide +kernel
theorem dm_134_171 : decode cm_134 171 = .ok (.invokevirtual 30, 3) := by decide +kernel
theorem dm_134_174 : decode cm_134 174 = .ok (.pop, 1) := by decide +kernel
theorem dm_134_175 : decode cm_134 175 = .ok (.goto 65, 3) := by decide +kernel
theorem dm_134_178 : decode cm_134 178 = .ok (.aload_n 3, 1) := by decide +kernel
theorem dm_134_179 : decode cm_134 179 = .ok (.iload 4, 2) := by decide +kernel
theorem dm_134_181 : decode cm_134 181 = .ok (.iload 5, 2) := by decide +kernel
theorem dm_134_183 : decode cm_134 183 = .ok (.iload 6, 2) := by decide +kernel
theorem dm_134_185 : decode cm_134 185 = .ok (.aload_n 0, 1) := by decide +kernel
theorem dm_134_186 : decode cm_134 186 = .ok (.iload 7, 2) := by decide +kernel
theorem dm_134_188 : decode cm_134 188 = .ok (.aload_n 3, 1) := by decide +kernel
theorem dm_134_189 : decode cm_134 189 = .ok (.invokestatic 63, 3) := by decide +kernel
theorem dm_134_192 : decode cm_134 192 = .ok (.invokestatic 26, 3) := by decide +kernel
theorem dm_134_195 : decode cm_134 195 = .ok (.invokevirtual 30, 3) := by decide +kernel
theorem dm_134_198 : decode cm_134 198 = .ok (.pop, 1) := by decide +kernel
theorem dm_134_199 : decode cm_134 199 = .ok (.goto 41, 3) := by decide +kernel
theorem dm_134_202 : decode cm_134 202 = .ok (.aload_n 3, 1) := by decide +kernel
theorem dm_134_203 : decode cm_134 203 = .ok (.iload 4, 2) := by decide +kernel
theorem dm_134_205 : decode cm_134 205 = .ok (.iconst 0, 1) := by decide +kernel
theorem dm_134_206 : decode cm_134 206 = .ok (.iconst 0, 1) := by decide +kernel
theorem dm_134_207 : decode cm_134 207 = .ok (.aload_n 0, 1) := by decide +kernel
theorem dm_134_208 : decode cm_134 208 = .ok (.iload 7, 2) := by decide +kernel
theorem dm_134_210 : decode cm_134 210 = .ok (.aload_n 3, 1) := by decide +kernel
theorem dm_134_211 : decode cm_134 211 = .ok (.invokestatic 63, 3) := by decide +kernel
theorem dm_134_214 : decode cm_134 214 = .ok (.invokestatic 26, 3) := by decide +kernel
theorem dm_134_217 : decode cm_134 217 = .ok (.invokevirtual 30, 3) := by decide +kernel
theorem dm_134_220 : decode cm_134 220 = .ok (.pop, 1) := by decide +kernel
end
section
theorem dm_134_221 : decode cm_134 221 = .ok (.goto 19, 3) := by decide +kernel
theorem dm_134_224 : decode cm_134 224 = .ok (.aload_n 3, 1) := by decide +kernel
theorem dm_134_225 : decode cm_134 225 = .ok (.iload 4, 2) := by decide +kernel
theorem dm_134_227 : decode cm_134 227 = .ok (.iload 5, 2) := by decide +kernel
theorem dm_134_229 : decode cm_134 229 = .ok (.iload 6, 2) := by decide +kernel
theorem dm_134_231 : decode cm_134 231 = .ok (.iload 7, 2) := by decide +kernel
theorem dm_134_233 : decode cm_134 233 = .ok (.invokestatic 67, 3) := by decide +kernel
theorem dm_134_236 : decode cm_134 236 = .ok (.invokevirtual 30, 3) := by decide +kernel
theorem dm_134_239 : decode cm_134 239 = .ok (.pop, 1) := by decide +kernel
theorem dm_134_240 : decode cm_134 240 = .ok (.return_, 1) := by decide +kernel
theorem dm_135_0 : decode cm_135 0 = .ok (.aload_n 0, 1) := by decide +kernel
theorem dm_135_1 : decode cm_135 1 = .ok (.bipush 6, 2) := by decide +kernel
theorem dm_135_3 : decode cm_135 3 = .ok (.iload_n 1, 1) := by decide +kernel
theorem dm_135_4 : decode cm_135 4 = .ok (.iload_n 2, 1) := by decide +kernel
theorem dm_135_5 : decode cm_135 5 = .ok (.iload_n 3, 1) := by decide +kernel
theorem dm_135_6 : decode cm_135 6 = .ok (.invokestatic 26, 3) := by decide +kernel
theorem dm_135_9 : decode cm_135 9 = .ok (.invokevirtual 30, 3) := by decide +kernel
theorem dm_135_12 : decode cm_135 12 = .ok (.pop, 1) := by decide +kernel
theorem dm_135_13 : decode cm_135 13 = .ok (.aload_n 0, 1) := by decide +kernel
theorem dm_135_14 : decode cm_135 14 = .ok (.bipush 7, 2) := by decide +kernel
theorem dm_135_16 : decode cm_135 16 = .ok (.iload_n 1, 1) := by decide +kernel
theorem dm_135_17 : decode cm_135 17 = .ok (.iload_n 1, 1) := by decide +kernel
theorem dm_135_18 : decode cm_135 18 = .ok (.iload 4, 2) := by decide +kernel
theorem dm_135_20 : decode cm_135 20 = .ok (.invokestatic 26, 3) := by decide +kernel
theorem dm_135_23 : decode cm_135 23 = .ok (.invokevirtual 30, 3) := by decide +kernel
theorem dm_135_26 : decode cm_135 26 = .ok (.pop, 1) := by decide +kernel
theorem dm_135_27 : decode cm_135 27 = .ok (.return_, 1) := by decide +kernel
theorem dm_136_0 : decode cm_136 0 = .ok (.aload_n 0, 1) := by decide +kernel
theorem dm_136_1 : decode cm_136 1 = .ok (.aload_n 0, 1) := by decide +kernel
theorem dm_136_2 : decode cm_136 2 = .ok (.iload_n 1, 1) := by decide +kernel
theorem dm_136_3 : decode cm_136 3 = .ok (.invokevirtual 70, 3) := by decide +kernel
theorem dm_136_6 : decode cm_136 6 = .ok (.invokevirtual 73, 3) := by decide +kernel
theorem dm_136_9 : decode cm_136 9 = .ok (.ireturn, 1) := by decide +kernel
theorem dm_137_0 : decode cm_137 0 = .ok (.aload_n 0, 1) := by decide +kernel
theorem dm_137_1 : decode cm_137 1 = .ok (.iload_n 1, 1) := by decide +kernel
theorem dm_137_2 : decode cm_137 2 = .ok (.invokestatic 59, 3) := by decide +kernel
theorem dm_137_5 : decode cm_137 5 = .ok (.aload_n 2, 1) := by decide +kernel
theorem dm_137_6 : decode cm_137 6 = .ok (.invokevirtual 76, 3) := by decide +kernel
theorem dm_137_9 : decode cm_137 9 = .ok (.iconst 1, 1) := by decide +kernel
theorem dm_137_10 : decode cm_137 10 = .ok (.iadd, 1) := by decide +kernel
theorem dm_137_11 : decode cm_137 11 = .ok (.isub, 1) := by decide +kernel
theorem dm_137_12 : decode cm_137 12 = .ok (.ireturn, 1) := by decide +kernel
theorem dm_138_0 : decode cm_138 0 = .ok (.iload_n 0, 1) := by decide +kernel
theorem dm_138_1 : decode cm_138 1 = .ok (.tableswitch 103 1 14 #[71, 79, 87, 87, 87, 79, 79, 103, 103, 103, 103, 103, 103, 95], 71) := by decide +kernel
theorem dm_138_72 : decode cm_138 72 = .ok (.iload_n 0, 1) := by decide +kernel
theorem dm_138_73 : decode cm_138 73 = .ok (.iload_n 1, 1) := by decide +kernel
theorem dm_138_74 : decode cm_138 74 = .ok (.iconst 0, 1) := by decide +kernel
theorem dm_138_75 : decode cm_138 75 = .ok (.iload_n 3, 1) := by decide +kernel
theorem dm_138_76 : decode cm_138 76 = .ok (.invokestatic 26, 3) := by decide +kernel
theorem dm_138_79 : decode cm_138 79 = .ok (.ireturn, 1) := by decide +kernel
theorem dm_138_80 : decode cm_138 80 = .ok (.iload_n 0, 1) := by decide +kernel
theorem dm_138_81 : decode cm_138 81 = .ok (.iload_n 1, 1) := by decide +kernel
theorem dm_138_82 : decode cm_138 82 = .ok (.iload_n 2, 1) := by decide +kernel
theorem dm_138_83 : decode cm_138 83 = .ok (.iload_n 3, 1) := by decide +kernel
theorem dm_138_84 : decode cm_138 84 = .ok (.invokestatic 26, 3) := by decide +kernel
theorem dm_138_87 : decode cm_138 87 = .ok (.ireturn, 1) := by decide +kernel
theorem dm_138_88 : decode cm_138 88 = .ok (.iload_n 0, 1) := by decide +kernel
theorem dm_138_89 : decode cm_138 89 = .ok (.iload_n 1, 1) := by decide +kernel
theorem dm_138_90 : decode cm_138 90 = .ok (.iload_n 2, 1) := by decide +kernel
theorem dm_138_91 : decode cm_138 91 = .ok (.iconst 0, 1) := by decide +kernel
theorem dm_138_92 : decode cm_138 92 = .ok (.invokestatic 26, 3) := by decide +kernel
theorem dm_138_95 : decode cm_138 95 = .ok (.ireturn, 1) := by decide +kernel
theorem dm_138_96 : decode cm_138 96 = .ok (.iload_n 0, 1) := by decide +kernel
theorem dm_138_97 : decode cm_138 97 = .ok (.iconst 0, 1) := by decide +kernel
theorem dm_138_98 : decode cm_138 98 = .ok (.iconst 0, 1) := by decide +kernel
theorem dm_138_99 : decode cm_138 99 = .ok (.iload_n 3, 1) := by decide +kernel
theorem dm_138_100 : decode cm_138 100 = .ok (.invokestatic 26, 3) := by decide +kernel
theorem dm_138_103 : decode cm_138 103 = .ok (.ireturn, 1) := by decide +kernel
theorem dm_138_104 : decode cm_138 104 = .ok (.iconst 0, 1) := by decide +kernel
theorem dm_138_105 : decode cm_138 105 = .ok (.iconst 0, 1) := by decide +kernel
theorem dm_138_106 : decode cm_138 106 = .ok (.iconst 0, 1) := by decide +kernel
theorem dm_138_107 : decode cm_138 107 = .ok (.iconst 0, 1) := by decide +kernel
theorem dm_138_108 : decode cm_138 108 = .ok (.invokestatic 26, 3) := by decide +kernel
theorem dm_138_111 : decode cm_138 111 = .ok (.ireturn, 1) := by decide +kernel
theorem dm_139_0 : decode cm_139 0 = .ok (.iconst 0, 1) := by decide +kernel
theorem dm_139_1 : decode cm_139 1 = .ok (.istore_n 2, 1) := by decide +kernel
theorem dm_139_2 : decode cm_139 2 = .ok (.iload_n 2, 1) := by decide +kernel
theorem dm_139_3 : decode cm_139 3 = .ok (.aload_n 0, 1) := by decide +kernel
theorem dm_139_4 : decode cm_139 4 = .ok (.invokevirtual 7, 3) := by decide +kernel
theorem dm_139_7 : decode cm_139 7 = .ok (.if_icmp .ge 28, 3) := by decide +kernel
theorem dm_139_10 : decode cm_139 10 = .ok (.aload_n 0, 1) := by decide +kernel
theorem dm_139_11 : decode cm_139 11 = .ok (.iload_n 2, 1) := by decide +kernel
theorem dm_139_12 : decode cm_139 12 = .ok (.invokestatic 13, 3) := by decide +kernel
theorem dm_139_15 : decode cm_139 15 = .ok (.ifCond .eq 12, 3) := by decide +kernel
theorem dm_139_18 : decode cm_139 18 = .ok (.aload_n 0, 1) := by decide +kernel
theorem dm_139_19 : decode cm_139 19 = .ok (.iload_n 2, 1) := by decide +kernel
theorem dm_139_20 : decode cm_139 20 = .ok (.iload_n 1, 1) := by decide +kernel
theorem dm_139_21 : decode cm_139 21 = .ok (.invokestatic 19, 3) := by decide +kernel
theorem dm_139_24 : decode cm_139 24 = .ok (.ifCond .ne 5, 3) := by decide +kernel
theorem dm_139_27 : decode cm_139 27 = .ok (.iload_n 2, 1) := by decide +kernel
theorem dm_139_28 : decode cm_139 28 = .ok (.ireturn, 1) := by decide +kernel
theorem dm_139_29 : decode cm_139 29 = .ok (.iinc 2 1, 3) := by decide +kernel
theorem dm_139_32 : decode cm_139 32 = .ok (.goto (-30), 3) := by decide +kernel
theorem dm_139_35 : decode cm_139 35 = .ok (.iconst (-1), 1) := by decide +kernel
theorem dm_139_36 : decode cm_139 36 = .ok (.ireturn, 1) := by decide +kernel
theorem dm_140_0 : decode cm_140 0 = .ok (.aload_n 0, 1) := by decide +kernel
theorem dm_140_1 : decode cm_140 1 = .ok (.iload_n 1, 1) := by decide +kernel
theorem dm_140_2 : decode cm_140 2 = .ok (.invokevirtual 23, 3) := by decide +kernel
theorem dm_140_5 : decode cm_140 5 = .ok (.istore_n 2, 1) := by decide +kernel
theorem dm_140_6 : decode cm_140 6 = .ok (.iload_n 2, 1) := by decide +kernel
theorem dm_140_7 : decode cm_140 7 = .ok (.invokestatic 27, 3) := by decide +kernel
theorem dm_140_10 : decode cm_140 10 = .ok (.istore_n 3, 1) := by decide +kernel
theorem dm_140_11 : decode cm_140 11 = .ok (.iload_n 2, 1) := by decide +kernel
theorem dm_140_12 : decode cm_140 12 = .ok (.invokestatic 32, 3) := by decide +kernel
theorem dm_140_15 : decode cm_140 15 = .ok (.tableswitch 112 8 15 #[45, 45, 64, 64, 64, 90, 105, 110], 45) := by decide +kernel
theorem dm_140_60 : decode cm_140 60 = .ok (.iload_n 2, 1) := by decide +kernel
theorem dm_140_61 : decode cm_140 61 = .ok (.invokestatic 35, 3) := by decide +kernel
theorem dm_140_64 : decode cm_140 64 = .ok (.bipush 6, 2) := by decide +kernel
theorem dm_140_66 : decode cm_140 66 = .ok (.if_icmp .ne 11, 3) := by decide +kernel
theorem dm_140_69 : decode cm_140 69 = .ok (.iload_n 3, 1) := by decide +kernel
theorem dm_140_70 : decode cm_140 70 = .ok (.ifCond .ne 7, 3) := by decide +kernel
theorem dm_140_73 : decode cm_140 73 = .ok (.iconst 1, 1) := by decide +kernel
theorem dm_140_74 : decode cm_140 74 = .ok (.goto 4, 3) := by decide +kernel
theorem dm_140_77 : decode cm_140 77 = .ok (.iconst 0, 1) := by decide +kernel
theorem dm_140_78 : decode cm_140 78 = .ok (.ireturn, 1) := by decide +kernel
theorem dm_140_79 : decode cm_140 79 = .ok (.iload_n 1, 1) := by decide +kernel
theorem dm_140_80 : decode cm_140 80 = .ok (.iconst 1, 1) := by decide +kernel
theorem dm_140_81 : decode cm_140 81 = .ok (.iadd, 1) := by decide +kernel
theorem dm_140_82 : decode cm_140 82 = .ok (.iload_n 3, 1) := by decide +kernel
theorem dm_140_83 : decode cm_140 83 = .ok (.iadd, 1) := by decide +kernel
theorem dm_140_84 : decode cm_140 84 = .ok (.ifCond .lt 19, 3) := by decide +kernel
theorem dm_140_87 : decode cm_140 87 = .ok (.iload_n 1, 1) := by decide +kernel
theorem dm_140_88 : decode cm_140 88 = .ok (.iconst 1, 1) := by decide +kernel
theorem dm_140_89 : decode cm_140 89 = .ok (.iadd, 1) := by decide +kernel
theorem dm_140_90 : decode cm_140 90 = .ok (.iload_n 3, 1) := by decide +kernel
theorem dm_140_91 : decode cm_140 91 = .ok (.iadd, 1) := by decide +kernel
theorem dm_140_92 : decode cm_140 92 = .ok (.aload_n 0, 1) := by decide +kernel
theorem dm_140_93 : decode cm_140 93 = .ok (.invokevirtual 7, 3) := by decide +kernel
theorem dm_140_96 : decode cm_140 96 = .ok (.if_icmp .ge 7, 3) := by decide +kernel
theorem dm_140_99 : decode cm_140 99 = .ok (.iconst 1, 1) := by decide +kernel
theorem dm_140_100 : decode cm_140 100 = .ok (.goto 4, 3) := by decide +kernel
theorem dm_140_103 : decode cm_140 103 = .ok (.iconst 0, 1) := by decide +kernel
theorem dm_140_104 : decode cm_140 104 = .ok (.ireturn, 1) := by decide +kernel
theorem dm_140_105 : decode cm_140 105 = .ok (.iload_n 2, 1) := by decide +kernel
theorem dm_140_106 : decode cm_140 106 = .ok (.invokestatic 40, 3) := by decide +kernel
theorem dm_140_109 : decode cm_140 109 = .ok (.bipush 7, 2) := by decide +kernel
theorem dm_140_111 : decode cm_140 111 = .ok (.if_icmp .ne 7, 3) := by decide +kernel
theorem dm_140_114 : decode cm_140 114 = .ok (.iconst 1, 1) := by decide +kernel
theorem dm_140_115 : decode cm_140 115 = .ok (.goto 4, 3) := by decide +kernel
theorem dm_140_118 : decode cm_140 118 = .ok (.iconst 0, 1) := by decide +kernel
theorem dm_140_119 : decode cm_140 119 = .ok (.ireturn, 1) := by decide +kernel
theorem dm_140_120 : decode cm_140 120 = .ok (.iload_n 3, 1) := by decide +kernel
theorem dm_140_121 : decode cm_140 121 = .ok (.invokestatic 43, 3) := by decide +kernel
theorem dm_140_124 : decode cm_140 124 = .ok (.ireturn, 1) := by decide +kernel
theorem dm_140_125 : decode cm_140 125 = .ok (.iconst 0, 1) := by decide +kernel
theorem dm_140_126 : decode cm_140 126 = .ok (.ireturn, 1) := by decide +kernel
theorem dm_140_127 : decode cm_140 127 = .ok (.iconst 1, 1) := by decide +kernel
theorem dm_140_128 : decode cm_140 128 = .ok (.ireturn, 1) := by decide +kernel
theorem dm_141_0 : decode cm_141 0 = .ok (.aload_n 0, 1) := by decide +kernel
theorem dm_141_1 : decode cm_141 1 = .ok (.iload_n 1, 1) := by decide +kernel
theorem dm_141_2 : decode cm_141 2 = .ok (.invokevirtual 23, 3) := by decide +kernel
theorem dm_141_5 : decode cm_141 5 = .ok (.invokestatic 32, 3) := by decide +kernel
theorem dm_141_8 : decode cm_141 8 = .ok (.istore_n 3, 1) := by decide +kernel
theorem dm_141_9 : decode cm_141 9 = .ok (.aload_n 0, 1) := by decide +kernel
theorem dm_141_10 : decode cm_141 10 = .ok (.iload_n 1, 1) := by decide +kernel
theorem dm_141_11 : decode cm_141 11 = .ok (.invokevirtual 23, 3) := by decide +kernel
theorem dm_141_14 : decode cm_141 14 = .ok (.invokestatic 40, 3) := by decide +kernel
theorem dm_141_17 : decode cm_141 17 = .ok (.istore 4, 2) := by decide +kernel
theorem dm_141_19 : decode cm_141 19 = .ok (.iload_n 3, 1) := by decide +kernel
theorem dm_141_20 : decode cm_141 20 = .ok (.iconst 1, 1) := by decide +kernel
theorem dm_141_21 : decode cm_141 21 = .ok (.if_icmp .lt 9, 3) := by decide +kernel
theorem dm_141_24 : decode cm_141 24 = .ok (.iload_n 3, 1) := by decide +kernel
theorem dm_141_25 : decode cm_141 25 = .ok (.bipush 8, 2) := by decide +kernel
theorem dm_141_27 : decode cm_141 27 = .ok (.if_icmp .le 5, 3) := by decide +kernel
theorem dm_141_30 : decode cm_141 30 = .ok (.iconst 1, 1) := by decide +kernel
theorem dm_141_31 : decode cm_141 31 = .ok (.ireturn, 1) := by decide +kernel
theorem dm_141_32 : decode cm_141 32 = .ok (.iload 4, 2) := by decide +kernel
theorem dm_141_34 : decode cm_141 34 = .ok (.bipush 6, 2) := by decide +kernel
theorem dm_141_36 : decode cm_141 36 = .ok (.if_icmp .ne 15, 3) := by decide +kernel
theorem dm_141_39 : decode cm_141 39 = .ok (.aload_n 0, 1) := by decide +kernel
theorem dm_141_40 : decode cm_141 40 = .ok (.iload_n 1, 1) := by decide +kernel
theorem dm_141_41 : decode cm_141 41 = .ok (.bipush 15, 2) := by decide +kernel
theorem dm_141_43 : decode cm_141 43 = .ok (.iload_n 2, 1) := by decide +kernel
theorem dm_141_44 : decode cm_141 44 = .ok (.invokestatic 49, 3) := by decide +kernel
theorem dm_141_47 : decode cm_141 47 = .ok (.invokestatic 52, 3) := by decide +kernel
theorem dm_141_50 : decode cm_141 50 = .ok (.ireturn, 1) := by decide +kernel
theorem dm_141_51 : decode cm_141 51 = .ok (.iload 4, 2) := by decide +kernel
theorem dm_141_53 : decode cm_141 53 = .ok (.bipush 7, 2) := by decide +kernel
theorem dm_141_55 : decode cm_141 55 = .ok (.if_icmp .ne 15, 3) := by decide +kernel
theorem dm_141_58 : decode cm_141 58 = .ok (.aload_n 0, 1) := by decide +kernel
theorem dm_141_59 : decode cm_141 59 = .ok (.iload_n 1, 1) := by decide +kernel
theorem dm_141_60 : decode cm_141 60 = .ok (.bipush 31, 2) := by decide +kernel
theorem dm_141_62 : decode cm_141 62 = .ok (.iload_n 2, 1) := by decide +kernel
theorem dm_141_63 : decode cm_141 63 = .ok (.invokestatic 56, 3) := by decide +kernel
theorem dm_141_66 : decode cm_141 66 = .ok (.invokestatic 52, 3) := by decide +kernel
theorem dm_141_69 : decode cm_141 69 = .ok (.ireturn, 1) := by decide +kernel
theorem dm_141_70 : decode cm_141 70 = .ok (.iconst 1, 1) := by decide +kernel
theorem dm_141_71 : decode cm_141 71 = .ok (.ireturn, 1) := by decide +kernel
theorem dm_142_0 : decode cm_142 0 = .ok (.aload_n 0, 1) := by decide +kernel
theorem dm_142_1 : decode cm_142 1 = .ok (.iload_n 1, 1) := by decide +kernel
theorem dm_142_2 : decode cm_142 2 = .ok (.invokevirtual 23, 3) := by decide +kernel
theorem dm_142_5 : decode cm_142 5 = .ok (.istore 4, 2) := by decide +kernel
theorem dm_142_7 : decode cm_142 7 = .ok (.iload 4, 2) := by decide +kernel
theorem dm_142_9 : decode cm_142 9 = .ok (.invokestatic 40, 3) := by decide +kernel
theorem dm_142_12 : decode cm_142 12 = .ok (.istore 5, 2) := by decide +kernel
theorem dm_142_14 : decode cm_142 14 = .ok (.bipush 7, 2) := by decide +kernel
theorem dm_142_16 : decode cm_142 16 = .ok (.iload 5, 2) := by decide +kernel
theorem dm_142_18 : decode cm_142 18 = .ok (.iload 5, 2) := by decide +kernel
theorem dm_142_20 : decode cm_142 20 = .ok (.iload_n 3, 1) := by decide +kernel
theorem dm_142_21 : decode cm_142 21 = .ok (.invokestatic 59, 3) := by decide +kernel
theorem dm_142_24 : decode cm_142 24 = .ok (.istore 6, 2) := by decide +kernel
theorem dm_142_26 : decode cm_142 26 = .ok (.iload 4, 2) := by decide +kernel
theorem dm_142_28 : decode cm_142 28 = .ok (.iload 6, 2) := by decide +kernel
theorem dm_142_30 : decode cm_142 30 = .ok (.if_icmp .ne 5, 3) := by decide +kernel
theorem dm_142_33 : decode cm_142 33 = .ok (.iconst 1, 1) := by decide +kernel
theorem dm_142_34 : decode cm_142 34 = .ok (.ireturn, 1) := by decide +kernel
theorem dm_142_35 : decode cm_142 35 = .ok (.iload 4, 2) := by decide +kernel
theorem dm_142_37 : decode cm_142 37 = .ok (.invokestatic 32, 3) := by decide +kernel
theorem dm_142_40 : decode cm_142 40 = .ok (.bipush 6, 2) := by decide +kernel
theorem dm_142_42 : decode cm_142 42 = .ok (.if_icmp .ne 28, 3) := by decide +kernel
theorem dm_142_45 : decode cm_142 45 = .ok (.iload 4, 2) := by decide +kernel
theorem dm_142_47 : decode cm_142 47 = .ok (.invokestatic 27, 3) := by decide +kernel
theorem dm_142_50 : decode cm_142 50 = .ok (.iload_n 2, 1) := by decide +kernel
theorem dm_142_51 : decode cm_142 51 = .ok (.if_icmp .ne 19, 3) := by decide +kernel
theorem dm_142_54 : decode cm_142 54 = .ok (.aload_n 0, 1) := by decide +kernel
theorem dm_142_55 : decode cm_142 55 = .ok (.iload_n 1, 1) := by decide +kernel
theorem dm_142_56 : decode cm_142 56 = .ok (.iconst 1, 1) := by decide +kernel
theorem dm_142_57 : decode cm_142 57 = .ok (.iadd, 1) := by decide +kernel
theorem dm_142_58 : decode cm_142 58 = .ok (.invokevirtual 23, 3) := by decide +kernel
theorem dm_142_61 : decode cm_142 61 = .ok (.iload 6, 2) := by decide +kernel
theorem dm_142_63 : decode cm_142 63 = .ok (.if_icmp .ne 7, 3) := by decide +kernel
theorem dm_142_66 : decode cm_142 66 = .ok (.iconst 1, 1) := by decide +kernel
theorem dm_142_67 : decode cm_142 67 = .ok (.goto 4, 3) := by decide +kernel
theorem dm_142_70 : decode cm_142 70 = .ok (.iconst 0, 1) := by decide +kernel
theorem dm_142_71 : decode cm_142 71 = .ok (.ireturn, 1) := by decide +kernel
theorem dm_143_0 : decode cm_143 0 = .ok (.iload_n 0, 1) := by decide +kernel
theorem dm_143_1 : decode cm_143 1 = .ok (.bipush 15, 2) := by decide +kernel
theorem dm_143_3 : decode cm_143 3 = .ok (.iand, 1) := by decide +kernel
theorem dm_143_4 : decode cm_143 4 = .ok (.ireturn, 1) := by decide +kernel
theorem dm_144_0 : decode cm_144 0 = .ok (.iload_n 0, 1) := by decide +kernel
theorem dm_144_1 : decode cm_144 1 = .ok (.iconst 4, 1) := by decide +kernel
theorem dm_144_2 : decode cm_144 2 = .ok (.ishr, 1) := by decide +kernel
theorem dm_144_3 : decode cm_144 3 = .ok (.bipush 7, 2) := by decide +kernel
theorem dm_144_5 : decode cm_144 5 = .ok (.iand, 1) := by decide +kernel
theorem dm_144_6 : decode cm_144 6 = .ok (.ireturn, 1) := by decide +kernel
theorem dm_145_0 : decode cm_145 0 = .ok (.iload_n 0, 1) := by decide +kernel
theorem dm_145_1 : decode cm_145 1 = .ok (.bipush 7, 2) := by decide +kernel
theorem dm_145_3 : decode cm_145 3 = .ok (.ishr, 1) := by decide +kernel
theorem dm_145_4 : decode cm_145 4 = .ok (.bipush 7, 2) := by decide +kernel
theorem dm_145_6 : decode cm_145 6 = .ok (.iand, 1) := by decide +kernel
theorem dm_145_7 : decode cm_145 7 = .ok (.ireturn, 1) := by decide +kernel
theorem dm_146_0 : decode cm_146 0 = .ok (.iload_n 0, 1) := by decide +kernel
theorem dm_146_1 : decode cm_146 1 = .ok (.bipush 10, 2) := by decide +kernel
theorem dm_146_3 : decode cm_146 3 = .ok (.ishr, 1) := by decide +kernel
theorem dm_146_4 : decode cm_146 4 = .ok (.ireturn, 1) := by decide +kernel
theorem dm_147_0 : decode cm_147 0 = .ok (.iload_n 3, 1) := by decide +kernel
theorem dm_147_1 : decode cm_147 1 = .ok (.bipush 10, 2) := by decide +kernel
theorem dm_147_3 : decode cm_147 3 = .ok (.ishl, 1) := by decide +kernel
theorem dm_147_4 : decode cm_147 4 = .ok (.iload_n 2, 1) := by decide +kernel
theorem dm_147_5 : decode cm_147 5 = .ok (.bipush 7, 2) := by decide +kernel
theorem dm_147_7 : decode cm_147 7 = .ok (.ishl, 1) := by decide +kernel
theorem dm_147_8 : decode cm_147 8 = .ok (.ior, 1) := by decide +kernel
theorem dm_147_9 : decode cm_147 9 = .ok (.iload_n 1, 1) := by decide +kernel
theorem dm_147_10 : decode cm_147 10 = .ok (.iconst 4, 1) := by decide +kernel
theorem dm_147_11 : decode cm_147 11 = .ok (.ishl, 1) := by decide +kernel
theorem dm_147_12 : decode cm_147 12 = .ok (.ior, 1) := by decide +kernel
theorem dm_147_13 : decode cm_147 13 = .ok (.iload_n 0, 1) := by decide +kernel
theorem dm_147_14 : decode cm_147 14 = .ok (.ior, 1) := by decide +kernel
theorem dm_147_15 : decode cm_147 15 = .ok (.ireturn, 1) := by decide +kernel
theorem dm_148_0 : decode cm_148 0 = .ok (.iload_n 0, 1) := by decide +kernel
theorem dm_148_1 : decode cm_148 1 = .ok (.tableswitch 69 1 7 #[43, 45, 49, 53, 57, 61, 65], 43) := by decide +kernel
theorem dm_148_44 : decode cm_148 44 = .ok (.iload_n 3, 1) := by decide +kernel
theorem dm_148_45 : decode cm_148 45 = .ok (.ireturn, 1) := by decide +kernel
theorem dm_148_46 : decode cm_148 46 = .ok (.iload_n 2, 1) := by decide +kernel
theorem dm_148_47 : decode cm_148 47 = .ok (.iload_n 3, 1) := by decide +kernel
theorem dm_148_48 : decode cm_148 48 = .ok (.iadd, 1) := by decide +kernel
theorem dm_148_49 : decode cm_148 49 = .ok (.ireturn, 1) := by decide +kernel
theorem dm_148_50 : decode cm_148 50 = .ok (.iload_n 1, 1) := by decide +kernel
theorem dm_148_51 : decode cm_148 51 = .ok (.iload_n 2, 1) := by decide +kernel
theorem dm_148_52 : decode cm_148 52 = .ok (.iadd, 1) := by decide +kernel
theorem dm_148_53 : decode cm_148 53 = .ok (.ireturn, 1) := by decide +kernel
theorem dm_148_54 : decode cm_148 54 = .ok (.iload_n 1, 1) := by decide +kernel
theorem dm_148_55 : decode cm_148 55 = .ok (.iload_n 2, 1) := by decide +kernel
theorem dm_148_56 : decode cm_148 56 = .ok (.isub, 1) := by decide +kernel
theorem dm_148_57 : decode cm_148 57 = .ok (.ireturn, 1) := by decide +kernel
theorem dm_148_58 : decode cm_148 58 = .ok (.iload_n 1, 1) := by decide +kernel
theorem dm_148_59 : decode cm_148 59 = .ok (.iload_n 2, 1) := by decide +kernel
theorem dm_148_60 : decode cm_148 60 = .ok (.ixor, 1) := by decide +kernel
theorem dm_148_61 : decode cm_148 61 = .ok (.ireturn, 1) := by decide +kernel
theorem dm_148_62 : decode cm_148 62 = .ok (.iload_n 2, 1) := by decide +kernel
theorem dm_148_63 : decode cm_148 63 = .ok (.iload_n 3, 1) := by decide +kernel
theorem dm_148_64 : decode cm_148 64 = .ok (.iand, 1) := by decide +kernel
theorem dm_148_65 : decode cm_148 65 = .ok (.ireturn, 1) := by decide +kernel
theorem dm_148_66 : decode cm_148 66 = .ok (.iload_n 2, 1) := by decide +kernel
theorem dm_148_67 : decode cm_148 67 = .ok (.iload_n 3, 1) := by decide +kernel
theorem dm_148_68 : decode cm_148 68 = .ok (.ior, 1) := by decide +kernel
theorem dm_148_69 : decode cm_148 69 = .ok (.ireturn, 1) := by decide +kernel
theorem dm_148_70 : decode cm_148 70 = .ok (.iload_n 1, 1) := by decide +kernel
theorem dm_148_71 : decode cm_148 71 = .ok (.ireturn, 1) := by decide +kernel
theorem dm_149_0 : decode cm_149 0 = .ok (.iload_n 0, 1) := by decide +kernel
theorem dm_149_1 : decode cm_149 1 = .ok (.bipush 12, 2) := by decide +kernel
theorem dm_149_3 : decode cm_149 3 = .ok (.if_icmp .eq 25, 3) := by decide +kernel
theorem dm_149_6 : decode cm_149 6 = .ok (.iload_n 0, 1) := by decide +kernel
theorem dm_149_7 : decode cm_149 7 = .ok (.bipush 10, 2) := by decide +kernel
theorem dm_149_9 : decode cm_149 9 = .ok (.if_icmp .ne 8, 3) := by decide +kernel
theorem dm_149_12 : decode cm_149 12 = .ok (.iload_n 1, 1) := by decide +kernel
theorem dm_149_13 : decode cm_149 13 = .ok (.iload_n 2, 1) := by decide +kernel
theorem dm_149_14 : decode cm_149 14 = .ok (.if_icmp .eq 14, 3) := by decide +kernel
theorem dm_149_17 : decode cm_149 17 = .ok (.iload_n 0, 1) := by decide +kernel
theorem dm_149_18 : decode cm_149 18 = .ok (.bipush 11, 2) := by decide +kernel
theorem dm_149_20 : decode cm_149 20 = .ok (.if_icmp .ne 12, 3) := by decide +kernel
theorem dm_149_23 : decode cm_149 23 = .ok (.iload_n 1, 1) := by decide +kernel
theorem dm_149_24 : decode cm_149 24 = .ok (.iload_n 2, 1) := by decide +kernel
theorem dm_149_25 : decode cm_149 25 = .ok (.if_icmp .ge 7, 3) := by decide +kernel
theorem dm_149_28 : decode cm_149 28 = .ok (.iconst 1, 1) := by decide +kernel
theorem dm_149_29 : decode cm_149 29 = .ok (.goto 4, 3) := by decide +kernel
theorem dm_149_32 : decode cm_149 32 = .ok (.iconst 0, 1) := by decide +kernel
theorem dm_149_33 : decode cm_149 33 = .ok (.ireturn, 1) := by decide +kernel
theorem dm_150_0 : decode cm_150 0 = .ok (.iconst 0, 1) := by decide +kernel
theorem dm_150_1 : decode cm_150 1 = .ok (.istore_n 2, 1) := by decide +kernel
theorem dm_150_2 : decode cm_150 2 = .ok (.aload_n 0, 1) := by decide +kernel
theorem dm_150_3 : decode cm_150 3 = .ok (.arraylength, 1) := by decide +kernel
theorem dm_150_4 : decode cm_150 4 = .ok (.istore_n 3, 1) := by decide +kernel
theorem dm_150_5 : decode cm_150 5 = .ok (.iload_n 2, 1) := by decide +kernel
theorem dm_150_6 : decode cm_150 6 = .ok (.iload_n 3, 1) := by decide +kernel
theorem dm_150_7 : decode cm_150 7 = .ok (.if_icmp .ge 13, 3) := by decide +kernel
theorem dm_150_10 : decode cm_150 10 = .ok (.aload_n 0, 1) := by decide +kernel
theorem dm_150_11 : decode cm_150 11 = .ok (.iload_n 2, 1) := by decide +kernel
theorem dm_150_12 : decode cm_150 12 = .ok (.iload_n 1, 1) := by decide +kernel
theorem dm_150_13 : decode cm_150 13 = .ok (.iastore, 1) := by decide +kernel
theorem dm_150_14 : decode cm_150 14 = .ok (.iinc 2 1, 3) := by decide +kernel
theorem dm_150_17 : decode cm_150 17 = .ok (.goto (-12), 3) := by decide +kernel
theorem dm_150_20 : decode cm_150 20 = .ok (.return_, 1) := by decide +kernel
theorem dl_0 : decode code 0 = .ok (.new 7, 3) := by decide +kernel
theorem dl_3 : decode code 3 = .ok (.dup, 1) := by decide +kernel
theorem dl_4 : decode code 4 = .ok (.invokespecial 9, 3) := by decide +kernel
theorem dl_7 : decode code 7 = .ok (.astore_n 1, 1) := by decide +kernel
theorem dl_8 : decode code 8 = .ok (.new 10, 3) := by decide +kernel
theorem dl_11 : decode code 11 = .ok (.dup, 1) := by decide +kernel
theorem dl_12 : decode code 12 = .ok (.invokespecial 12, 3) := by decide +kernel
theorem dl_15 : decode code 15 = .ok (.astore_n 2, 1) := by decide +kernel
theorem dl_16 : decode code 16 = .ok (.iconst 0, 1) := by decide +kernel
theorem dl_17 : decode code 17 = .ok (.istore_n 3, 1) := by decide +kernel
theorem dl_18 : decode code 18 = .ok (.iload_n 3, 1) := by decide +kernel
theorem dl_19 : decode code 19 = .ok (.aload_n 0, 1) := by decide +kernel
theorem dl_20 : decode code 20 = .ok (.arraylength, 1) := by decide +kernel
theorem dl_21 : decode code 21 = .ok (.iconst 5, 1) := by decide +kernel
theorem dl_22 : decode code 22 = .ok (.isub, 1) := by decide +kernel
theorem dl_23 : decode code 23 = .ok (.if_icmp .gt 605, 3) := by decide +kernel
theorem dl_26 : decode code 26 = .ok (.aload_n 0, 1) := by decide +kernel
theorem dl_27 : decode code 27 = .ok (.iload_n 3, 1) := by decide +kernel
theorem dl_28 : decode code 28 = .ok (.iaload, 1) := by decide +kernel
theorem dl_29 : decode code 29 = .ok (.bipush 31, 2) := by decide +kernel
theorem dl_31 : decode code 31 = .ok (.iand, 1) := by decide +kernel
theorem dl_32 : decode code 32 = .ok (.tableswitch 590 0 17 #[88, 141, 164, 175, 198, 221, 244, 267, 290, 323, 346, 369, 392, 425, 448, 481, 524, 557], 88) := by decide +kernel
theorem dl_120 : decode code 120 = .ok (.aload_n 1, 1) := by decide +kernel
theorem dl_121 : decode code 121 = .ok (.aload_n 0, 1) := by decide +kernel
theorem dl_122 : decode code 122 = .ok (.iload_n 3, 1) := by decide +kernel
theorem dl_123 : decode code 123 = .ok (.iconst 1, 1) := by decide +kernel
theorem dl_124 : decode code 124 = .ok (.iadd, 1) := by decide +kernel
theorem dl_125 : decode code 125 = .ok (.iaload, 1) := by decide +kernel
theorem dl_126 : decode code 126 = .ok (.aload_n 0, 1) := by decide +kernel
theorem dl_127 : decode code 127 = .ok (.iload_n 3, 1) := by decide +kernel
theorem dl_128 : decode code 128 = .ok (.iconst 2, 1) := by decide +kernel
theorem dl_129 : decode code 129 = .ok (.iadd, 1) := by decide +kernel
theorem dl_130 : decode code 130 = .ok (.iaload, 1) := by decide +kernel
theorem dl_131 : decode code 131 = .ok (.aload_n 0, 1) := by decide +kernel
theorem dl_132 : decode code 132 = .ok (.iload_n 3, 1) := by decide +kernel
theorem dl_133 : decode code 133 = .ok (.iconst 3, 1) := by decide +kernel
theorem dl_134 : decode code 134 = .ok (.iadd, 1) := by decide +kernel
theorem dl_135 : decode code 135 = .ok (.iaload, 1) := by decide +kernel
theorem dl_136 : decode code 136 = .ok (.aload_n 0, 1) := by decide +kernel
theorem dl_137 : decode code 137 = .ok (.iload_n 3, 1) := by decide +kernel
theorem dl_138 : decode code 138 = .ok (.iconst 4, 1) := by decide +kernel
theorem dl_139 : decode code 139 = .ok (.iadd, 1) := by decide +kernel
theorem dl_140 : decode code 140 = .ok (.iaload, 1) := by decide +kernel
theorem dl_141 : decode code 141 = .ok (.invokevirtual 13, 3) := by decide +kernel
theorem dl_144 : decode code 144 = .ok (.aload_n 2, 1) := by decide +kernel
theorem dl_145 : decode code 145 = .ok (.aload_n 0, 1) := by decide +kernel
theorem dl_146 : decode code 146 = .ok (.iload_n 3, 1) := by decide +kernel
theorem dl_147 : decode code 147 = .ok (.iconst 1, 1) := by decide +kernel
theorem dl_148 : decode code 148 = .ok (.iadd, 1) := by decide +kernel
theorem dl_149 : decode code 149 = .ok (.iaload, 1) := by decide +kernel
theorem dl_150 : decode code 150 = .ok (.aload_n 0, 1) := by decide +kernel
theorem dl_151 : decode code 151 = .ok (.iload_n 3, 1) := by decide +kernel
theorem dl_152 : decode code 152 = .ok (.iconst 2, 1) := by decide +kernel
theorem dl_153 : decode code 153 = .ok (.iadd, 1) := by decide +kernel
theorem dl_154 : decode code 154 = .ok (.iaload, 1) := by decide +kernel
theorem dl_155 : decode code 155 = .ok (.aload_n 0, 1) := by decide +kernel
theorem dl_156 : decode code 156 = .ok (.iload_n 3, 1) := by decide +kernel
theorem dl_157 : decode code 157 = .ok (.iconst 3, 1) := by decide +kernel
theorem dl_158 : decode code 158 = .ok (.iadd, 1) := by decide +kernel
theorem dl_159 : decode code 159 = .ok (.iaload, 1) := by decide +kernel
theorem dl_160 : decode code 160 = .ok (.aload_n 0, 1) := by decide +kernel
theorem dl_161 : decode code 161 = .ok (.iload_n 3, 1) := by decide +kernel
theorem dl_162 : decode code 162 = .ok (.iconst 4, 1) := by decide +kernel
theorem dl_163 : decode code 163 = .ok (.iadd, 1) := by decide +kernel
theorem dl_164 : decode code 164 = .ok (.iaload, 1) := by decide +kernel
theorem dl_165 : decode code 165 = .ok (.invokevirtual 17, 3) := by decide +kernel
theorem dl_168 : decode code 168 = .ok (.if_icmp .eq 454, 3) := by decide +kernel
theorem dl_171 : decode code 171 = .ok (.iconst 0, 1) := by decide +kernel
theorem dl_172 : decode code 172 = .ok (.ireturn, 1) := by decide +kernel
theorem dl_173 : decode code 173 = .ok (.aload_n 1, 1) := by decide +kernel
theorem dl_174 : decode code 174 = .ok (.aload_n 0, 1) := by decide +kernel
theorem dl_175 : decode code 175 = .ok (.iload_n 3, 1) := by decide +kernel
theorem dl_176 : decode code 176 = .ok (.iconst 1, 1) := by decide +kernel
theorem dl_177 : decode code 177 = .ok (.iadd, 1) := by decide +kernel
theorem dl_178 : decode code 178 = .ok (.iaload, 1) := by decide +kernel
theorem dl_179 : decode code 179 = .ok (.invokevirtual 18, 3) := by decide +kernel
theorem dl_182 : decode code 182 = .ok (.aload_n 2, 1) := by decide +kernel
theorem dl_183 : decode code 183 = .ok (.aload_n 0, 1) := by decide +kernel
theorem dl_184 : decode code 184 = .ok (.iload_n 3, 1) := by decide +kernel
theorem dl_185 : decode code 185 = .ok (.iconst 1, 1) := by decide +kernel
theorem dl_186 : decode code 186 = .ok (.iadd, 1) := by decide +kernel
theorem dl_187 : decode code 187 = .ok (.iaload, 1) := by decide +kernel
theorem dl_188 : decode code 188 = .ok (.invokevirtual 22, 3) := by decide +kernel
theorem dl_191 : decode code 191 = .ok (.if_icmp .eq 431, 3) := by decide +kernel
theorem dl_194 : decode code 194 = .ok (.iconst 0, 1) := by decide +kernel
theorem dl_195 : decode code 195 = .ok (.ireturn, 1) := by decide +kernel
theorem dl_196 : decode code 196 = .ok (.aload_n 1, 1) := by decide +kernel
theorem dl_197 : decode code 197 = .ok (.invokevirtual 23, 3) := by decide +kernel
theorem dl_200 : decode code 200 = .ok (.aload_n 2, 1) := by decide +kernel
theorem dl_201 : decode code 201 = .ok (.invokevirtual 26, 3) := by decide +kernel
theorem dl_204 : decode code 204 = .ok (.goto 418, 3) := by decide +kernel
theorem dl_207 : decode code 207 = .ok (.aload_n 1, 1) := by decide +kernel
theorem dl_208 : decode code 208 = .ok (.aload_n 0, 1) := by decide +kernel
theorem dl_209 : decode code 209 = .ok (.iload_n 3, 1) := by decide +kernel
theorem dl_210 : decode code 210 = .ok (.iconst 1, 1) := by decide +kernel
theorem dl_211 : decode code 211 = .ok (.iadd, 1) := by decide +kernel
theorem dl_212 : decode code 212 = .ok (.iaload, 1) := by decide +kernel
theorem dl_213 : decode code 213 = .ok (.invokevirtual 27, 3) := by decide +kernel
theorem dl_216 : decode code 216 = .ok (.aload_n 2, 1) := by decide +kernel
theorem dl_217 : decode code 217 = .ok (.aload_n 0, 1) := by decide +kernel
theorem dl_218 : decode code 218 = .ok (.iload_n 3, 1) := by decide +kernel
theorem dl_219 : decode code 219 = .ok (.iconst 1, 1) := by decide +kernel
theorem dl_220 : decode code 220 = .ok (.iadd, 1) := by decide +kernel
theorem dl_221 : decode code 221 = .ok (.iaload, 1) := by decide +kernel
theorem dl_222 : decode code 222 = .ok (.invokevirtual 31, 3) := by decide +kernel
theorem dl_225 : decode code 225 = .ok (.if_icmp .eq 397, 3) := by decide +kernel
theorem dl_228 : decode code 228 = .ok (.iconst 0, 1) := by decide +kernel
theorem dl_229 : decode code 229 = .ok (.ireturn, 1) := by decide +kernel
theorem dl_230 : decode code 230 = .ok (.aload_n 1, 1) := by decide +kernel
theorem dl_231 : decode code 231 = .ok (.aload_n 0, 1) := by decide +kernel
theorem dl_232 : decode code 232 = .ok (.iload_n 3, 1) := by decide +kernel
theorem dl_233 : decode code 233 = .ok (.iconst 1, 1) := by decide +kernel
theorem dl_234 : decode code 234 = .ok (.iadd, 1) := by decide +kernel
theorem dl_235 : decode code 235 = .ok (.iaload, 1) := by decide +kernel
theorem dl_236 : decode code 236 = .ok (.invokevirtual 32, 3) := by decide +kernel
theorem dl_239 : decode code 239 = .ok (.aload_n 2, 1) := by decide +kernel
theorem dl_240 : decode code 240 = .ok (.aload_n 0, 1) := by decide +kernel
theorem dl_241 : decode code 241 = .ok (.iload_n 3, 1) := by decide +kernel
theorem dl_242 : decode code 242 = .ok (.iconst 1, 1) := by decide +kernel
theorem dl_243 : decode code 243 = .ok (.iadd, 1) := by decide +kernel
theorem dl_244 : decode code 244 = .ok (.iaload, 1) := by decide +kernel
theorem dl_245 : decode code 245 = .ok (.invokevirtual 35, 3) := by decide +kernel
theorem dl_248 : decode code 248 = .ok (.if_icmp .eq 374, 3) := by decide +kernel
theorem dl_251 : decode code 251 = .ok (.iconst 0, 1) := by decide +kernel
theorem dl_252 : decode code 252 = .ok (.ireturn, 1) := by decide +kernel
theorem dl_253 : decode code 253 = .ok (.aload_n 1, 1) := by decide +kernel
theorem dl_254 : decode code 254 = .ok (.aload_n 0, 1) := by decide +kernel
theorem dl_255 : decode code 255 = .ok (.iload_n 3, 1) := by decide +kernel
theorem dl_256 : decode code 256 = .ok (.iconst 1, 1) := by decide +kernel
theorem dl_257 : decode code 257 = .ok (.iadd, 1) := by decide +kernel
theorem dl_258 : decode code 258 = .ok (.iaload, 1) := by decide +kernel
theorem dl_259 : decode code 259 = .ok (.invokevirtual 36, 3) := by decide +kernel
theorem dl_262 : decode code 262 = .ok (.aload_n 2, 1) := by decide +kernel
theorem dl_263 : decode code 263 = .ok (.aload_n 0, 1) := by decide +kernel
theorem dl_264 : decode code 264 = .ok (.iload_n 3, 1) := by decide +kernel
theorem dl_265 : decode code 265 = .ok (.iconst 1, 1) := by decide +kernel
theorem dl_266 : decode code 266 = .ok (.iadd, 1) := by decide +kernel
theorem dl_267 : decode code 267 = .ok (.iaload, 1) := by decide +kernel
theorem dl_268 : decode code 268 = .ok (.invokevirtual 39, 3) := by decide +kernel
theorem dl_271 : decode code 271 = .ok (.if_icmp .eq 351, 3) := by decide +kernel
theorem dl_274 : decode code 274 = .ok (.iconst 0, 1) := by decide +kernel
theorem dl_275 : decode code 275 = .ok (.ireturn, 1) := by decide +kernel
theorem dl_276 : decode code 276 = .ok (.aload_n 1, 1) := by decide +kernel
theorem dl_277 : decode code 277 = .ok (.aload_n 0, 1) := by decide +kernel
theorem dl_278 : decode code 278 = .ok (.iload_n 3, 1) := by decide +kernel
theorem dl_279 : decode code 279 = .ok (.iconst 1, 1) := by decide +kernel
theorem dl_280 : decode code 280 = .ok (.iadd, 1) := by decide +kernel
theorem dl_281 : decode code 281 = .ok (.iaload, 1) := by decide +kernel
theorem dl_282 : decode code 282 = .ok (.invokevirtual 40, 3) := by decide +kernel
theorem dl_285 : decode code 285 = .ok (.aload_n 2, 1) := by decide +kernel
theorem dl_286 : decode code 286 = .ok (.aload_n 0, 1) := by decide +kernel
theorem dl_287 : decode code 287 = .ok (.iload_n 3, 1) := by decide +kernel
theorem dl_288 : decode code 288 = .ok (.iconst 1, 1) := by decide +kernel
theorem dl_289 : decode code 289 = .ok (.iadd, 1) := by decide +kernel
theorem dl_290 : decode code 290 = .ok (.iaload, 1) := by decide +kernel
theorem dl_291 : decode code 291 = .ok (.invokevirtual 43, 3) := by decide +kernel
theorem dl_294 : decode code 294 = .ok (.if_icmp .eq 328, 3) := by decide +kernel
theorem dl_297 : decode code 297 = .ok (.iconst 0, 1) := by decide +kernel
theorem dl_298 : decode code 298 = .ok (.ireturn, 1) := by decide +kernel
theorem dl_299 : decode code 299 = .ok (.aload_n 1, 1) := by decide +kernel
theorem dl_300 : decode code 300 = .ok (.aload_n 0, 1) := by decide +kernel
theorem dl_301 : decode code 301 = .ok (.iload_n 3, 1) := by decide +kernel
theorem dl_302 : decode code 302 = .ok (.iconst 1, 1) := by decide +kernel
theorem dl_303 : decode code 303 = .ok (.iadd, 1) := by decide +kernel
theorem dl_304 : decode code 304 = .ok (.iaload, 1) := by decide +kernel
theorem dl_305 : decode code 305 = .ok (.invokevirtual 44, 3) := by decide +kernel
theorem dl_308 : decode code 308 = .ok (.aload_n 2, 1) := by decide +kernel
theorem dl_309 : decode code 309 = .ok (.aload_n 0, 1) := by decide +kernel
theorem dl_310 : decode code 310 = .ok (.iload_n 3, 1) := by decide +kernel
theorem dl_311 : decode code 311 = .ok (.iconst 1, 1) := by decide +kernel
theorem dl_312 : decode code 312 = .ok (.iadd, 1) := by decide +kernel
theorem dl_313 : decode code 313 = .ok (.iaload, 1) := by decide +kernel
theorem dl_314 : decode code 314 = .ok (.invokevirtual 47, 3) := by decide +kernel
theorem dl_317 : decode code 317 = .ok (.if_icmp .eq 305, 3) := by decide +kernel
theorem dl_320 : decode code 320 = .ok (.iconst 0, 1) := by decide +kernel
theorem dl_321 : decode code 321 = .ok (.ireturn, 1) := by decide +kernel
theorem dl_322 : decode code 322 = .ok (.aload_n 1, 1) := by decide +kernel
theorem dl_323 : decode code 323 = .ok (.aload_n 0, 1) := by decide +kernel
theorem dl_324 : decode code 324 = .ok (.iload_n 3, 1) := by decide +kernel
theorem dl_325 : decode code 325 = .ok (.iconst 1, 1) := by decide +kernel
theorem dl_326 : decode code 326 = .ok (.iadd, 1) := by decide +kernel
theorem dl_327 : decode code 327 = .ok (.iaload, 1) := by decide +kernel
theorem dl_328 : decode code 328 = .ok (.aload_n 0, 1) := by decide +kernel
theorem dl_329 : decode code 329 = .ok (.iload_n 3, 1) := by decide +kernel
theorem dl_330 : decode code 330 = .ok (.iconst 2, 1) := by decide +kernel
theorem dl_331 : decode code 331 = .ok (.iadd, 1) := by decide +kernel
theorem dl_332 : decode code 332 = .ok (.iaload, 1) := by decide +kernel
theorem dl_333 : decode code 333 = .ok (.invokevirtual 48, 3) := by decide +kernel
theorem dl_336 : decode code 336 = .ok (.aload_n 2, 1) := by decide +kernel
theorem dl_337 : decode code 337 = .ok (.aload_n 0, 1) := by decide +kernel
theorem dl_338 : decode code 338 = .ok (.iload_n 3, 1) := by decide +kernel
theorem dl_339 : decode code 339 = .ok (.iconst 1, 1) := by decide +kernel
theorem dl_340 : decode code 340 = .ok (.iadd, 1) := by decide +kernel
theorem dl_341 : decode code 341 = .ok (.iaload, 1) := by decide +kernel
theorem dl_342 : decode code 342 = .ok (.aload_n 0, 1) := by decide +kernel
theorem dl_343 : decode code 343 = .ok (.iload_n 3, 1) := by decide +kernel
theorem dl_344 : decode code 344 = .ok (.iconst 2, 1) := by decide +kernel
theorem dl_345 : decode code 345 = .ok (.iadd, 1) := by decide +kernel
theorem dl_346 : decode code 346 = .ok (.iaload, 1) := by decide +kernel
theorem dl_347 : decode code 347 = .ok (.invokevirtual 52, 3) := by decide +kernel
theorem dl_350 : decode code 350 = .ok (.if_icmp .eq 272, 3) := by decide +kernel
theorem dl_353 : decode code 353 = .ok (.iconst 0, 1) := by decide +kernel
theorem dl_354 : decode code 354 = .ok (.ireturn, 1) := by decide +kernel
theorem dl_355 : decode code 355 = .ok (.aload_n 1, 1) := by decide +kernel
theorem dl_356 : decode code 356 = .ok (.aload_n 0, 1) := by decide +kernel
theorem dl_357 : decode code 357 = .ok (.iload_n 3, 1) := by decide +kernel
theorem dl_358 : decode code 358 = .ok (.iconst 1, 1) := by decide +kernel
theorem dl_359 : decode code 359 = .ok (.iadd, 1) := by decide +kernel
theorem dl_360 : decode code 360 = .ok (.iaload, 1) := by decide +kernel
theorem dl_361 : decode code 361 = .ok (.invokevirtual 53, 3) := by decide +kernel
theorem dl_364 : decode code 364 = .ok (.aload_n 2, 1) := by decide +kernel
theorem dl_365 : decode code 365 = .ok (.aload_n 0, 1) := by decide +kernel
theorem dl_366 : decode code 366 = .ok (.iload_n 3, 1) := by decide +kernel
theorem dl_367 : decode code 367 = .ok (.iconst 1, 1) := by decide +kernel
theorem dl_368 : decode code 368 = .ok (.iadd, 1) := by decide +kernel
theorem dl_369 : decode code 369 = .ok (.iaload, 1) := by decide +kernel
theorem dl_370 : decode code 370 = .ok (.invokevirtual 56, 3) := by decide +kernel
theorem dl_373 : decode code 373 = .ok (.if_icmp .eq 249, 3) := by decide +kernel
theorem dl_376 : decode code 376 = .ok (.iconst 0, 1) := by decide +kernel
theorem dl_377 : decode code 377 = .ok (.ireturn, 1) := by decide +kernel
theorem dl_378 : decode code 378 = .ok (.aload_n 1, 1) := by decide +kernel
theorem dl_379 : decode code 379 = .ok (.aload_n 0, 1) := by decide +kernel
theorem dl_380 : decode code 380 = .ok (.iload_n 3, 1) := by decide +kernel
theorem dl_381 : decode code 381 = .ok (.iconst 1, 1) := by decide +kernel
theorem dl_382 : decode code 382 = .ok (.iadd, 1) := by decide +kernel
theorem dl_383 : decode code 383 = .ok (.iaload, 1) := by decide +kernel
theorem dl_384 : decode code 384 = .ok (.invokevirtual 57, 3) := by decide +kernel
theorem dl_387 : decode code 387 = .ok (.aload_n 2, 1) := by decide +kernel
theorem dl_388 : decode code 388 = .ok (.aload_n 0, 1) := by decide +kernel
theorem dl_389 : decode code 389 = .ok (.iload_n 3, 1) := by decide +kernel
theorem dl_390 : decode code 390 = .ok (.iconst 1, 1) := by decide +kernel
theorem dl_391 : decode code 391 = .ok (.iadd, 1) := by decide +kernel
theorem dl_392 : decode code 392 = .ok (.iaload, 1) := by decide +kernel
theorem dl_393 : decode code 393 = .ok (.invokevirtual 60, 3) := by decide +kernel
theorem dl_396 : decode code 396 = .ok (.if_icmp .eq 226, 3) := by decide +kernel
theorem dl_399 : decode code 399 = .ok (.iconst 0, 1) := by decide +kernel
theorem dl_400 : decode code 400 = .ok (.ireturn, 1) := by decide +kernel
theorem dl_401 : decode code 401 = .ok (.aload_n 1, 1) := by decide +kernel
theorem dl_402 : decode code 402 = .ok (.aload_n 0, 1) := by decide +kernel
theorem dl_403 : decode code 403 = .ok (.iload_n 3, 1) := by decide +kernel
theorem dl_404 : decode code 404 = .ok (.iconst 1, 1) := by decide +kernel
theorem dl_405 : decode code 405 = .ok (.iadd, 1) := by decide +kernel
theorem dl_406 : decode code 406 = .ok (.iaload, 1) := by decide +kernel
theorem dl_407 : decode code 407 = .ok (.invokevirtual 61, 3) := by decide +kernel
theorem dl_410 : decode code 410 = .ok (.aload_n 2, 1) := by decide +kernel
theorem dl_411 : decode code 411 = .ok (.aload_n 0, 1) := by decide +kernel
theorem dl_412 : decode code 412 = .ok (.iload_n 3, 1) := by decide +kernel
theorem dl_413 : decode code 413 = .ok (.iconst 1, 1) := by decide +kernel
theorem dl_414 : decode code 414 = .ok (.iadd, 1) := by decide +kernel
theorem dl_415 : decode code 415 = .ok (.iaload, 1) := by decide +kernel
theorem dl_416 : decode code 416 = .ok (.invokevirtual 64, 3) := by decide +kernel
theorem dl_419 : decode code 419 = .ok (.if_icmp .eq 203, 3) := by decide +kernel
theorem dl_422 : decode code 422 = .ok (.iconst 0, 1) := by decide +kernel
theorem dl_423 : decode code 423 = .ok (.ireturn, 1) := by decide +kernel
theorem dl_424 : decode code 424 = .ok (.aload_n 1, 1) := by decide +kernel
theorem dl_425 : decode code 425 = .ok (.aload_n 0, 1) := by decide +kernel
theorem dl_426 : decode code 426 = .ok (.iload_n 3, 1) := by decide +kernel
theorem dl_427 : decode code 427 = .ok (.iconst 1, 1) := by decide +kernel
theorem dl_428 : decode code 428 = .ok (.iadd, 1) := by decide +kernel
theorem dl_429 : decode code 429 = .ok (.iaload, 1) := by decide +kernel
theorem dl_430 : decode code 430 = .ok (.aload_n 0, 1) := by decide +kernel
theorem dl_431 : decode code 431 = .ok (.iload_n 3, 1) := by decide +kernel
theorem dl_432 : decode code 432 = .ok (.iconst 2, 1) := by decide +kernel
theorem dl_433 : decode code 433 = .ok (.iadd, 1) := by decide +kernel
theorem dl_434 : decode code 434 = .ok (.iaload, 1) := by decide +kernel
theorem dl_435 : decode code 435 = .ok (.invokevirtual 65, 3) := by decide +kernel
theorem dl_438 : decode code 438 = .ok (.aload_n 2, 1) := by decide +kernel
theorem dl_439 : decode code 439 = .ok (.aload_n 0, 1) := by decide +kernel
theorem dl_440 : decode code 440 = .ok (.iload_n 3, 1) := by decide +kernel
theorem dl_441 : decode code 441 = .ok (.iconst 1, 1) := by decide +kernel
theorem dl_442 : decode code 442 = .ok (.iadd, 1) := by decide +kernel
theorem dl_443 : decode code 443 = .ok (.iaload, 1) := by decide +kernel
theorem dl_444 : decode code 444 = .ok (.aload_n 0, 1) := by decide +kernel
theorem dl_445 : decode code 445 = .ok (.iload_n 3, 1) := by decide +kernel
theorem dl_446 : decode code 446 = .ok (.iconst 2, 1) := by decide +kernel
theorem dl_447 : decode code 447 = .ok (.iadd, 1) := by decide +kernel
theorem dl_448 : decode code 448 = .ok (.iaload, 1) := by decide +kernel
theorem dl_449 : decode code 449 = .ok (.invokevirtual 69, 3) := by decide +kernel
theorem dl_452 : decode code 452 = .ok (.if_icmp .eq 170, 3) := by decide +kernel
theorem dl_455 : decode code 455 = .ok (.iconst 0, 1) := by decide +kernel
theorem dl_456 : decode code 456 = .ok (.ireturn, 1) := by decide +kernel
theorem dl_457 : decode code 457 = .ok (.aload_n 1, 1) := by decide +kernel
theorem dl_458 : decode code 458 = .ok (.aload_n 0, 1) := by decide +kernel
theorem dl_459 : decode code 459 = .ok (.iload_n 3, 1) := by decide +kernel
theorem dl_460 : decode code 460 = .ok (.iconst 1, 1) := by decide +kernel
theorem dl_461 : decode code 461 = .ok (.iadd, 1) := by decide +kernel
theorem dl_462 : decode code 462 = .ok (.iaload, 1) := by decide +kernel
theorem dl_463 : decode code 463 = .ok (.invokevirtual 70, 3) := by decide +kernel
theorem dl_466 : decode code 466 = .ok (.aload_n 2, 1) := by decide +kernel
theorem dl_467 : decode code 467 = .ok (.aload_n 0, 1) := by decide +kernel
theorem dl_468 : decode code 468 = .ok (.iload_n 3, 1) := by decide +kernel
theorem dl_469 : decode code 469 = .ok (.iconst 1, 1) := by decide +kernel
theorem dl_470 : decode code 470 = .ok (.iadd, 1) := by decide +kernel
theorem dl_471 : decode code 471 = .ok (.iaload, 1) := by decide +kernel
theorem dl_472 : decode code 472 = .ok (.invokevirtual 73, 3) := by decide +kernel
theorem dl_475 : decode code 475 = .ok (.if_icmp .eq 147, 3) := by decide +kernel
theorem dl_478 : decode code 478 = .ok (.iconst 0, 1) := by decide +kernel
theorem dl_479 : decode code 479 = .ok (.ireturn, 1) := by decide +kernel
theorem dl_480 : decode code 480 = .ok (.aload_n 1, 1) := by decide +kernel
theorem dl_481 : decode code 481 = .ok (.aload_n 0, 1) := by decide +kernel
theorem dl_482 : decode code 482 = .ok (.iload_n 3, 1) := by decide +kernel
theorem dl_483 : decode code 483 = .ok (.iconst 1, 1) := by decide +kernel
theorem dl_484 : decode code 484 = .ok (.iadd, 1) := by decide +kernel
theorem dl_485 : decode code 485 = .ok (.iaload, 1) := by decide +kernel
theorem dl_486 : decode code 486 = .ok (.aload_n 0, 1) := by decide +kernel
theorem dl_487 : decode code 487 = .ok (.iload_n 3, 1) := by decide +kernel
theorem dl_488 : decode code 488 = .ok (.iconst 2, 1) := by decide +kernel
theorem dl_489 : decode code 489 = .ok (.iadd, 1) := by decide +kernel
theorem dl_490 : decode code 490 = .ok (.iaload, 1) := by decide +kernel
theorem dl_491 : decode code 491 = .ok (.invokevirtual 74, 3) := by decide +kernel
theorem dl_494 : decode code 494 = .ok (.aload_n 2, 1) := by decide +kernel
theorem dl_495 : decode code 495 = .ok (.aload_n 0, 1) := by decide +kernel
theorem dl_496 : decode code 496 = .ok (.iload_n 3, 1) := by decide +kernel
theorem dl_497 : decode code 497 = .ok (.iconst 1, 1) := by decide +kernel
theorem dl_498 : decode code 498 = .ok (.iadd, 1) := by decide +kernel
theorem dl_499 : decode code 499 = .ok (.iaload, 1) := by decide +kernel
theorem dl_500 : decode code 500 = .ok (.aload_n 0, 1) := by decide +kernel
theorem dl_501 : decode code 501 = .ok (.iload_n 3, 1) := by decide +kernel
theorem dl_502 : decode code 502 = .ok (.iconst 2, 1) := by decide +kernel
theorem dl_503 : decode code 503 = .ok (.iadd, 1) := by decide +kernel
theorem dl_504 : decode code 504 = .ok (.iaload, 1) := by decide +kernel
theorem dl_505 : decode code 505 = .ok (.invokevirtual 77, 3) := by decide +kernel
theorem dl_508 : decode code 508 = .ok (.if_icmp .eq 114, 3) := by decide +kernel
theorem dl_511 : decode code 511 = .ok (.iconst 0, 1) := by decide +kernel
theorem dl_512 : decode code 512 = .ok (.ireturn, 1) := by decide +kernel
theorem dl_513 : decode code 513 = .ok (.aload_n 1, 1) := by decide +kernel
theorem dl_514 : decode code 514 = .ok (.aload_n 0, 1) := by decide +kernel
theorem dl_515 : decode code 515 = .ok (.iload_n 3, 1) := by decide +kernel
theorem dl_516 : decode code 516 = .ok (.iconst 1, 1) := by decide +kernel
theorem dl_517 : decode code 517 = .ok (.iadd, 1) := by decide +kernel
theorem dl_518 : decode code 518 = .ok (.iaload, 1) := by decide +kernel
theorem dl_519 : decode code 519 = .ok (.aload_n 0, 1) := by decide +kernel
theorem dl_520 : decode code 520 = .ok (.iload_n 3, 1) := by decide +kernel
theorem dl_521 : decode code 521 = .ok (.iconst 2, 1) := by decide +kernel
theorem dl_522 : decode code 522 = .ok (.iadd, 1) := by decide +kernel
theorem dl_523 : decode code 523 = .ok (.iaload, 1) := by decide +kernel
theorem dl_524 : decode code 524 = .ok (.aload_n 0, 1) := by decide +kernel
theorem dl_525 : decode code 525 = .ok (.iload_n 3, 1) := by decide +kernel
theorem dl_526 : decode code 526 = .ok (.iconst 3, 1) := by decide +kernel
theorem dl_527 : decode code 527 = .ok (.iadd, 1) := by decide +kernel
theorem dl_528 : decode code 528 = .ok (.iaload, 1) := by decide +kernel
theorem dl_529 : decode code 529 = .ok (.invokevirtual 78, 3) := by decide +kernel
theorem dl_532 : decode code 532 = .ok (.aload_n 2, 1) := by decide +kernel
theorem dl_533 : decode code 533 = .ok (.aload_n 0, 1) := by decide +kernel
theorem dl_534 : decode code 534 = .ok (.iload_n 3, 1) := by decide +kernel
theorem dl_535 : decode code 535 = .ok (.iconst 1, 1) := by decide +kernel
theorem dl_536 : decode code 536 = .ok (.iadd, 1) := by decide +kernel
theorem dl_537 : decode code 537 = .ok (.iaload, 1) := by decide +kernel
theorem dl_538 : decode code 538 = .ok (.aload_n 0, 1) := by decide +kernel
theorem dl_539 : decode code 539 = .ok (.iload_n 3, 1) := by decide +kernel
theorem dl_540 : decode code 540 = .ok (.iconst 2, 1) := by decide +kernel
theorem dl_541 : decode code 541 = .ok (.iadd, 1) := by decide +kernel
theorem dl_542 : decode code 542 = .ok (.iaload, 1) := by decide +kernel
theorem dl_543 : decode code 543 = .ok (.aload_n 0, 1) := by decide +kernel
theorem dl_544 : decode code 544 = .ok (.iload_n 3, 1) := by decide +kernel
theorem dl_545 : decode code 545 = .ok (.iconst 3, 1) := by decide +kernel
theorem dl_546 : decode code 546 = .ok (.iadd, 1) := by decide +kernel
theorem dl_547 : decode code 547 = .ok (.iaload, 1) := by decide +kernel
theorem dl_548 : decode code 548 = .ok (.invokevirtual 82, 3) := by decide +kernel
theorem dl_551 : decode code 551 = .ok (.if_icmp .eq 71, 3) := by decide +kernel
theorem dl_554 : decode code 554 = .ok (.iconst 0, 1) := by decide +kernel
theorem dl_555 : decode code 555 = .ok (.ireturn, 1) := by decide +kernel
theorem dl_556 : decode code 556 = .ok (.aload_n 1, 1) := by decide +kernel
theorem dl_557 : decode code 557 = .ok (.aload_n 0, 1) := by decide +kernel
theorem dl_558 : decode code 558 = .ok (.iload_n 3, 1) := by decide +kernel
theorem dl_559 : decode code 559 = .ok (.iconst 1, 1) := by decide +kernel
theorem dl_560 : decode code 560 = .ok (.iadd, 1) := by decide +kernel
theorem dl_561 : decode code 561 = .ok (.iaload, 1) := by decide +kernel
theorem dl_562 : decode code 562 = .ok (.aload_n 0, 1) := by decide +kernel
theorem dl_563 : decode code 563 = .ok (.iload_n 3, 1) := by decide +kernel
theorem dl_564 : decode code 564 = .ok (.iconst 2, 1) := by decide +kernel
theorem dl_565 : decode code 565 = .ok (.iadd, 1) := by decide +kernel
theorem dl_566 : decode code 566 = .ok (.iaload, 1) := by decide +kernel
theorem dl_567 : decode code 567 = .ok (.invokevirtual 83, 3) := by decide +kernel
theorem dl_570 : decode code 570 = .ok (.aload_n 2, 1) := by decide +kernel
theorem dl_571 : decode code 571 = .ok (.aload_n 0, 1) := by decide +kernel
theorem dl_572 : decode code 572 = .ok (.iload_n 3, 1) := by decide +kernel
theorem dl_573 : decode code 573 = .ok (.iconst 1, 1) := by decide +kernel
theorem dl_574 : decode code 574 = .ok (.iadd, 1) := by decide +kernel
theorem dl_575 : decode code 575 = .ok (.iaload, 1) := by decide +kernel
theorem dl_576 : decode code 576 = .ok (.aload_n 0, 1) := by decide +kernel
theorem dl_577 : decode code 577 = .ok (.iload_n 3, 1) := by decide +kernel
theorem dl_578 : decode code 578 = .ok (.iconst 2, 1) := by decide +kernel
theorem dl_579 : decode code 579 = .ok (.iadd, 1) := by decide +kernel
theorem dl_580 : decode code 580 = .ok (.iaload, 1) := by decide +kernel
theorem dl_581 : decode code 581 = .ok (.invokevirtual 86, 3) := by decide +kernel
theorem dl_584 : decode code 584 = .ok (.if_icmp .eq 38, 3) := by decide +kernel
theorem dl_587 : decode code 587 = .ok (.iconst 0, 1) := by decide +kernel
theorem dl_588 : decode code 588 = .ok (.ireturn, 1) := by decide +kernel
theorem dl_589 : decode code 589 = .ok (.aload_n 1, 1) := by decide +kernel
theorem dl_590 : decode code 590 = .ok (.aload_n 0, 1) := by decide +kernel
theorem dl_591 : decode code 591 = .ok (.iload_n 3, 1) := by decide +kernel
theorem dl_592 : decode code 592 = .ok (.iconst 1, 1) := by decide +kernel
theorem dl_593 : decode code 593 = .ok (.iadd, 1) := by decide +kernel
theorem dl_594 : decode code 594 = .ok (.iaload, 1) := by decide +kernel
theorem dl_595 : decode code 595 = .ok (.aload_n 0, 1) := by decide +kernel
theorem dl_596 : decode code 596 = .ok (.iload_n 3, 1) := by decide +kernel
theorem dl_597 : decode code 597 = .ok (.iconst 2, 1) := by decide +kernel
theorem dl_598 : decode code 598 = .ok (.iadd, 1) := by decide +kernel
theorem dl_599 : decode code 599 = .ok (.iaload, 1) := by decide +kernel
theorem dl_600 : decode code 600 = .ok (.invokevirtual 87, 3) := by decide +kernel
theorem dl_603 : decode code 603 = .ok (.aload_n 2, 1) := by decide +kernel
theorem dl_604 : decode code 604 = .ok (.aload_n 0, 1) := by decide +kernel
theorem dl_605 : decode code 605 = .ok (.iload_n 3, 1) := by decide +kernel
theorem dl_606 : decode code 606 = .ok (.iconst 1, 1) := by decide +kernel
theorem dl_607 : decode code 607 = .ok (.iadd, 1) := by decide +kernel
theorem dl_608 : decode code 608 = .ok (.iaload, 1) := by decide +kernel
theorem dl_609 : decode code 609 = .ok (.aload_n 0, 1) := by decide +kernel
theorem dl_610 : decode code 610 = .ok (.iload_n 3, 1) := by decide +kernel
theorem dl_611 : decode code 611 = .ok (.iconst 2, 1) := by decide +kernel
theorem dl_612 : decode code 612 = .ok (.iadd, 1) := by decide +kernel
theorem dl_613 : decode code 613 = .ok (.iaload, 1) := by decide +kernel
theorem dl_614 : decode code 614 = .ok (.invokevirtual 90, 3) := by decide +kernel
theorem dl_617 : decode code 617 = .ok (.if_icmp .eq 5, 3) := by decide +kernel
theorem dl_620 : decode code 620 = .ok (.iconst 0, 1) := by decide +kernel
theorem dl_621 : decode code 621 = .ok (.ireturn, 1) := by decide +kernel
theorem dl_622 : decode code 622 = .ok (.iinc 3 5, 3) := by decide +kernel
theorem dl_625 : decode code 625 = .ok (.goto (-607), 3) := by decide +kernel
theorem dl_628 : decode code 628 = .ok (.iconst 1, 1) := by decide +kernel
theorem dl_629 : decode code 629 = .ok (.ireturn, 1) := by decide +kernel
end
section
/-! a small machine over numbered cells: values, heap, its picture in the kit's world -/
/-- the tables' words that stay as the machine warms -/
def im_g : List Cond := lw_tbl.filter goodWord
theorem im_gm {w : Cond} (h : w ∈ lw_tbl) (hg : goodWord w = true) : w ∈ im_g := List.mem_filter.mpr ⟨h, hg⟩
/-- the links of a nest mate's constructor -/
def im_nest : List (String × Nat × MethodName × String) := [("FencedModules", 18, ⟨"FencedModules$Code", "<init>", "()V"⟩, "FencedModules"), ("FencedModules$Sandbox", 18, ⟨"FencedModules$Desk", "<init>", "()V"⟩, "FencedModules"), ("FencedModules$Desk", 9, ⟨"FencedModules$CallList", "<init>", "()V"⟩, "FencedModules"), ("FencedModules", 32, ⟨"FencedModules$Follower", "<init>", "()V"⟩, "FencedModules"), ("FencedModules$Follower", 15, ⟨"FencedModules$Desk", "<init>", "()V"⟩, "FencedModules")]
def im_Nx (U : State) : Prop := va_AO (nm_R 5) U ∧ ∀ q ∈ im_nest, va_Nw (.methodLinkNest q.1 q.2.1 q.2.2.1 q.2.2.2) U
theorem im_Nx.warm {s U : State} (hW : s.WarmedH U.vm) (h : im_Nx s) : im_Nx U := ⟨va_AO.moved hW.alike h.1, fun q hq => va_Nw.warmM hW (h.2 q hq)⟩
theorem im_Nx.same {s U : State} (he : s.vm = U.vm) (h : im_Nx s) : im_Nx U := ⟨va_AO.moved (by rw [he]; exact Vm.Alike.refl U.vm) h.1, fun q hq => va_Nw.same rfl he (h.2 q hq)⟩
/-- an int, or a reference: null or a cell's number -/
abbrev im_V : Type := Int32 ⊕ Option Nat
/-- (cells, slots so far), kind of each cell, references, ints -/
abbrev im_H : Type := (Nat × Nat) × (Nat → Nat × Nat) × (Nat → Nat → Option Nat) × (Nat → Nat → Int32)
abbrev im_L : Type := List (Nat × im_V)
/-- a frame's constants: class, constructor?, makes cells?, answer, code, locals -/
abbrev im_F : Type := Nat × Bool × Bool × Option FieldType × ByteArray × Nat
abbrev im_rs : Type := Option im_V × im_H
def im_v (ad : Nat → Nat) (v : im_V) : Value := match v with
  | .inl x => .int x
  | .inr r => va_re ad r
def im_lv (ad : Nat → Nat) (lv : im_L) : List (Nat × Value) := lv.map fun q => (q.1, im_v ad q.2)
def im_u {α : Type} (f : Nat → Nat → α) (j k : Nat) (x : α) : Nat → Nat → α := fun a b => if a = j then (if b = k then x else f a b) else f a b
/-- an int field? -/
def im_i (ci k : Nat) : Bool := match nm_ty ci k with
  | .int => true
  | _ => false
def im_N (ci : Nat) : Nat := match nm_cl[ci]? with
  | some q => q.2.2
  | none => 0
def im_fs (ad : Nat → Nat) (ci : Nat) (r : Nat → Option Nat) (f : Nat → Int32) : List Value := (List.range (im_N ci)).map fun k => if im_i ci k = true then .int (f k) else va_re ad (r k)
def im_ra (ad : Nat → Nat) (r : Nat → Option Nat) : Nat → Option Nat := fun i => if i < 32 then (r i).map ad else none
def im_e (cs : ClassId × ClassId × ClassId) (ad : Nat → Nat) (kd : Nat × Nat) (r : Nat → Option Nat) (f : Nat → Int32) : va_E := match kd.1 with
  | 0 => .inr (kd.2, im_fs ad kd.2 r f)
  | 1 => .inl (cs.1, kd.2, .inl f)
  | 2 => .inl (cs.2.1, kd.2, .inl f)
  | _ => .inl (cs.2.2, kd.2, .inr (.inr (.inr (.inr (im_ra ad r)))))
def im_W (cs : ClassId × ClassId × ClassId) (ad : Nat → Nat) (h : im_H) : va_W := (List.range h.1.1).map fun j => (ad j, im_e cs ad (h.2.1 j) (h.2.2.1 j) (h.2.2.2 j))
abbrev im_tys (cs : ClassId × ClassId × ClassId) : List (ClassId × FieldType) := [(cs.1, .int), (cs.2.1, .boolean), (cs.2.2, .object (nm_R 5))]
def im_Cx (p : Program) (R : Room) (s : State) (m : MethodId) (args : Array Value) (meth : Method) (c : Code) (d : Nat) (F : im_F) : Prop :=
  p.tables.exec = Jvm.exec ∧ c.code = F.2.2.2.2.1 ∧ c.maxLocals = F.2.2.2.2.2 ∧ s.vm.findClass (nm_R F.1) = some m.cls ∧ (∀ w ∈ im_g, w.before args s = true) ∧ meth.sig.returnType = F.2.2.2.1 ∧ meth.locks = false ∧ (F.2.1 = true → meth.name = "<init>") ∧ R.frames = d ∧ R.locals = 32 * d ∧ im_Nx s
def im_St (D : va_G) (cs : ClassId × ClassId × ClassId) (s : State) (A : Nat → Prop) (H : Heap) (locs : List Loc) (ad : Nat → Nat) (h : im_H) : Prop :=
  va_K D nm_cl (im_tys cs) s ∧ va_P D nm_cl (im_W cs ad h) H ∧ va_D A (im_W cs ad h) ∧ va_S A s.heap H locs ∧ (∀ q, s.heap.size ≤ q → A q) ∧ ∀ j, h.1.1 ≤ j → (h.2.1 j).1 = 9
def im_Ad (h h' : im_H) (ad ad' : Nat → Nat) : Prop := ∀ j, (j < h.1.1 ∨ h'.1 = h.1) → ad' j = ad j
def im_Sem (l : Launch) (D : va_G) (cs : ClassId × ClassId × ClassId) (d : Nat) (F : im_F) (pc : Nat) (lv : im_L) (st : List im_V) (h : im_H) (r : im_rs) : Prop :=
  (h.1.1 ≤ r.2.1.1 ∧ h.1.2 ≤ r.2.1.2 ∧ (F.2.2.1 = false → r.2.1 = h.1)) ∧
  ∀ (p : Program) (e : Env) (R : Room) (s : State) (m : MethodId) (args : Array Value) (below : List Frame) (meth : Method) (c : Code) (H : Heap) (locs : List Loc) (cells slots mc ms : Nat) (Qc : Array Value → State → Outcome → State → Prop) (free : Addr → Prop) (ad : Nat → Nat) (A : Nat → Prop) (ls : Array Slot),
    im_Cx p R s m args meth c d F → im_St D cs s A H locs ad h → lv_has ls F.2.2.2.2.2 (im_lv ad lv) →
    cells + (r.2.1.1 - h.1.1) = mc → slots + (r.2.1.2 - h.1.2) = ms → mc ≤ R.cells → ms ≤ R.slots → (∀ q, A q → free q) →
    (∀ (ad' : Nat → Nat) (H' : Heap) (locs' : List Loc) (t : State), t.heap = H' → s.WarmedH t.vm → im_Ad h r.2 ad ad' → im_St D cs s A H' locs' ad' r.2 → Qc args s (.returned (r.1.map (im_v ad'))) t) →
    W p l e R s m args below meth c H locs cells slots (MQ below Qc args s mc ms free) (F0 m pc ls (st.map (im_v ad)))
def im_Ev (d : Nat) (F : im_F) (pc : Nat) (lv : im_L) (st : List im_V) (h : im_H) (r : im_rs) : Prop := ∀ l D cs, im_Sem l D cs d F pc lv st h r
def im_Go {α : Type} (z : α → im_rs) (d : Nat) (F : im_F) (pc : Nat) (lv : im_L) (st : List im_V) (h : im_H) (t : Option α) : Prop := ∀ a, t = some a → im_Ev d F pc lv st h (z a)
def im_zI (a : Int32 × im_H) : im_rs := (some (.inl a.1), a.2)
def im_zR (a : Option Nat × im_H) : im_rs := (some (.inr a.1), a.2)
def im_zV (a : im_H) : im_rs := (none, a)
theorem im_cat (ad : Nat → Nat) (v : im_V) : (im_v ad v).category = 1 := by
  cases v with
  | inl x => rfl
  | inr r => cases r <;> rfl
theorem im_Wat {cs : ClassId × ClassId × ClassId} {ad : Nat → Nat} {h : im_H} {j : Nat} (hj : j < h.1.1) : (im_W cs ad h)[j]? = some (ad j, im_e cs ad (h.2.1 j) (h.2.2.1 j) (h.2.2.2 j)) := by
  simp [im_W, hj]
theorem im_lvat {ad : Nat → Nat} {lv : im_L} {ls : Array Slot} {nL i : Nat} {v : im_V} (h : lv_has ls nL (im_lv ad lv)) (hl : lv.lookup i = some v) : ls[i]? = some (.val (im_v ad v)) := by
  refine h.2.2 (i, im_v ad v) ?_
  have hm : (i, v) ∈ lv := by
    clear h
    induction lv with
    | nil => simp at hl
    | cons q lv ih =>
      obtain ⟨a, b⟩ := q
      rw [List.lookup_cons] at hl
      by_cases hq : i = a
      · subst hq
        simp at hl
        simp [hl]
      · have : (i == a) = false := by simpa using hq
        simp only [this] at hl
        exact List.mem_cons_of_mem _ (ih hl)
  exact List.mem_map.mpr ⟨(i, v), hm, rfl⟩
/-- a local is set -/
def im_ls (lv : im_L) (i : Nat) (v : im_V) : im_L := (i, v) :: lv.filter fun q => !(q.1 == i)
theorem im_lvset (ad : Nat → Nat) (lv : im_L) (i : Nat) (v : im_V) : (i, im_v ad v) :: (im_lv ad lv).filter (fun q => !(q.1 == i) && !(q.1 + 1 == i && q.2.category == 2)) = im_lv ad (im_ls lv i v) := by
  simp only [im_lv, im_ls, List.map_cons, List.filter_map]
  congr 2
  apply List.filter_congr
  intro q _
  simp [Function.comp, im_cat]
/-- a plain instruction: nothing of the heap changes -/
theorem im_plain {α : Type} {z : α → im_rs} {d : Nat} {F : im_F} {pc pc' : Nat} {lv lv' : im_L} {st st' : List im_V} {h : im_H} {t : Option α}
    (hW : ∀ (ad : Nat → Nat) (p : Program) (l : Launch) (e : Env) (R : Room) (s : State) (m : MethodId) (args : Array Value) (below : List Frame) (meth : Method) (c : Code) (H : Heap) (locs : List Loc) (cells slots : Nat) (Q : State → Prop) (ls : Array Slot), im_Cx p R s m args meth c d F → lv_has ls F.2.2.2.2.2 (im_lv ad lv) →
      (∀ ls', lv_has ls' F.2.2.2.2.2 (im_lv ad lv') → W p l e R s m args below meth c H locs cells slots Q (F0 m pc' ls' (st'.map (im_v ad)))) → W p l e R s m args below meth c H locs cells slots Q (F0 m pc ls (st.map (im_v ad))))
    (k : im_Go z d F pc' lv' st' h t) : im_Go z d F pc lv st h t := by
  intro a ha l D cs
  obtain ⟨k1, k2⟩ := k a ha l D cs
  refine ⟨k1, ?_⟩
  intro p e R s m args below meth c H locs cells slots mc ms Qc free ad A ls hC hS hl h1 h2 h3 h4 h5 h6
  exact hW ad p l e R s m args below meth c H locs cells slots _ ls hC hl (fun ls' hl' => k2 p e R s m args below meth c H locs cells slots mc ms Qc free ad A ls' hC hS hl' h1 h2 h3 h4 h5 h6)
/-- a fork -/
theorem im_fork {α : Type} {z : α → im_rs} {d : Nat} {F : im_F} {pc pc' pc'' : Nat} {lv : im_L} {st st' : List im_V} {h : im_H} {t u : Option α} {b : Prop} (hdec : Decidable b)
    (hW : ∀ (ad : Nat → Nat) (p : Program) (l : Launch) (e : Env) (R : Room) (s : State) (m : MethodId) (args : Array Value) (below : List Frame) (meth : Method) (c : Code) (H : Heap) (locs : List Loc) (cells slots : Nat) (Q : State → Prop) (ls : Array Slot), im_Cx p R s m args meth c d F →
      (b → W p l e R s m args below meth c H locs cells slots Q (F0 m pc' ls (st'.map (im_v ad)))) → (¬ b → W p l e R s m args below meth c H locs cells slots Q (F0 m pc'' ls (st'.map (im_v ad)))) → W p l e R s m args below meth c H locs cells slots Q (F0 m pc ls (st.map (im_v ad))))
    (k : b → im_Go z d F pc' lv st' h t) (k2 : ¬ b → im_Go z d F pc'' lv st' h u) : im_Go z d F pc lv st h (if b then t else u) := by
  intro a ha l D cs
  by_cases hb : b
  · rw [if_pos hb] at ha
    obtain ⟨k1, k2⟩ := k hb a ha l D cs
    refine ⟨k1, ?_⟩
    intro p e R s m args below meth c H locs cells slots mc ms Qc free ad A ls hC hS hl h1 h2 h3 h4 h5 h6
    exact hW ad p l e R s m args below meth c H locs cells slots _ ls hC (fun _ => k2 p e R s m args below meth c H locs cells slots mc ms Qc free ad A ls hC hS hl h1 h2 h3 h4 h5 h6) (fun h => absurd hb h)
  · rw [if_neg hb] at ha
    obtain ⟨k1, k2⟩ := k2 hb a ha l D cs
    refine ⟨k1, ?_⟩
    intro p e R s m args below meth c H locs cells slots mc ms Qc free ad A ls hC hS hl h1 h2 h3 h4 h5 h6
    exact hW ad p l e R s m args below meth c H locs cells slots _ ls hC (fun h => absurd h hb) (fun _ => k2 p e R s m args below meth c H locs cells slots mc ms Qc free ad A ls hC hS hl h1 h2 h3 h4 h5 h6)
/-- checks that the machine doesn't see -/
theorem im_chk {α : Type} {z : α → im_rs} {d : Nat} {F : im_F} {pc : Nat} {lv : im_L} {st : List im_V} {h : im_H} {t : Option α} {b : Prop} (hdec : Decidable b) (k : b → im_Go z d F pc lv st h t) : im_Go z d F pc lv st h (if b then t else none) := by
  intro a ha
  by_cases hb : b
  · rw [if_pos hb] at ha
    exact k hb a ha
  · rw [if_neg hb] at ha
    cases ha
theorem im_bind {α β : Type} {z : α → im_rs} {d : Nat} {F : im_F} {pc : Nat} {lv : im_L} {st : List im_V} {h : im_H} {o : Option β} {t : β → Option α} (k : ∀ q, o = some q → im_Go z d F pc lv st h (t q)) : im_Go z d F pc lv st h (o.bind t) := by
  intro a ha
  cases ho : o with
  | none => rw [ho] at ha; cases ha
  | some q => rw [ho] at ha; exact k q ho a ha
theorem im_none {α : Type} {z : α → im_rs} {d : Nat} {F : im_F} {pc : Nat} {lv : im_L} {st : List im_V} {h : im_H} : im_Go z d F pc lv st h none := fun a ha => by cases ha
section XR
variable {α : Type} {z : α → im_rs} {d : Nat} {F : im_F} {pc : Nat} {lv : im_L} {st : List im_V} {h : im_H} {t u : Option α}
theorem x_iconst {n : Int} (v : Int32) (hd : decode F.2.2.2.2.1 pc = .ok (.iconst n, 1)) (hv : Int32.ofInt n = v) (k : im_Go z d F (pc + 1) lv (.inl v :: st) h t) : im_Go z d F pc lv st h t :=
  im_plain (fun ad p l e R s m args below meth c H locs cells slots Q ls hC hl kk => lv_iconst hC.1 hC.2.1 hd hv (kk ls hl)) k
theorem x_bipush {n : Int} (v : Int32) (hd : decode F.2.2.2.2.1 pc = .ok (.bipush n, 2)) (hv : (Int8.ofInt n).toInt32 = v) (k : im_Go z d F (pc + 2) lv (.inl v :: st) h t) : im_Go z d F pc lv st h t :=
  im_plain (fun ad p l e R s m args below meth c H locs cells slots Q ls hC hl kk => lv_bipush hC.1 hC.2.1 hd hv (kk ls hl)) k
theorem x_sipush {n : Int} (v : Int32) (hd : decode F.2.2.2.2.1 pc = .ok (.sipush n, 3)) (hv : (Int16.ofInt n).toInt32 = v) (k : im_Go z d F (pc + 3) lv (.inl v :: st) h t) : im_Go z d F pc lv st h t :=
  im_plain (fun ad p l e R s m args below meth c H locs cells slots Q ls hC hl kk => lv_sipush hC.1 hC.2.1 hd hv (kk ls hl)) k
theorem x_ldc {n : Nat} (v : Int32) (hd : decode F.2.2.2.2.1 pc = .ok (.ldc n, 2)) (hv : Cond.constant (nm_R F.1) n v ∈ im_g) (k : im_Go z d F (pc + 2) lv (.inl v :: st) h t) : im_Go z d F pc lv st h t :=
  im_plain (fun ad p l e R s m args below meth c H locs cells slots Q ls hC hl kk => lv_ldc hC.1 hC.2.1 hC.2.2.2.1 (hC.2.2.2.2.1 _ hv) hd (kk ls hl)) k
theorem x_null (hd : decode F.2.2.2.2.1 pc = .ok (.aconst_null, 1)) (k : im_Go z d F (pc + 1) lv (.inr none :: st) h t) : im_Go z d F pc lv st h t :=
  im_plain (fun ad p l e R s m args below meth c H locs cells slots Q ls hC hl kk => lv_null hC.1 hC.2.1 hd (kk ls hl)) k
theorem x_iload_n {k : Fin 4} {x : Int32} (hd : decode F.2.2.2.2.1 pc = .ok (.iload_n k, 1)) (hx : lv.lookup k.val = some (.inl x)) (kk : im_Go z d F (pc + 1) lv (.inl x :: st) h t) : im_Go z d F pc lv st h t :=
  im_plain (fun ad p l e R s m args below meth c H locs cells slots Q ls hC hl kk => lv_iload_n hC.1 hC.2.1 hd rfl (im_lvat hl hx) (kk ls hl)) kk
theorem x_iload {k : Nat} {x : Int32} (hd : decode F.2.2.2.2.1 pc = .ok (.iload k, 2)) (hx : lv.lookup k = some (.inl x)) (kk : im_Go z d F (pc + 2) lv (.inl x :: st) h t) : im_Go z d F pc lv st h t :=
  im_plain (fun ad p l e R s m args below meth c H locs cells slots Q ls hC hl kk => lv_iload hC.1 hC.2.1 hd (im_lvat hl hx) (kk ls hl)) kk
theorem x_aload_n {k : Fin 4} {x : Option Nat} (hd : decode F.2.2.2.2.1 pc = .ok (.aload_n k, 1)) (hx : lv.lookup k.val = some (.inr x)) (kk : im_Go z d F (pc + 1) lv (.inr x :: st) h t) : im_Go z d F pc lv st h t :=
  im_plain (fun ad p l e R s m args below meth c H locs cells slots Q ls hC hl kk => by
    have h9 := im_lvat hl hx
    cases x with
    | none => exact lv_aload_nN hC.1 hC.2.1 hd rfl h9 (kk ls hl)
    | some x => exact lv_aload_n hC.1 hC.2.1 hd rfl h9 (kk ls hl)) kk
theorem x_aload {k : Nat} {x : Option Nat} (hd : decode F.2.2.2.2.1 pc = .ok (.aload k, 2)) (hx : lv.lookup k = some (.inr x)) (kk : im_Go z d F (pc + 2) lv (.inr x :: st) h t) : im_Go z d F pc lv st h t :=
  im_plain (fun ad p l e R s m args below meth c H locs cells slots Q ls hC hl kk => by
    have h9 := im_lvat hl hx
    cases x with
    | none => exact lv_aloadN hC.1 hC.2.1 hd h9 (kk ls hl)
    | some x => exact lv_aload hC.1 hC.2.1 hd h9 (kk ls hl)) kk
theorem x_istore_n {k : Fin 4} {x : Int32} (hd : decode F.2.2.2.2.1 pc = .ok (.istore_n k, 1)) (hn : k.val < F.2.2.2.2.2) (kk : im_Go z d F (pc + 1) (im_ls lv k.val (.inl x)) st h t) : im_Go z d F pc lv (.inl x :: st) h t :=
  im_plain (fun ad p l e R s m args below meth c H locs cells slots Q ls hC hl kk => lv_istore_n hC.1 hC.2.1 hd rfl hl hn (im_lvset ad lv k.val (.inl x)) kk) kk
theorem x_istore {k : Nat} {x : Int32} (hd : decode F.2.2.2.2.1 pc = .ok (.istore k, 2)) (hn : k < F.2.2.2.2.2) (kk : im_Go z d F (pc + 2) (im_ls lv k (.inl x)) st h t) : im_Go z d F pc lv (.inl x :: st) h t :=
  im_plain (fun ad p l e R s m args below meth c H locs cells slots Q ls hC hl kk => lv_istore hC.1 hC.2.1 hd hl hn (im_lvset ad lv k (.inl x)) kk) kk
theorem x_astore_n {k : Fin 4} {x : Option Nat} (hd : decode F.2.2.2.2.1 pc = .ok (.astore_n k, 1)) (hn : k.val < F.2.2.2.2.2) (kk : im_Go z d F (pc + 1) (im_ls lv k.val (.inr x)) st h t) : im_Go z d F pc lv (.inr x :: st) h t :=
  im_plain (fun ad p l e R s m args below meth c H locs cells slots Q ls hC hl kk => by
    have h9 := im_lvset ad lv k.val (.inr x)
    cases x with
    | none => exact lv_astore_nN hC.1 hC.2.1 hd rfl hl hn h9 kk
    | some x => exact lv_astore_n hC.1 hC.2.1 hd rfl hl hn h9 kk) kk
theorem x_astore {k : Nat} {x : Option Nat} (hd : decode F.2.2.2.2.1 pc = .ok (.astore k, 2)) (hn : k < F.2.2.2.2.2) (kk : im_Go z d F (pc + 2) (im_ls lv k (.inr x)) st h t) : im_Go z d F pc lv (.inr x :: st) h t :=
  im_plain (fun ad p l e R s m args below meth c H locs cells slots Q ls hC hl kk => by
    have h9 := im_lvset ad lv k (.inr x)
    cases x with
    | none => exact lv_astoreN hC.1 hC.2.1 hd hl hn h9 kk
    | some x => exact lv_astore hC.1 hC.2.1 hd hl hn h9 kk) kk
theorem x_iinc {i : Nat} {n : Int} {x : Int32} (v : Int32) (hd : decode F.2.2.2.2.1 pc = .ok (.iinc i n, 3)) (hx : lv.lookup i = some (.inl x)) (hv : Int32.ofInt n = v) (hn : i < F.2.2.2.2.2) (kk : im_Go z d F (pc + 3) (im_ls lv i (.inl (x + v))) st h t) : im_Go z d F pc lv st h t :=
  im_plain (fun ad p l e R s m args below meth c H locs cells slots Q ls hC hl kk => by
    have h9 := im_lvat hl hx
    have hl2 : lv_has ls F.2.2.2.2.2 (im_lv ad ((i, .inl x) :: lv)) := ⟨hl.1, hl.2.1, fun q hq => by
      rcases List.mem_cons.mp hq with rfl | hq
      · exact h9
      · exact hl.2.2 q hq⟩
    refine lv_iinc (k := 0) hC.1 hC.2.1 hd hl2 rfl (by rw [hv]) hn (im_lvset ad ((i, .inl x) :: lv) i (.inl (x + v))) (fun ls' h7 => kk ls' ?_)
    have : im_ls ((i, .inl x) :: lv) i (.inl (x + v)) = im_ls lv i (.inl (x + v)) := by simp [im_ls]
    rwa [this] at h7) kk
theorem x_iadd {x y : Int32} (hd : decode F.2.2.2.2.1 pc = .ok (.iadd, 1)) (k : im_Go z d F (pc + 1) lv (.inl (x + y) :: st) h t) : im_Go z d F pc lv (.inl y :: .inl x :: st) h t :=
  im_plain (fun ad p l e R s m args below meth c H locs cells slots Q ls hC hl kk => lv_iadd hC.1 hC.2.1 hd (kk ls hl)) k
theorem x_isub {x y : Int32} (hd : decode F.2.2.2.2.1 pc = .ok (.isub, 1)) (k : im_Go z d F (pc + 1) lv (.inl (x - y) :: st) h t) : im_Go z d F pc lv (.inl y :: .inl x :: st) h t :=
  im_plain (fun ad p l e R s m args below meth c H locs cells slots Q ls hC hl kk => lv_isub hC.1 hC.2.1 hd (kk ls hl)) k
theorem x_imul {x y : Int32} (hd : decode F.2.2.2.2.1 pc = .ok (.imul, 1)) (k : im_Go z d F (pc + 1) lv (.inl (x * y) :: st) h t) : im_Go z d F pc lv (.inl y :: .inl x :: st) h t :=
  im_plain (fun ad p l e R s m args below meth c H locs cells slots Q ls hC hl kk => lv_imul hC.1 hC.2.1 hd (kk ls hl)) k
theorem x_iand {x y : Int32} (hd : decode F.2.2.2.2.1 pc = .ok (.iand, 1)) (k : im_Go z d F (pc + 1) lv (.inl (x &&& y) :: st) h t) : im_Go z d F pc lv (.inl y :: .inl x :: st) h t :=
  im_plain (fun ad p l e R s m args below meth c H locs cells slots Q ls hC hl kk => lv_iand hC.1 hC.2.1 hd (kk ls hl)) k
theorem x_ior {x y : Int32} (hd : decode F.2.2.2.2.1 pc = .ok (.ior, 1)) (k : im_Go z d F (pc + 1) lv (.inl (x ||| y) :: st) h t) : im_Go z d F pc lv (.inl y :: .inl x :: st) h t :=
  im_plain (fun ad p l e R s m args below meth c H locs cells slots Q ls hC hl kk => lv_ior hC.1 hC.2.1 hd (kk ls hl)) k
theorem x_ixor {x y : Int32} (hd : decode F.2.2.2.2.1 pc = .ok (.ixor, 1)) (k : im_Go z d F (pc + 1) lv (.inl (x ^^^ y) :: st) h t) : im_Go z d F pc lv (.inl y :: .inl x :: st) h t :=
  im_plain (fun ad p l e R s m args below meth c H locs cells slots Q ls hC hl kk => lv_ixor hC.1 hC.2.1 hd (kk ls hl)) k
theorem x_ishl {x y : Int32} (hd : decode F.2.2.2.2.1 pc = .ok (.ishl, 1)) (k : im_Go z d F (pc + 1) lv (.inl (x <<< (y &&& 31)) :: st) h t) : im_Go z d F pc lv (.inl y :: .inl x :: st) h t :=
  im_plain (fun ad p l e R s m args below meth c H locs cells slots Q ls hC hl kk => lv_ishl hC.1 hC.2.1 hd (kk ls hl)) k
theorem x_ishr {x y : Int32} (hd : decode F.2.2.2.2.1 pc = .ok (.ishr, 1)) (k : im_Go z d F (pc + 1) lv (.inl (x >>> (y &&& 31)) :: st) h t) : im_Go z d F pc lv (.inl y :: .inl x :: st) h t :=
  im_plain (fun ad p l e R s m args below meth c H locs cells slots Q ls hC hl kk => lv_ishr hC.1 hC.2.1 hd (kk ls hl)) k
theorem x_dup {v : im_V} (hd : decode F.2.2.2.2.1 pc = .ok (.dup, 1)) (k : im_Go z d F (pc + 1) lv (v :: v :: st) h t) : im_Go z d F pc lv (v :: st) h t :=
  im_plain (fun ad p l e R s m args below meth c H locs cells slots Q ls hC hl kk => lv_dup hC.1 hC.2.1 hd (im_cat ad v) (kk ls hl)) k
theorem x_pop {v : im_V} (hd : decode F.2.2.2.2.1 pc = .ok (.pop, 1)) (k : im_Go z d F (pc + 1) lv st h t) : im_Go z d F pc lv (v :: st) h t :=
  im_plain (fun ad p l e R s m args below meth c H locs cells slots Q ls hC hl kk => lv_pop hC.1 hC.2.1 hd (im_cat ad v) (kk ls hl)) k
theorem x_dup2 {v w : im_V} (hd : decode F.2.2.2.2.1 pc = .ok (.dup2, 1)) (k : im_Go z d F (pc + 1) lv (v :: w :: v :: w :: st) h t) : im_Go z d F pc lv (v :: w :: st) h t :=
  im_plain (fun ad p l e R s m args below meth c H locs cells slots Q ls hC hl kk => lv_dup2_11 hC.1 hC.2.1 hd (im_cat ad v) (im_cat ad w) (kk ls hl)) k
theorem x_goto {off : Int} (tgt : Nat) (hd : decode F.2.2.2.2.1 pc = .ok (.goto off, 3)) (ht : (pc : Int) + off = (tgt : Int)) (k : im_Go z d F tgt lv st h t) : im_Go z d F pc lv st h t :=
  im_plain (fun ad p l e R s m args below meth c H locs cells slots Q ls hC hl kk => lv_goto hC.1 hC.2.1 hd ht (kk ls hl)) k
theorem x_icmp_eq {x y : Int32} {off : Int} (tgt : Nat) (hd : decode F.2.2.2.2.1 pc = .ok (.if_icmp .eq off, 3)) (ht : (pc : Int) + off = (tgt : Int)) (k : x = y → im_Go z d F tgt lv st h t) (k2 : ¬ x = y → im_Go z d F (pc + 3) lv st h u) : im_Go z d F pc lv (.inl y :: .inl x :: st) h (if x = y then t else u) :=
  im_fork _ (fun ad p l e R s m args below meth c H locs cells slots Q ls hC kt kf => lv_icmp_eq hC.1 hC.2.1 hd ht kt kf) k k2
theorem x_if_eq {x : Int32} {off : Int} (tgt : Nat) (hd : decode F.2.2.2.2.1 pc = .ok (.ifCond .eq off, 3)) (ht : (pc : Int) + off = (tgt : Int)) (k : x = 0 → im_Go z d F tgt lv st h t) (k2 : ¬ x = 0 → im_Go z d F (pc + 3) lv st h u) : im_Go z d F pc lv (.inl x :: st) h (if x = 0 then t else u) :=
  im_fork _ (fun ad p l e R s m args below meth c H locs cells slots Q ls hC kt kf => lv_if_eq hC.1 hC.2.1 hd ht kt kf) k k2
theorem x_icmp_lt {x y : Int32} {off : Int} (tgt : Nat) (hd : decode F.2.2.2.2.1 pc = .ok (.if_icmp .lt off, 3)) (ht : (pc : Int) + off = (tgt : Int)) (k : x < y → im_Go z d F tgt lv st h t) (k2 : ¬ x < y → im_Go z d F (pc + 3) lv st h u) : im_Go z d F pc lv (.inl y :: .inl x :: st) h (if x < y then t else u) :=
  im_fork _ (fun ad p l e R s m args below meth c H locs cells slots Q ls hC kt kf => lv_icmp_lt hC.1 hC.2.1 hd ht kt kf) k k2
theorem x_if_lt {x : Int32} {off : Int} (tgt : Nat) (hd : decode F.2.2.2.2.1 pc = .ok (.ifCond .lt off, 3)) (ht : (pc : Int) + off = (tgt : Int)) (k : x < 0 → im_Go z d F tgt lv st h t) (k2 : ¬ x < 0 → im_Go z d F (pc + 3) lv st h u) : im_Go z d F pc lv (.inl x :: st) h (if x < 0 then t else u) :=
  im_fork _ (fun ad p l e R s m args below meth c H locs cells slots Q ls hC kt kf => lv_if_lt hC.1 hC.2.1 hd ht kt kf) k k2
theorem x_icmp_ge {x y : Int32} {off : Int} (tgt : Nat) (hd : decode F.2.2.2.2.1 pc = .ok (.if_icmp .ge off, 3)) (ht : (pc : Int) + off = (tgt : Int)) (k : y ≤ x → im_Go z d F tgt lv st h t) (k2 : ¬ y ≤ x → im_Go z d F (pc + 3) lv st h u) : im_Go z d F pc lv (.inl y :: .inl x :: st) h (if y ≤ x then t else u) :=
  im_fork _ (fun ad p l e R s m args below meth c H locs cells slots Q ls hC kt kf => lv_icmp_ge hC.1 hC.2.1 hd ht kt kf) k k2
theorem x_if_ge {x : Int32} {off : Int} (tgt : Nat) (hd : decode F.2.2.2.2.1 pc = .ok (.ifCond .ge off, 3)) (ht : (pc : Int) + off = (tgt : Int)) (k : 0 ≤ x → im_Go z d F tgt lv st h t) (k2 : ¬ 0 ≤ x → im_Go z d F (pc + 3) lv st h u) : im_Go z d F pc lv (.inl x :: st) h (if 0 ≤ x then t else u) :=
  im_fork _ (fun ad p l e R s m args below meth c H locs cells slots Q ls hC kt kf => lv_if_ge hC.1 hC.2.1 hd ht kt kf) k k2
theorem x_icmp_gt {x y : Int32} {off : Int} (tgt : Nat) (hd : decode F.2.2.2.2.1 pc = .ok (.if_icmp .gt off, 3)) (ht : (pc : Int) + off = (tgt : Int)) (k : y < x → im_Go z d F tgt lv st h t) (k2 : ¬ y < x → im_Go z d F (pc + 3) lv st h u) : im_Go z d F pc lv (.inl y :: .inl x :: st) h (if y < x then t else u) :=
  im_fork _ (fun ad p l e R s m args below meth c H locs cells slots Q ls hC kt kf => lv_icmp_gt hC.1 hC.2.1 hd ht kt kf) k k2
theorem x_if_gt {x : Int32} {off : Int} (tgt : Nat) (hd : decode F.2.2.2.2.1 pc = .ok (.ifCond .gt off, 3)) (ht : (pc : Int) + off = (tgt : Int)) (k : 0 < x → im_Go z d F tgt lv st h t) (k2 : ¬ 0 < x → im_Go z d F (pc + 3) lv st h u) : im_Go z d F pc lv (.inl x :: st) h (if 0 < x then t else u) :=
  im_fork _ (fun ad p l e R s m args below meth c H locs cells slots Q ls hC kt kf => lv_if_gt hC.1 hC.2.1 hd ht kt kf) k k2
theorem x_icmp_le {x y : Int32} {off : Int} (tgt : Nat) (hd : decode F.2.2.2.2.1 pc = .ok (.if_icmp .le off, 3)) (ht : (pc : Int) + off = (tgt : Int)) (k : x ≤ y → im_Go z d F tgt lv st h t) (k2 : ¬ x ≤ y → im_Go z d F (pc + 3) lv st h u) : im_Go z d F pc lv (.inl y :: .inl x :: st) h (if x ≤ y then t else u) :=
  im_fork _ (fun ad p l e R s m args below meth c H locs cells slots Q ls hC kt kf => lv_icmp_le hC.1 hC.2.1 hd ht kt kf) k k2
theorem x_if_le {x : Int32} {off : Int} (tgt : Nat) (hd : decode F.2.2.2.2.1 pc = .ok (.ifCond .le off, 3)) (ht : (pc : Int) + off = (tgt : Int)) (k : x ≤ 0 → im_Go z d F tgt lv st h t) (k2 : ¬ x ≤ 0 → im_Go z d F (pc + 3) lv st h u) : im_Go z d F pc lv (.inl x :: st) h (if x ≤ 0 then t else u) :=
  im_fork _ (fun ad p l e R s m args below meth c H locs cells slots Q ls hC kt kf => lv_if_le hC.1 hC.2.1 hd ht kt kf) k k2
theorem x_icmp_ne {x y : Int32} {off : Int} (tgt : Nat) (hd : decode F.2.2.2.2.1 pc = .ok (.if_icmp .ne off, 3)) (ht : (pc : Int) + off = (tgt : Int)) (k : x = y → im_Go z d F (pc + 3) lv st h t) (k2 : ¬ x = y → im_Go z d F tgt lv st h u) : im_Go z d F pc lv (.inl y :: .inl x :: st) h (if x = y then t else u) :=
  im_fork _ (fun ad p l e R s m args below meth c H locs cells slots Q ls hC kt kf => lv_icmp_ne hC.1 hC.2.1 hd ht kf kt) k k2
theorem x_if_ne {x : Int32} {off : Int} (tgt : Nat) (hd : decode F.2.2.2.2.1 pc = .ok (.ifCond .ne off, 3)) (ht : (pc : Int) + off = (tgt : Int)) (k : x = 0 → im_Go z d F (pc + 3) lv st h t) (k2 : ¬ x = 0 → im_Go z d F tgt lv st h u) : im_Go z d F pc lv (.inl x :: st) h (if x = 0 then t else u) :=
  im_fork _ (fun ad p l e R s m args below meth c H locs cells slots Q ls hC kt kf => lv_if_ne hC.1 hC.2.1 hd ht kf kt) k k2
theorem x_ifnull {o : Option Nat} {off : Int} (tgt : Nat) (hd : decode F.2.2.2.2.1 pc = .ok (.ifnull off, 3)) (ht : (pc : Int) + off = (tgt : Int)) (k : o = none → im_Go z d F tgt lv st h t) (k2 : ¬ o = none → im_Go z d F (pc + 3) lv st h u) : im_Go z d F pc lv (.inr o :: st) h (if o = none then t else u) :=
  im_fork _ (fun ad p l e R s m args below meth c H locs cells slots Q ls hC kt kf => by
    cases o with
    | none => exact lv_ifnullN hC.1 hC.2.1 hd ht (kt rfl)
    | some x => exact lv_ifnull hC.1 hC.2.1 hd (kf (by simp))) k k2
theorem x_ifnonnull {o : Option Nat} {off : Int} (tgt : Nat) (hd : decode F.2.2.2.2.1 pc = .ok (.ifnonnull off, 3)) (ht : (pc : Int) + off = (tgt : Int)) (k : o = none → im_Go z d F (pc + 3) lv st h t) (k2 : ¬ o = none → im_Go z d F tgt lv st h u) : im_Go z d F pc lv (.inr o :: st) h (if o = none then t else u) :=
  im_fork _ (fun ad p l e R s m args below meth c H locs cells slots Q ls hC kt kf => by
    cases o with
    | none => exact lv_ifnonnullN hC.1 hC.2.1 hd (kt rfl)
    | some x => exact lv_ifnonnull hC.1 hC.2.1 hd ht (kf (by simp))) k k2
end XR
end
section
/-! the small machine: fields, arrays, answers -/
def im_cf (ci : Nat) (T : u_T) (N : Nat) : Prop := nm_cl[ci]? = some (nm_R ci, T, N) ∧ (∀ w ∈ u_ws (nm_R ci) T N, w ∈ im_g) ∧ (∀ k, k < N → parseFieldDescriptor (T k).2.2.1 = some (nm_ty ci k)) ∧ (∀ a, a < N → ∀ b, b < N → a ≠ b → (T a).2.1 ≠ (T b).2.1) ∧ N ≤ 32
/-- field idx of the class own's file is field k of class ci -/
def im_fl (own idx ci k : Nat) (fin : Bool) : Prop := ∃ T N, im_cf ci T N ∧ k < N ∧ Cond.fieldLink (nm_R own) idx (T k).1 (T k).2.1 (T k).2.2.1 ∈ im_g ∧ (T k).2.2.2 = fin ∧ (T k).1 = nm_R ci
def im_r (ci k : Nat) : Bool := match nm_ty ci k with
  | .object _ => true
  | .array _ => true
  | _ => false
abbrev im_K (h : im_H) (j : Nat) : Nat × Nat := h.2.1 j
abbrev im_gI (h : im_H) (j k : Nat) : Int32 := h.2.2.2 j k
abbrev im_gR (h : im_H) (j k : Nat) : Option Nat := h.2.2.1 j k
def im_pI (h : im_H) (j k : Nat) (x : Int32) : im_H := (h.1, h.2.1, h.2.2.1, im_u h.2.2.2 j k x)
def im_pR (h : im_H) (j k : Nat) (x : Option Nat) : im_H := (h.1, h.2.1, im_u h.2.2.1 j k x, h.2.2.2)
/-- place i lies in the array j of kind kd -/
abbrev im_in (h : im_H) (kd j : Nat) (i : Int32) : Prop := (h.2.1 j).1 = kd ∧ 0 ≤ i.toInt ∧ i.toInt < (h.2.1 j).2
theorem im_Wset {cs : ClassId × ClassId × ClassId} {ad : Nat → Nat} {h h' : im_H} {j : Nat} {e : va_E} (h1 : h'.1 = h.1) (hj : im_e cs ad (h'.2.1 j) (h'.2.2.1 j) (h'.2.2.2 j) = e)
    (ho : ∀ i, i ≠ j → h'.2.1 i = h.2.1 i ∧ h'.2.2.1 i = h.2.2.1 i ∧ h'.2.2.2 i = h.2.2.2 i) : (im_W cs ad h).set j (ad j, e) = im_W cs ad h' := by
  apply List.ext_getElem?
  intro i
  by_cases hi : i < h.1.1
  · have hi' : i < h'.1.1 := by rw [h1]; exact hi
    rw [im_Wat hi']
    by_cases hij : i = j
    · subst hij
      rw [List.getElem?_set_self (by simpa [im_W] using hi), hj]
    · rw [List.getElem?_set_ne (fun q => hij q.symm), im_Wat hi, (ho i hij).1, (ho i hij).2.1, (ho i hij).2.2]
  · rw [List.getElem?_eq_none (by simp [im_W]; omega), List.getElem?_eq_none (by simp [im_W, h1]; omega)]
theorem im_uo {α : Type} (f : Nat → Nat → α) (j k : Nat) (x : α) {i : Nat} (hi : i ≠ j) : im_u f j k x i = f i := by
  funext b
  simp [im_u, hi]
theorem im_us (f : Nat → Nat → Int32) (j k : Nat) (x : Int32) : im_u f j k x j = upd (f j) k x := by
  funext b
  simp [im_u, upd]
theorem im_N_of {ci : Nat} {T : u_T} {N : Nat} (h : im_cf ci T N) : im_N ci = N := by
  unfold im_N
  rw [h.1]
theorem im_fs_at {ad : Nat → Nat} {ci : Nat} {r : Nat → Option Nat} {f : Nat → Int32} {k : Nat} (hk : k < im_N ci) : (im_fs ad ci r f)[k]? = some (if im_i ci k = true then .int (f k) else va_re ad (r k)) := by
  simp [im_fs, hk]
theorem im_fs_I {ad : Nat → Nat} {ci : Nat} {r : Nat → Option Nat} {f : Nat → Int32} {k : Nat} {x : Int32} (hi : im_i ci k = true) : (im_fs ad ci r f).set k (.int x) = im_fs ad ci r (upd f k x) := by
  apply List.ext_getElem?
  intro i
  by_cases hl : i < im_N ci
  · rw [im_fs_at hl]
    by_cases hik : i = k
    · subst hik
      rw [List.getElem?_set_self (by simpa [im_fs] using hl)]
      simp [hi, upd]
    · rw [List.getElem?_set_ne (fun q => hik q.symm), im_fs_at hl]
      simp [upd, hik]
  · rw [List.getElem?_eq_none (by simp [im_fs]; omega), List.getElem?_eq_none (by simp [im_fs]; omega)]
theorem im_fs_R {ad : Nat → Nat} {ci : Nat} {r r' : Nat → Option Nat} {f : Nat → Int32} {k : Nat} {x : Option Nat} (hi : im_i ci k = false) (hs : r' k = x) (ho : ∀ i, i ≠ k → r' i = r i) : (im_fs ad ci r f).set k (va_re ad x) = im_fs ad ci r' f := by
  apply List.ext_getElem?
  intro i
  by_cases hl : i < im_N ci
  · rw [im_fs_at hl]
    by_cases hik : i = k
    · subst hik
      rw [List.getElem?_set_self (by simpa [im_fs] using hl)]
      simp [hi, hs]
    · rw [List.getElem?_set_ne (fun q => hik q.symm), im_fs_at hl, ho i hik]
  · rw [List.getElem?_eq_none (by simp [im_fs]; omega), List.getElem?_eq_none (by simp [im_fs]; omega)]
theorem im_ri {ci k : Nat} (h : im_r ci k = true) : im_i ci k = false := by
  unfold im_r at h
  unfold im_i
  split at h <;> simp_all
theorem im_fit {ci k : Nat} (h : im_r ci k = true) (ad : Nat → Nat) (o : Option Nat) : narrow (nm_ty ci k) (va_re ad o) = va_re ad o ∧ fits (nm_ty ci k) (va_re ad o) = true := by
  unfold im_r at h
  split at h
  · rename_i hq; rw [hq]; cases o <;> exact ⟨rfl, rfl⟩
  · rename_i hq; rw [hq]; cases o <;> exact ⟨rfl, rfl⟩
  · cases h
theorem im_ity {ci k : Nat} (h : im_i ci k = true) : nm_ty ci k = .int := by
  unfold im_i at h
  split at h
  · assumption
  · cases h
theorem im_vpin {h : im_H} {kd j : Nat} {i : Int32} (hb : im_in h kd j i) : vp_in i (h.2.1 j).2 := vp_in_iff.mpr hb.2
section XH
variable {α : Type} {z : α → im_rs} {d : Nat} {F : im_F} {pc : Nat} {lv : im_L} {st : List im_V} {h : im_H} {t u : Option α}
theorem im_in_W {D : va_G} {cs : ClassId × ClassId × ClassId} {s : State} {A : Nat → Prop} {H : Heap} {locs : List Loc} {ad : Nat → Nat} (hS : im_St D cs s A H locs ad h) {j kd : Nat} (hj : (h.2.1 j).1 = kd) (h9 : kd ≠ 9) : (im_W cs ad h)[j]? = some (ad j, im_e cs ad (h.2.1 j) (h.2.2.1 j) (h.2.2.2 j)) := by
  refine im_Wat ?_
  by_cases hl : j < h.1.1
  · exact hl
  · exact absurd (hj.symm.trans (hS.2.2.2.2.2 j (Nat.le_of_not_lt hl))) h9
/-- a read of the heap -/
theorem im_read {pc' : Nat} {st' : List im_V}
    (hW : ∀ (D : va_G) (cs : ClassId × ClassId × ClassId) (A : Nat → Prop) (ad : Nat → Nat) (p : Program) (l : Launch) (e : Env) (R : Room) (s : State) (m : MethodId) (args : Array Value) (below : List Frame) (meth : Method) (c : Code) (H : Heap) (locs : List Loc) (cells slots : Nat) (Q : State → Prop) (ls : Array Slot), im_Cx p R s m args meth c d F → im_St D cs s A H locs ad h →
      W p l e R s m args below meth c H locs cells slots Q (F0 m pc' ls (st'.map (im_v ad))) → W p l e R s m args below meth c H locs cells slots Q (F0 m pc ls (st.map (im_v ad))))
    (k : im_Go z d F pc' lv st' h t) : im_Go z d F pc lv st h t := by
  intro a ha l D cs
  obtain ⟨k1, k2⟩ := k a ha l D cs
  refine ⟨k1, ?_⟩
  intro p e R s m args below meth c H locs cells slots mc ms Qc free ad A ls hC hS hl h1 h2 h3 h4 h5 h6
  exact hW D cs A ad p l e R s m args below meth c H locs cells slots _ ls hC hS (k2 p e R s m args below meth c H locs cells slots mc ms Qc free ad A ls hC hS hl h1 h2 h3 h4 h5 h6)
/-- a write into the heap that makes no cell -/
theorem im_write {pc' : Nat} {st' : List im_V} {h' : im_H} (hn : h'.1 = h.1)
    (hW : ∀ (D : va_G) (cs : ClassId × ClassId × ClassId) (A : Nat → Prop) (ad : Nat → Nat) (p : Program) (l : Launch) (e : Env) (R : Room) (s : State) (m : MethodId) (args : Array Value) (below : List Frame) (meth : Method) (c : Code) (H : Heap) (locs : List Loc) (cells slots : Nat) (Q : State → Prop) (ls : Array Slot), im_Cx p R s m args meth c d F → im_St D cs s A H locs ad h →
      (∀ H' locs', im_St D cs s A H' locs' ad h' → W p l e R s m args below meth c H' locs' cells slots Q (F0 m pc' ls (st'.map (im_v ad)))) → W p l e R s m args below meth c H locs cells slots Q (F0 m pc ls (st.map (im_v ad))))
    (k : im_Go z d F pc' lv st' h' t) : im_Go z d F pc lv st h t := by
  intro a ha l D cs
  obtain ⟨k1, k2⟩ := k a ha l D cs
  rw [hn] at k1 k2
  refine ⟨k1, ?_⟩
  intro p e R s m args below meth c H locs cells slots mc ms Qc free ad A ls hC hS hl h1 h2 h3 h4 h5 h6
  exact hW D cs A ad p l e R s m args below meth c H locs cells slots _ ls hC hS (fun H' locs' hS' => k2 p e R s m args below meth c H' locs' cells slots mc ms Qc free ad A ls hC hS' hl h1 h2 h3 h4 h5 (fun ad' H2 l2 t e1 e2 e3 => h6 ad' H2 l2 t e1 e2 (fun j hj => e3 j (by rw [hn]; exact hj))))
theorem x_getI {idx j ci k : Nat} {o : Option Nat} {fin : Bool} (hd : decode F.2.2.2.2.1 pc = .ok (.getfield idx, 3)) (hf : im_fl F.1 idx ci k fin) (hi : im_i ci k = true) (ho : o = some j) (hK : h.2.1 j = (0, ci)) (kk : im_Go z d F (pc + 3) lv (.inl (im_gI h j k) :: st) h t) : im_Go z d F pc lv (.inr o :: st) h t := by
  subst ho
  refine im_read (fun D cs A ad p l e R s m args below meth c H locs cells slots Q ls hC hS k9 => ?_) kk
  obtain ⟨T, N, hc, hk, hl, -, -⟩ := hf
  have he := im_in_W hS (j := j) (kd := 0) (by rw [hK]) (by decide)
  rw [hK] at he
  have hv : (im_fs ad ci (h.2.2.1 j) (h.2.2.2 j))[k]? = some (.int (h.2.2.2 j k)) := by
    rw [im_fs_at (by rw [im_N_of hc]; exact hk), if_pos hi]
  exact va_get hC.1 hC.2.1 hC.2.2.2.2.1 hc.2.1 hC.2.2.2.1 hS.1 hS.2.1 j he hc.1 k hk (hC.2.2.2.2.1 _ hl) (fun _ h9 => h9) hv hd k9
theorem x_getR {idx j ci k : Nat} {o : Option Nat} {fin : Bool} (hd : decode F.2.2.2.2.1 pc = .ok (.getfield idx, 3)) (hf : im_fl F.1 idx ci k fin) (hi : im_r ci k = true) (ho : o = some j) (hK : h.2.1 j = (0, ci)) (kk : im_Go z d F (pc + 3) lv (.inr (im_gR h j k) :: st) h t) : im_Go z d F pc lv (.inr o :: st) h t := by
  subst ho
  refine im_read (fun D cs A ad p l e R s m args below meth c H locs cells slots Q ls hC hS k9 => ?_) kk
  obtain ⟨T, N, hc, hk, hl, -, -⟩ := hf
  have he := im_in_W hS (j := j) (kd := 0) (by rw [hK]) (by decide)
  rw [hK] at he
  have hv : (im_fs ad ci (h.2.2.1 j) (h.2.2.2 j))[k]? = some (va_re ad (h.2.2.1 j k)) := by
    rw [im_fs_at (by rw [im_N_of hc]; exact hk), im_ri hi]
    simp
  exact va_get hC.1 hC.2.1 hC.2.2.2.2.1 hc.2.1 hC.2.2.2.1 hS.1 hS.2.1 j he hc.1 k hk (hC.2.2.2.2.1 _ hl) (fun _ h9 => h9) hv hd k9
theorem x_putI {idx j ci k : Nat} {o : Option Nat} {x : Int32} (hd : decode F.2.2.2.2.1 pc = .ok (.putfield idx, 3)) (hf : im_fl F.1 idx ci k false) (hi : im_i ci k = true) (ho : o = some j) (hK : h.2.1 j = (0, ci)) (kk : im_Go z d F (pc + 3) lv st (im_pI h j k x) t) : im_Go z d F pc lv (.inl x :: .inr o :: st) h t := by
  subst ho
  refine im_write (h' := im_pI h j k x) rfl (fun D cs A ad p l e R s m args below meth c H locs cells slots Q ls hC hS k9 => ?_) kk
  obtain ⟨T, N, hc, hk, hl, hfin, -⟩ := hf
  have he := im_in_W hS (j := j) (kd := 0) (by rw [hK]) (by decide)
  rw [hK] at he
  have hlen : k < (im_fs ad ci (h.2.2.1 j) (h.2.2.2 j)).length := by simp [im_fs, im_N_of hc, hk]
  have hty : parseFieldDescriptor (T k).2.2.1 = some .int := by rw [hc.2.2.1 k hk, im_ity hi]
  refine va_put (v := .int x) (ty := .int) hC.1 hC.2.1 hC.2.2.2.2.1 hc.2.1 (nm_ty ci) hc.2.2.1 hc.2.2.2.1 hC.2.2.2.1 hS.1 hS.2.1 hS.2.2.1 hS.2.2.2.1 j he hc.1 k hk (hC.2.2.2.2.1 _ hl) (fun _ h9 => h9) hfin hty rfl rfl hlen hd (fun H1 locs1 a1 a2 a3 => k9 H1 locs1 ?_)
  have hw : (im_W cs ad h).set j (ad j, .inr (ci, (im_fs ad ci (h.2.2.1 j) (h.2.2.2 j)).set k (.int x))) = im_W cs ad (im_pI h j k x) := by
    refine im_Wset rfl ?_ (fun i hi => ⟨rfl, rfl, im_uo _ _ _ _ hi⟩)
    show im_e cs ad (h.2.1 j) (h.2.2.1 j) (im_u h.2.2.2 j k x j) = _
    rw [hK, im_us, im_fs_I hi]
    rfl
  rw [hw] at a1 a2
  exact ⟨hS.1, a1, a2, a3, hS.2.2.2.2⟩
theorem x_putFI {idx j ci k : Nat} {o : Option Nat} {x : Int32} (hd : decode F.2.2.2.2.1 pc = .ok (.putfield idx, 3)) (hf : im_fl F.1 idx ci k true) (hini : F.2.1 = true) (hown : F.1 = ci) (hi : im_i ci k = true) (ho : o = some j) (hK : h.2.1 j = (0, ci)) (kk : im_Go z d F (pc + 3) lv st (im_pI h j k x) t) : im_Go z d F pc lv (.inl x :: .inr o :: st) h t := by
  subst ho
  refine im_write (h' := im_pI h j k x) rfl (fun D cs A ad p l e R s m args below meth c H locs cells slots Q ls hC hS k9 => ?_) kk
  obtain ⟨T, N, hc, hk, hl, hfin, hdc⟩ := hf
  have he := im_in_W hS (j := j) (kd := 0) (by rw [hK]) (by decide)
  rw [hK] at he
  have hlen : k < (im_fs ad ci (h.2.2.1 j) (h.2.2.2 j)).length := by simp [im_fs, im_N_of hc, hk]
  have hty : parseFieldDescriptor (T k).2.2.1 = some .int := by rw [hc.2.2.1 k hk, im_ity hi]
  refine va_putF (v := .int x) (ty := .int) hC.1 hC.2.1 hC.2.2.2.2.1 hc.2.1 (nm_ty ci) hc.2.2.1 hc.2.2.2.1 hC.2.2.2.1 hS.1 hS.2.1 hS.2.2.1 hS.2.2.2.1 j he hc.1 k hk (hC.2.2.2.2.1 _ hl) (fun _ h9 => h9) hfin (hC.2.2.2.2.2.2.2.1 hini) (by rw [hdc, hown]) hty rfl rfl hlen hd (fun H1 locs1 a1 a2 a3 => k9 H1 locs1 ?_)
  have hw : (im_W cs ad h).set j (ad j, .inr (ci, (im_fs ad ci (h.2.2.1 j) (h.2.2.2 j)).set k (.int x))) = im_W cs ad (im_pI h j k x) := by
    refine im_Wset rfl ?_ (fun i hi => ⟨rfl, rfl, im_uo _ _ _ _ hi⟩)
    show im_e cs ad (h.2.1 j) (h.2.2.1 j) (im_u h.2.2.2 j k x j) = _
    rw [hK, im_us, im_fs_I hi]
    rfl
  rw [hw] at a1 a2
  exact ⟨hS.1, a1, a2, a3, hS.2.2.2.2⟩
theorem x_putFR {idx j ci k : Nat} {o x : Option Nat} (hd : decode F.2.2.2.2.1 pc = .ok (.putfield idx, 3)) (hf : im_fl F.1 idx ci k true) (hini : F.2.1 = true) (hown : F.1 = ci) (hi : im_r ci k = true) (ho : o = some j) (hK : h.2.1 j = (0, ci)) (kk : im_Go z d F (pc + 3) lv st (im_pR h j k x) t) : im_Go z d F pc lv (.inr x :: .inr o :: st) h t := by
  subst ho
  refine im_write (h' := im_pR h j k x) rfl (fun D cs A ad p l e R s m args below meth c H locs cells slots Q ls hC hS k9 => ?_) kk
  obtain ⟨T, N, hc, hk, hl, hfin, hdc⟩ := hf
  have he := im_in_W hS (j := j) (kd := 0) (by rw [hK]) (by decide)
  rw [hK] at he
  have hlen : k < (im_fs ad ci (h.2.2.1 j) (h.2.2.2 j)).length := by simp [im_fs, im_N_of hc, hk]
  have hty : parseFieldDescriptor (T k).2.2.1 = some (nm_ty ci k) := hc.2.2.1 k hk
  refine va_putF (v := va_re ad x) (ty := nm_ty ci k) hC.1 hC.2.1 hC.2.2.2.2.1 hc.2.1 (nm_ty ci) hc.2.2.1 hc.2.2.2.1 hC.2.2.2.1 hS.1 hS.2.1 hS.2.2.1 hS.2.2.2.1 j he hc.1 k hk (hC.2.2.2.2.1 _ hl) (fun _ h9 => h9) hfin (hC.2.2.2.2.2.2.2.1 hini) (by rw [hdc, hown]) hty (im_fit hi ad x).1 (im_fit hi ad x).2 hlen hd (fun H1 locs1 a1 a2 a3 => k9 H1 locs1 ?_)
  have hw : (im_W cs ad h).set j (ad j, .inr (ci, (im_fs ad ci (h.2.2.1 j) (h.2.2.2 j)).set k (va_re ad x))) = im_W cs ad (im_pR h j k x) := by
    refine im_Wset rfl ?_ (fun i hi => ⟨rfl, im_uo _ _ _ _ hi, rfl⟩)
    show im_e cs ad (h.2.1 j) (im_u h.2.2.1 j k x j) (h.2.2.2 j) = _
    rw [hK, im_fs_R (r' := im_u h.2.2.1 j k x j) (im_ri hi) (by simp [im_u]) (fun i hi => by simp [im_u, hi])]
    rfl
  rw [hw] at a1 a2
  exact ⟨hS.1, a1, a2, a3, hS.2.2.2.2⟩
theorem x_iaload {j : Nat} {o : Option Nat} {i : Int32} (hd : decode F.2.2.2.2.1 pc = .ok (.iaload, 1)) (ho : o = some j) (hb : im_in h 1 j i) (kk : im_Go z d F (pc + 1) lv (.inl (im_gI h j i.toNatClampNeg) :: st) h t) : im_Go z d F pc lv (.inl i :: .inr o :: st) h t := by
  subst ho
  refine im_read (fun D cs A ad p l e R s m args below meth c H locs cells slots Q ls hC hS k9 => ?_) kk
  have he := im_in_W hS hb.1 (by decide)
  have he2 : im_e cs ad (h.2.1 j) (h.2.2.1 j) (h.2.2.2 j) = .inl (cs.1, (h.2.1 j).2, .inl (h.2.2.2 j)) := by
    unfold im_e
    rw [hb.1]
    rfl
  rw [he2] at he
  exact va_iald hC.1 hC.2.1 hS.1 hS.2.1 j 0 he rfl (im_vpin hb) hd k9
theorem x_baload {j : Nat} {o : Option Nat} {i : Int32} (hd : decode F.2.2.2.2.1 pc = .ok (.baload, 1)) (ho : o = some j) (hb : im_in h 2 j i) (kk : im_Go z d F (pc + 1) lv (.inl (im_gI h j i.toNatClampNeg) :: st) h t) : im_Go z d F pc lv (.inl i :: .inr o :: st) h t := by
  subst ho
  refine im_read (fun D cs A ad p l e R s m args below meth c H locs cells slots Q ls hC hS k9 => ?_) kk
  have he := im_in_W hS hb.1 (by decide)
  have he2 : im_e cs ad (h.2.1 j) (h.2.2.1 j) (h.2.2.2 j) = .inl (cs.2.1, (h.2.1 j).2, .inl (h.2.2.2 j)) := by
    unfold im_e
    rw [hb.1]
    rfl
  rw [he2] at he
  exact va_zald hC.1 hC.2.1 hS.1 hS.2.1 j 1 he rfl (im_vpin hb) hd k9
theorem x_aaload {j : Nat} {o : Option Nat} {i : Int32} (hd : decode F.2.2.2.2.1 pc = .ok (.aaload, 1)) (ho : o = some j) (hb : im_in h 3 j i ∧ (h.2.1 j).2 ≤ 32) (kk : im_Go z d F (pc + 1) lv (.inr (im_gR h j i.toNatClampNeg) :: st) h t) : im_Go z d F pc lv (.inl i :: .inr o :: st) h t := by
  subst ho
  refine im_read (fun D cs A ad p l e R s m args below meth c H locs cells slots Q ls hC hS k9 => ?_) kk
  obtain ⟨hb, hb2⟩ := hb
  have he := im_in_W hS hb.1 (by decide)
  have he2 : im_e cs ad (h.2.1 j) (h.2.2.1 j) (h.2.2.2 j) = .inl (cs.2.2, (h.2.1 j).2, .inr (.inr (.inr (.inr (im_ra ad (h.2.2.1 j)))))) := by
    unfold im_e
    rw [hb.1]
    rfl
  rw [he2] at he
  refine va_aldq hC.1 hC.2.1 hS.1 hS.2.1 j 2 he rfl (im_vpin hb) hd ?_
  have hi : i.toNatClampNeg < 32 := by
    have := hb.2.2
    have := hb.2.1
    show i.toInt.toNat < 32
    omega
  have hv : va_rf (im_ra ad (h.2.2.1 j) i.toNatClampNeg) = im_v ad (.inr (im_gR h j i.toNatClampNeg)) := by
    simp only [im_ra, hi, if_true]
    rfl
  rw [hv]
  exact k9
theorem x_alen {j : Nat} {o : Option Nat} (v : Int32) (hd : decode F.2.2.2.2.1 pc = .ok (.arraylength, 1)) (ho : o = some j) (hb : (h.2.1 j).1 = 1) (hv : Int32.ofNat (h.2.1 j).2 = v) (kk : im_Go z d F (pc + 1) lv (.inl v :: st) h t) : im_Go z d F pc lv (.inr o :: st) h t := by
  subst ho
  refine im_read (fun D cs A ad p l e R s m args below meth c H locs cells slots Q ls hC hS k9 => ?_) kk
  have he := im_in_W hS hb (by decide)
  have he2 : im_e cs ad (h.2.1 j) (h.2.2.1 j) (h.2.2.2 j) = .inl (cs.1, (h.2.1 j).2, .inl (h.2.2.2 j)) := by
    unfold im_e
    rw [hb]
    rfl
  rw [he2] at he
  exact va_alen hC.1 hC.2.1 hS.1 hS.2.1 j 0 he rfl hv hd k9
theorem x_iastore {j : Nat} {o : Option Nat} {i x : Int32} (hd : decode F.2.2.2.2.1 pc = .ok (.iastore, 1)) (ho : o = some j) (hb : im_in h 1 j i) (kk : im_Go z d F (pc + 1) lv st (im_pI h j i.toNatClampNeg x) t) : im_Go z d F pc lv (.inl x :: .inl i :: .inr o :: st) h t := by
  subst ho
  refine im_write (h' := im_pI h j i.toNatClampNeg x) rfl (fun D cs A ad p l e R s m args below meth c H locs cells slots Q ls hC hS k9 => ?_) kk
  have he := im_in_W hS hb.1 (by decide)
  have he2 : ∀ f, im_e cs ad (h.2.1 j) (h.2.2.1 j) f = .inl (cs.1, (h.2.1 j).2, .inl f) := by
    intro f
    unfold im_e
    rw [hb.1]
    rfl
  rw [he2] at he
  refine va_iast hC.1 hC.2.1 hS.1 hS.2.1 hS.2.2.1 hS.2.2.2.1 j 0 he rfl (im_vpin hb) hd (fun H1 locs1 a1 a2 a3 => k9 H1 locs1 ?_)
  have hw : (im_W cs ad h).set j (ad j, .inl (cs.1, (h.2.1 j).2, .inl (upd (h.2.2.2 j) i.toNatClampNeg x))) = im_W cs ad (im_pI h j i.toNatClampNeg x) := by
    refine im_Wset rfl ?_ (fun i hi => ⟨rfl, rfl, im_uo _ _ _ _ hi⟩)
    show im_e cs ad (h.2.1 j) (h.2.2.1 j) (im_u h.2.2.2 j i.toNatClampNeg x j) = _
    rw [he2, im_us]
  rw [hw] at a1 a2
  exact ⟨hS.1, a1, a2, a3, hS.2.2.2.2⟩
theorem x_bastore {j : Nat} {o : Option Nat} {i x : Int32} (hd : decode F.2.2.2.2.1 pc = .ok (.bastore, 1)) (ho : o = some j) (hb : im_in h 2 j i) (kk : im_Go z d F (pc + 1) lv st (im_pI h j i.toNatClampNeg (x &&& 1)) t) : im_Go z d F pc lv (.inl x :: .inl i :: .inr o :: st) h t := by
  subst ho
  refine im_write (h' := im_pI h j i.toNatClampNeg (x &&& 1)) rfl (fun D cs A ad p l e R s m args below meth c H locs cells slots Q ls hC hS k9 => ?_) kk
  have he := im_in_W hS hb.1 (by decide)
  have he2 : ∀ f, im_e cs ad (h.2.1 j) (h.2.2.1 j) f = .inl (cs.2.1, (h.2.1 j).2, .inl f) := by
    intro f
    unfold im_e
    rw [hb.1]
    rfl
  rw [he2] at he
  refine va_zast hC.1 hC.2.1 hS.1 hS.2.1 hS.2.2.1 hS.2.2.2.1 j 1 he rfl (im_vpin hb) hd (fun H1 locs1 a1 a2 a3 => k9 H1 locs1 ?_)
  have hn : vp_nar .boolean x = x &&& 1 := rfl
  rw [hn] at a1 a2
  have hw : (im_W cs ad h).set j (ad j, .inl (cs.2.1, (h.2.1 j).2, .inl (upd (h.2.2.2 j) i.toNatClampNeg (x &&& 1)))) = im_W cs ad (im_pI h j i.toNatClampNeg (x &&& 1)) := by
    refine im_Wset rfl ?_ (fun i hi => ⟨rfl, rfl, im_uo _ _ _ _ hi⟩)
    show im_e cs ad (h.2.1 j) (h.2.2.1 j) (im_u h.2.2.2 j i.toNatClampNeg (x &&& 1) j) = _
    rw [he2, im_us]
  rw [hw] at a1 a2
  exact ⟨hS.1, a1, a2, a3, hS.2.2.2.2⟩
/-- the end of a method -/
theorem im_end {v : Option im_V} {a : α} (hz : z a = (v, h))
    (hW : ∀ (ad : Nat → Nat) (p : Program) (l : Launch) (e : Env) (R : Room) (s : State) (m : MethodId) (args : Array Value) (below : List Frame) (meth : Method) (c : Code) (H : Heap) (locs : List Loc) (cells slots : Nat) (Qc : Array Value → State → Outcome → State → Prop) (free : Addr → Prop) (ls : Array Slot), im_Cx p R s m args meth c d F →
      (∀ t : State, t.heap = H → s.WarmedH t.vm → Qc args s (.returned (v.map (im_v ad))) t) → (∀ q ∈ locs, free q.base) → W p l e R s m args below meth c H locs cells slots (MQ below Qc args s cells slots free) (F0 m pc ls (st.map (im_v ad)))) : im_Go z d F pc lv st h (some a) := by
  intro a' ha l D cs
  cases ha
  rw [hz]
  refine ⟨⟨Nat.le_refl _, Nat.le_refl _, fun _ => rfl⟩, ?_⟩
  intro p e R s m args below meth c H locs cells slots mc ms Qc free ad A ls hC hS hl h1 h2 h3 h4 h5 h6
  simp only [Nat.sub_self, Nat.add_zero] at h1 h2
  subst h1
  subst h2
  exact hW ad p l e R s m args below meth c H locs cells slots Qc free ls hC (fun t ht hw => h6 ad H locs t ht hw (fun _ _ => rfl) hS) (fun q hq => h5 _ (hS.2.2.2.1.2.2 q hq))
theorem x_ireturn {v : Int32} (hd : decode F.2.2.2.2.1 pc = .ok (.ireturn, 1)) (hr : F.2.2.2.1 = some .int) : im_Go im_zI d F pc lv [.inl v] h (some (v, h)) :=
  im_end (v := some (.inl v)) rfl (fun ad p l e R s m args below meth c H locs cells slots Qc free ls hC hq hf => W.iret (v := v) hC.1 hC.2.1 (hC.2.2.2.2.2.1.trans hr) hq hf hd hC.2.2.2.2.2.2.1)
theorem x_zreturn {v : Int32} (hd : decode F.2.2.2.2.1 pc = .ok (.ireturn, 1)) (hr : F.2.2.2.1 = some .boolean) (hv : v &&& 1 = v) : im_Go im_zI d F pc lv [.inl v] h (some (v, h)) :=
  im_end (v := some (.inl v)) rfl (fun ad p l e R s m args below meth c H locs cells slots Qc free ls hC hq hf => W.zret (v := v) hC.1 hC.2.1 (hC.2.2.2.2.2.1.trans hr) (by simp [narrow, hv]) hq hf hd hC.2.2.2.2.2.2.1)
theorem x_return (hd : decode F.2.2.2.2.1 pc = .ok (.return_, 1)) (hr : F.2.2.2.1 = none) : im_Go im_zV d F pc lv [] h (some h) :=
  im_end (v := none) rfl (fun ad p l e R s m args below meth c H locs cells slots Qc free ls hC hq hf => W.vret hC.1 hC.2.1 (hC.2.2.2.2.2.1.trans hr) hq hf hd hC.2.2.2.2.2.2.1)
theorem x_areturn {v : Option Nat} {n : String} (hd : decode F.2.2.2.2.1 pc = .ok (.areturn, 1)) (hr : F.2.2.2.1 = some (.object n)) : im_Go im_zR d F pc lv [.inr v] h (some (v, h)) :=
  im_end (v := some (.inr v)) rfl (fun ad p l e R s m args below meth c H locs cells slots Qc free ls hC hq hf => W.aret (v := im_v ad (.inr v)) hC.1 hC.2.1 (hC.2.2.2.2.2.1.trans hr) (Or.inl ⟨_, rfl⟩) (by cases v with | none => exact Or.inl rfl | some a => exact Or.inr ⟨_, rfl⟩) hq hf hd hC.2.2.2.2.2.2.1)
end XH
end
section
/-! the small machine: calls -/
def im_en : Nat → List im_V → im_L
  | _, [] => []
  | i, v :: vs => (i, v) :: im_en (i + 1) vs
theorem im_en_args (ad : Nat → Nat) : ∀ (as : List im_V) (i : Nat), lv_args i (as.map (im_v ad)) = im_lv ad (im_en i as)
  | [], _ => rfl
  | v :: vs, i => by
    have h := im_en_args ad vs (i + 1)
    simp only [List.map_cons, lv_args, im_cat]
    simp only [im_en, im_lv, List.map_cons]
    rw [if_neg (by decide), h]
    rfl
theorem im_lgl (ad : Nat → Nat) : ∀ as : List im_V, (lg_sl (as.map (im_v ad))).length = as.length
  | [] => rfl
  | v :: vs => by
    have h := im_lgl ad vs
    unfold lg_sl at h ⊢
    simp only [List.map_cons, List.flatMap_cons, List.length_append, im_cat, List.length_cons]
    rw [if_neg (by decide), h]
    simp
    omega
theorem im_goodIn {ws : List Cond} (h : ∀ w ∈ ws, w ∈ im_g) : GoodIn im_g ws := fun w hw => ⟨h w hw, good_of_word (List.mem_filter.mp (h w hw)).2⟩
def im_mf (y : MethodName) (na : Nat) (F : im_F) : Prop := plainName y.cls = true ∧ Cond.code y F.2.2.2.2.1 F.2.2.2.2.2 F.2.2.2.1 ∈ im_g ∧ Cond.initialized y.cls ∈ im_g ∧ (y.cls ≠ "java/lang/invoke/MethodHandle" ∧ y.cls ≠ "java/lang/invoke/VarHandle") ∧ y.cls = nm_R F.1 ∧ na ≤ F.2.2.2.2.2 ∧ F.2.2.2.2.2 ≤ 13 ∧ (F.2.1 = true → y.name = "<init>")
abbrev im_ws (y : MethodName) (F : im_F) : List Cond := Cond.code y F.2.2.2.2.1 F.2.2.2.2.2 F.2.2.2.1 :: im_g
abbrev im_rm (d : Nat) (h : im_H) (r : im_rs) : Room := { frames := d, cells := r.2.1.1 - h.1.1, slots := r.2.1.2 - h.1.2, locals := 32 * d }
def im_Pc (D : va_G) (cs : ClassId × ClassId × ClassId) (ad : Nat → Nat) (h : im_H) (sz : Nat) (as : List im_V) : Array Value → State → Prop := va_Pc (as.map (im_v ad)) (fun U => U.heap.size = sz ∧ va_P D nm_cl (im_W cs ad h) U.heap ∧ va_K D nm_cl (im_tys cs) U ∧ va_D (fun _ => True) (im_W cs ad h) ∧ (∀ j, h.1.1 ≤ j → (h.2.1 j).1 = 9) ∧ im_Nx U)
def im_Qc (D : va_G) (cs : ClassId × ClassId × ClassId) (ad : Nat → Nat) (h : im_H) (r : im_rs) (A : Nat → Prop) : Array Value → State → Outcome → State → Prop := fun _ st oc t => (∃ ad', oc = .returned (r.1.map (im_v ad')) ∧ im_Ad h r.2 ad ad' ∧ va_P D nm_cl (im_W cs ad' r.2) t.heap ∧ va_K D nm_cl (im_tys cs) t ∧ va_D A (im_W cs ad' r.2) ∧ ∀ j, r.2.1.1 ≤ j → (r.2.2.1 j).1 = 9) ∧ va_F A st t
theorem im_met {y : MethodName} {na d : Nat} {F : im_F} {as : List im_V} {h : im_H} {r : im_rs} (hm : im_mf y na F) (ha : as.length = na) (hE : im_Ev d F 0 (im_en 0 as) [] h r) (l : Launch) (D : va_G) (cs : ClassId × ClassId × ClassId) (ad : Nat → Nat) (sz : Nat) :
    Met l y (im_ws y F) (im_rm d h r) (im_Pc D cs ad h sz as) (im_Qc D cs ad h r (va_A (im_W cs ad h) sz)) (r.2.1.1 - h.1.1) (r.2.1.2 - h.1.2) (va_A (im_W cs ad h) sz) := by
  refine Met.ofW (cc := F.2.2.2.2.1) (maxL := F.2.2.2.2.2) (ret := F.2.2.2.1) hm.1 rfl ?_
  intro p e s m args below meth c s₁ B hml hv
  obtain ⟨rfl, hsz, hP, hK, hD0, h9, hnx⟩ := hv
  have hts := atoms_spec (ws := im_ws y F) B.pre
  have hown : s.vm.findClass (nm_R F.1) = some m.cls := by rw [← hm.2.2.2.2.1]; exact findClass_of_methodNamed B.named
  have hnm : meth.name = y.name := (name_of_methodNamed B.named B.method).1
  subst hsz
  obtain ⟨-, k2⟩ := hE l D cs
  have hl := lv_entry (as.map (im_v ad)) (n := F.2.2.2.2.2) (by rw [im_lgl, ha]; exact hm.2.2.2.2.2.1)
  rw [im_en_args] at hl
  rw [lg_entry_eq]
  exact k2 p e _ s m _ below meth c s.heap [] 0 0 _ _ _ _ ad (va_A (im_W cs ad h) s.heap.size) _ ⟨B.exec, B.bytes, hml, hown, fun w h => hts w (List.mem_cons_of_mem _ h), B.returns, B.notSynchronized, fun hi => by rw [hnm]; exact hm.2.2.2.2.2.2.2 hi, rfl, rfl, hnx⟩ ⟨hK, hP, hD0.self, va_S.rf, fun q h => Or.inr h, h9⟩ hl (Nat.zero_add _) (Nat.zero_add _) (Nat.le_refl _) (Nat.le_refl _) (fun _ h => h) (fun ad' H' locs' t ht hw hA hS => ⟨⟨ad', rfl, hA, by rw [ht]; exact hS.2.1, va_K.moved hw.alike hS.1, hS.2.2.1, hS.2.2.2.2.2⟩, hS.2.2.2.1.F ht⟩)
theorem im_blind {D : va_G} {cs : ClassId × ClassId × ClassId} {ad : Nat → Nat} {h : im_H} {sz : Nat} {as : List im_V} : FrameBlind (im_Pc D cs ad h sz as) := fun a U g mk q => by
  obtain ⟨q0, q1, qP, qK, qD, q9, qN⟩ := q
  exact ⟨q0, q1, qP, va_K.moved (u := U) (U := U.calling g mk a) (Vm.Alike.refl U.vm) qK, qD, q9, qN.same rfl⟩
section CK
variable {p : Program} {l : Launch} {e : Env} {R : Room} {s : State} {m : MethodId} {args : Array Value} {below : List Frame} {meth : Method} {c : Code} {H : Heap} {locs : List Loc} {cells slots mc ms : Nat} {Q : State → Prop} {D : va_G} {cs : ClassId × ClassId × ClassId} {A : Nat → Prop} {ad : Nat → Nat} {h : im_H} {r : im_rs} {pc : Nat} {ls : Array Slot} {st0 rest : List Value} {a : Array Value}
theorem im_callk (hr : va_Run p l e R s m args below meth c H locs cells slots mc ms (F0 m pc ls st0) rest (im_Qc D cs ad h r (va_A (im_W cs ad h) H.size) a) (va_A (im_W cs ad h) H.size)) (hS : im_St D cs s A H locs ad h)
    (kk : ∀ (ad' : Nat → Nat) (H1 : Heap) (locs1 : List Loc), im_Ad h r.2 ad ad' → im_St D cs s A H1 locs1 ad' r.2 → W p l e R s m args below meth c H1 locs1 (cells + mc) (slots + ms) Q (F0 m (pc + 3) ls ((r.1.map (im_v ad')).toList ++ rest))) : W p l e R s m args below meth c H locs cells slots Q (F0 m pc ls st0) := by
  intro T hT X
  obtain ⟨v, st₀, t, T', L, h0, X', hL, e1, e2, ⟨⟨ad', hv, hA, hP1, hK1, hD1, h91⟩, hz, hk⟩, st⟩ := hr T hT X
  cases hv
  rw [h0] at hz hk
  have hfree : ∀ q, va_A (im_W cs ad h) H.size q → A q := by
    intro q hq
    rcases hq with ⟨k, e', hq⟩ | hq
    · exact hS.2.2.1.2 k (q, e') hq
    · exact hS.2.2.2.2.1 q (Nat.le_trans hS.2.2.2.1.1 hq)
  have hS0 := hS.2.2.2.1
  obtain ⟨t2, a1, b1⟩ := kk ad' T'.heap (locs ++ L) hA ⟨hS.1, by rw [e1]; exact hP1, hD1.weaken (fun _ _ _ h => hfree _ h),
    ⟨Nat.le_trans hS0.1 (by rw [e1]; exact hz), fun q h1 h2 => by rw [e1, hk q (Nat.lt_of_lt_of_le h1 hS0.1) (fun z => h2 (hfree q z))]; exact hS0.2.1 q h1 h2, fun q hq => by
      rcases List.mem_append.mp hq with h | h
      · exact hS0.2.2 q h
      · exact hfree _ (hL q h)⟩, hS.2.2.2.2.1, h91⟩ T' rfl X'
  exact ⟨t2, st t2 a1, b1⟩
end CK
theorem im_vs (ad : Nat → Nat) (o : Option im_V) (rest : List im_V) : (o.map (im_v ad)).toList ++ rest.map (im_v ad) = (o.toList ++ rest).map (im_v ad) := by
  cases o <;> rfl
/-- a reference that is there -/
def im_ok (n : Nat) (v : im_V) : Bool := match v with
  | .inr (some j) => decide (j < n)
  | _ => true
theorem im_ok_v {n : Nat} {v : im_V} {ad ad' : Nat → Nat} (h : im_ok n v = true) (ha : ∀ j, j < n → ad' j = ad j) : im_v ad' v = im_v ad v := by
  cases v with
  | inl x => rfl
  | inr r =>
    cases r with
    | none => rfl
    | some j =>
      simp only [im_ok, decide_eq_true_eq] at h
      show Value.ref (ad' j) = Value.ref (ad j)
      rw [ha j h]
/-- what a callee's contract gives the caller: the run of the call, by its kind -/
abbrev im_Run (F : im_F) (d : Nat) (pc : Nat) (st : List im_V) (h : im_H) (y : MethodName) (d' : Nat) (F' : im_F) (as rest : List im_V) : Prop :=
  ∀ (p : Program) (l : Launch) (e : Env) (R : Room) (s : State) (m : MethodId) (args : Array Value) (below : List Frame) (meth : Method) (c : Code) (H : Heap) (locs : List Loc) (cells slots : Nat) (D : va_G) (cs : ClassId × ClassId × ClassId) (A : Nat → Prop) (ad : Nat → Nat) (ls : Array Slot) (r : im_rs) (Qc : Array Value → State → Outcome → State → Prop) (free : Addr → Prop),
    im_Cx p R s m args meth c d F → im_St D cs s A H locs ad h → ls.size = F.2.2.2.2.2 → Met l y (im_ws y F') (im_rm d' h r) (im_Pc D cs ad h H.size as) Qc (r.2.1.1 - h.1.1) (r.2.1.2 - h.1.2) free → cells + (r.2.1.1 - h.1.1) ≤ R.cells → slots + (r.2.1.2 - h.1.2) ≤ R.slots →
    va_Run p l e R s m args below meth c H locs cells slots (r.2.1.1 - h.1.1) (r.2.1.2 - h.1.2) (F0 m pc ls (st.map (im_v ad))) (rest.map (im_v ad)) (Qc (as.map (im_v ad)).toArray) free
theorem im_call {α β : Type} {z : α → im_rs} {zb : β → im_rs} {d d' : Nat} {F F' : im_F} {pc : Nat} {lv : im_L} {st as rest : List im_V} {h : im_H} {tb : Option β} {k : β → Option α} {y : MethodName} {na : Nat}
    (hm : im_mf y na F') (ha : as.length = na) (hE : im_Go zb d' F' 0 (im_en 0 as) [] h tb) (hrun : im_Run F d pc st h y d' F' as rest)
    (hal : F'.2.2.1 = false ∨ (F.2.2.1 = true ∧ lv.all (fun q => im_ok h.1.1 q.2) = true ∧ rest.all (im_ok h.1.1) = true))
    (kk : ∀ b, tb = some b → im_Go z d F (pc + 3) lv ((zb b).1.toList ++ rest) (zb b).2 (k b)) : im_Go z d F pc lv st h (tb.bind k) := by
  intro a ha' l D cs
  cases htb : tb with
  | none => rw [htb] at ha'; cases ha'
  | some b =>
    rw [htb] at ha'
    have hEb := hE b htb
    obtain ⟨⟨m1, m2, m3⟩, -⟩ := hEb l D cs
    obtain ⟨⟨n1, n2, n3⟩, n4⟩ := kk b htb a ha' l D cs
    refine ⟨⟨Nat.le_trans m1 n1, Nat.le_trans m2 n2, fun hf => ?_⟩, ?_⟩
    · rcases hal with hal | hal
      · rw [n3 hf, m3 hal]
      · rw [hal.1] at hf; cases hf
    intro p e R s m args below meth c H locs cells slots mc ms Qc free ad A ls hC hS hl h1 h2 h3 h4 h5 h6
    have c1 : cells + ((zb b).2.1.1 - h.1.1) + ((z a).2.1.1 - (zb b).2.1.1) = mc := by omega
    have c2 : slots + ((zb b).2.1.2 - h.1.2) + ((z a).2.1.2 - (zb b).2.1.2) = ms := by omega
    refine im_callk (hrun p l e R s m args below meth c H locs cells slots D cs A ad ls (zb b) _ _ hC hS hl.1 (im_met hm ha hEb l D cs ad H.size) (by omega) (by omega)) hS (fun ad' H1 locs1 hA hS' => ?_)
    have e1 : im_lv ad' lv = im_lv ad lv ∧ rest.map (im_v ad') = rest.map (im_v ad) := by
      rcases hal with hal | hal
      · have : ad' = ad := funext fun j => hA j (Or.inr (m3 hal))
        rw [this]
        exact ⟨rfl, rfl⟩
      · have hlt : ∀ j, j < h.1.1 → ad' j = ad j := fun j hj => hA j (Or.inl hj)
        refine ⟨?_, ?_⟩
        · unfold im_lv
          apply List.map_congr_left
          intro q hq
          rw [im_ok_v (List.all_eq_true.mp hal.2.1 q hq) hlt]
        · apply List.map_congr_left
          intro q hq
          exact im_ok_v (List.all_eq_true.mp hal.2.2 q hq) hlt
    rw [← e1.2, im_vs]
    refine n4 p e R s m args below meth c H1 locs1 _ _ mc ms Qc free ad' A ls hC hS' (by rw [e1.1]; exact hl) c1 c2 h3 h4 h5 (fun ad2 H2 l2 t g1 g2 g3 g4 => h6 ad2 H2 l2 t g1 g2 (fun j hj => ?_) g4)
    have g5 : ad2 j = ad' j := by
      refine g3 j ?_
      rcases hj with hj | hj
      · exact Or.inl (Nat.lt_of_lt_of_le hj m1)
      · refine Or.inr ?_
        have e2 : (z a).2.1 = h.1 := hj
        have e3 : (zb b).2.1 = h.1 := by
          apply Prod.ext
          · have := congrArg Prod.fst e2; omega
          · have := congrArg Prod.snd e2; omega
        rw [e2, e3]
    rw [g5]
    refine hA j ?_
    rcases hj with hj | hj
    · exact Or.inl hj
    · refine Or.inr ?_
      have e2 : (z a).2.1 = h.1 := hj
      apply Prod.ext
      · have := congrArg Prod.fst e2; omega
      · have := congrArg Prod.snd e2; omega
theorem im_room {R : Room} {d d' nL : Nat} (h1 : R.frames = d) (h2 : R.locals = 32 * d) (hd : d' < d) (hn : nL ≤ 13) : d' + 1 ≤ R.frames ∧ 8 + (nL + 11) + 32 * d' ≤ R.locals := by omega
theorem im_sum (ad : Nat → Nat) : ∀ rest : List im_V, ((rest.map (im_v ad)).map fun v => v.category).sum = rest.length
  | [] => rfl
  | v :: vs => by
    simp only [List.map_cons, List.sum_cons, im_cat, List.length_cons]
    rw [im_sum ad vs]
    omega
/-- invokevirtual -/
theorem im_runV {F : im_F} {d pc idx ci j na d' : Nat} {h : im_H} {y : MethodName} {F' : im_F} {as rest : List im_V} {o : Option Nat} (hd : decode F.2.2.2.2.1 pc = .ok (.invokevirtual idx, 3)) (hm : im_mf y na F') (hlt : d' < d)
    (h1 : Cond.methodLink (nm_R F.1) idx y ∈ im_g) (h2 : Cond.instanceMethod y ∈ im_g) (h3 : Cond.selects y.cls y y ∈ im_g) (hn : (parseMethodDescriptor y.desc).map (fun d => d.parameters.length) = some as.length) (hr : rest.length ≤ 8) (ho : o = some j) (hK : h.2.1 j = (0, ci)) (hci : ∃ T N, nm_cl[ci]? = some (y.cls, T, N)) :
    im_Run F d pc (as.reverse ++ .inr o :: rest) h y d' F' (.inr o :: as) rest := by
  subst ho
  intro p l e R s m args below meth c H locs cells slots D cs A ad ls r Qc free hC hS hls hM hc1 hc2
  obtain ⟨T, N, hci⟩ := hci
  have he := im_in_W hS (j := j) (kd := 0) (by rw [hK]) (by decide)
  rw [hK] at he
  have hG : GoodIn im_g (wsV (nm_R F.1) idx y.cls y (im_ws y F')) := im_goodIn (fun w hw => by
    rcases List.mem_append.mp hw with hw | hw
    · simp only [List.mem_cons, List.not_mem_nil, or_false] at hw
      rcases hw with rfl | rfl | rfl | rfl
      · exact h1
      · exact h2
      · exact h3
      · exact hm.2.2.1
    · rcases List.mem_cons.mp hw with rfl | hw
      · exact hm.2.1
      · exact hw)
  have hsz : ∀ U : State, U.heap = H → s.WarmedH U.vm → im_Pc D cs ad h H.size (.inr (some j) :: as) (Value.ref (ad j) :: as.map (im_v ad)).toArray U := fun U hU hW => ⟨rfl, by rw [hU], by rw [hU]; exact hS.2.1, va_K.moved hW.alike hS.1, hS.2.2.1.weaken (fun _ _ _ _ => trivial), hS.2.2.2.2.2, im_Nx.warm hW hC.2.2.2.2.2.2.2.2.2.2⟩
  refine va_runV (As := as.map (im_v ad)) (b := ad j) (n := as.length) (C := y.cls) ⟨hC.1, hC.2.1, hC.2.2.1, hC.2.2.2.1, hC.2.2.2.2.1⟩ hM (cwV as.length hC.2.2.2.2.1 hG rfl rfl rfl ⟨rfl, hm.2.2.2.1.1, hm.2.2.2.1.2, hn⟩ (im_room hC.2.2.2.2.2.2.2.2.1 hC.2.2.2.2.2.2.2.2.2.1 hlt hm.2.2.2.2.2.2.1)) ⟨im_blind, va_recv hS.1 hS.2.1 hci he, hsz⟩ rfl (by simp) hls (by simp [im_v, va_re, va_rf]) (lv_room (by rw [im_sum]; exact hr)) hd ⟨hc1, hc2⟩
/-- invokestatic -/
theorem im_runS {F : im_F} {d pc idx na d' : Nat} {h : im_H} {y : MethodName} {F' : im_F} {as rest : List im_V} (hd : decode F.2.2.2.2.1 pc = .ok (.invokestatic idx, 3)) (hm : im_mf y na F') (hlt : d' < d)
    (h1 : Cond.methodLink (nm_R F.1) idx y ∈ im_g) (h2 : Cond.static y ∈ im_g) (hn : (parseMethodDescriptor y.desc).map (fun d => d.parameters.length) = some as.length) (hr : rest.length ≤ 8) :
    im_Run F d pc (as.reverse ++ rest) h y d' F' as rest := by
  intro p l e R s m args below meth c H locs cells slots D cs A ad ls r Qc free hC hS hls hM hc1 hc2
  have hG : GoodIn im_g (im_ws y F') := im_goodIn (fun w hw => by
    rcases List.mem_cons.mp hw with rfl | hw
    · exact hm.2.1
    · exact hw)
  have hsz : ∀ U : State, U.heap = H → s.WarmedH U.vm → im_Pc D cs ad h H.size as (as.map (im_v ad)).toArray U := fun U hU hW => ⟨rfl, by rw [hU], by rw [hU]; exact hS.2.1, va_K.moved hW.alike hS.1, hS.2.2.1.weaken (fun _ _ _ _ => trivial), hS.2.2.2.2.2, im_Nx.warm hW hC.2.2.2.2.2.2.2.2.2.2⟩
  exact va_runS (As := as.map (im_v ad)) (n := as.length) ⟨hC.1, hC.2.1, hC.2.2.1, hC.2.2.2.1, hC.2.2.2.2.1⟩ hM ⟨callB_of as.length hC.2.2.2.2.1 hG rfl rfl rfl (hC.2.2.2.2.1 _ hm.2.2.1) (hC.2.2.2.2.1 _ h1) ⟨hm.2.2.2.1.1, hm.2.2.2.1.2, hn⟩ (im_room hC.2.2.2.2.2.2.2.2.1 hC.2.2.2.2.2.2.2.2.2.1 hlt hm.2.2.2.2.2.2.1), hC.2.2.2.2.1 _ h2⟩ ⟨im_blind, hsz⟩ rfl (by simp) hls (by simp) (lv_room (by rw [im_sum]; exact hr)) hd ⟨hc1, hc2⟩
/-- invokespecial of a constructor, by the class's own link or by a nest mate's -/
theorem im_runI {F : im_F} {d pc idx j na d' : Nat} {h : im_H} {y : MethodName} {F' : im_F} {as rest : List im_V} {o : Option Nat} (hd : decode F.2.2.2.2.1 pc = .ok (.invokespecial idx, 3)) (hm : im_mf y na F') (hlt : d' < d) (hret : F'.2.2.2.1 = none)
    (h1 : Cond.methodLink (nm_R F.1) idx y ∈ im_g ∨ ∃ host, (nm_R F.1, idx, y, host) ∈ im_nest) (h2 : Cond.instanceMethod y ∈ im_g) (h3 : y.name = "<init>") (hn : (parseMethodDescriptor y.desc).map (fun d => d.parameters.length) = some as.length) (hr : rest.length ≤ 8) (ho : o = some j) :
    im_Run F d pc (as.reverse ++ .inr o :: rest) h y d' F' (.inr o :: as) rest := by
  subst ho
  intro p l e R s m args below meth c H locs cells slots D cs A ad ls r Qc free hC hS hls hM hc1 hc2
  have hG : GoodIn im_g (im_ws y F') := im_goodIn (fun w hw => by
    rcases List.mem_cons.mp hw with rfl | hw
    · exact hm.2.1
    · exact hw)
  have hsz : ∀ U : State, U.heap = H → s.WarmedH U.vm → im_Pc D cs ad h H.size (.inr (some j) :: as) (Value.ref (ad j) :: as.map (im_v ad)).toArray U := fun U hU hW => ⟨rfl, by rw [hU], by rw [hU]; exact hS.2.1, va_K.moved hW.alike hS.1, hS.2.2.1.weaken (fun _ _ _ _ => trivial), hS.2.2.2.2.2, im_Nx.warm hW hC.2.2.2.2.2.2.2.2.2.2⟩
  have hw : im_ws y F' = Cond.code y F'.2.2.2.2.1 F'.2.2.2.2.2 none :: im_g := by unfold im_ws; rw [hret]
  have hro := im_room hC.2.2.2.2.2.2.2.2.1 hC.2.2.2.2.2.2.2.2.2.1 hlt hm.2.2.2.2.2.2.1
  rcases h1 with h1 | ⟨host, h1⟩
  · exact va_runI (As := as.map (im_v ad)) (b := ad j) (n := as.length) ⟨hC.1, hC.2.1, hC.2.2.1, hC.2.2.2.1, hC.2.2.2.2.1⟩ hM (cwI as.length hC.2.2.2.2.1 hG hw rfl rfl (hC.2.2.2.2.1 _ hm.2.2.1) (hC.2.2.2.2.1 _ h1) (hC.2.2.2.2.1 _ h2) h3 ⟨hm.2.2.2.1.1, hm.2.2.2.1.2, hn⟩ hro) ⟨im_blind, hsz⟩ rfl (by simp) hls (by simp [im_v, va_re, va_rf]) (lv_room (by rw [im_sum]; exact hr)) hd ⟨hc1, hc2⟩
  · exact va_runIN (As := as.map (im_v ad)) (b := ad j) (n := as.length) (host := host) ⟨hC.1, hC.2.1, hC.2.2.1, hC.2.2.2.1, hC.2.2.2.2.1⟩ hM ⟨va_cnB as.length hC.2.2.2.2.1 hG hw rfl rfl (hC.2.2.2.2.2.2.2.2.2.2.2 _ h1) (hC.2.2.2.2.1 _ hm.2.2.1) ⟨hm.2.2.2.1.1, hm.2.2.2.1.2, hn⟩ hro, h3, hC.2.2.2.2.1 _ h2⟩ ⟨im_blind, hsz⟩ rfl (by simp) hls (by simp [im_v, va_re, va_rf]) (lv_room (by rw [im_sum]; exact hr)) hd ⟨hc1, hc2⟩
end
section
/-! the small machine: switches, constructors' instructions -/
theorem im_test {α : Type} {z : α → im_rs} {d : Nat} {F : im_F} {pc : Nat} {lv : im_L} {st : List im_V} {h : im_H} {t u : Option α} {b : Prop} (hdec : Decidable b) (k : b → im_Go z d F pc lv st h t) (k2 : ¬ b → im_Go z d F pc lv st h u) : im_Go z d F pc lv st h (if b then t else u) := by
  intro a ha
  by_cases hb : b
  · rw [if_pos hb] at ha
    exact k hb a ha
  · rw [if_neg hb] at ha
    exact k2 hb a ha
theorem im_swout {x : Int32} (lo : Int) (n : Nat) (hlo : -2147483648 ≤ lo) (hhi : lo + n ≤ 2147483648) (h : ∀ i : Nat, i < n → ¬ x = Int32.ofInt (lo + i)) : x.toInt < lo ∨ lo + n - 1 < x.toInt := by
  by_cases h1 : x.toInt < lo
  · exact Or.inl h1
  · by_cases h2 : lo + n - 1 < x.toInt
    · exact Or.inr h2
    · exfalso
      refine h (x.toInt - lo).toNat (by omega) ?_
      apply Int32.toInt_inj.mp
      rw [Int32.toInt_ofInt_of_le (by omega) (by omega)]
      omega
section XS
variable {α : Type} {z : α → im_rs} {d : Nat} {F : im_F} {pc : Nat} {lv : im_L} {st : List im_V} {h : im_H} {t u : Option α}
theorem x_tabIn {dflt lo hi off : Int} {offs : Array Int} {len : Nat} {x : Int32} (v : Int32) (tgt : Nat) (hd : decode F.2.2.2.2.1 pc = .ok (.tableswitch dflt lo hi offs, len)) (hx : x = v) (h1 : ¬ v.toInt < lo) (h2 : ¬ hi < v.toInt) (ho : offs[(v.toInt - lo).toNat]? = some off) (ht : (pc : Int) + off = (tgt : Int)) (k : im_Go z d F tgt lv st h t) : im_Go z d F pc lv (.inl x :: st) h t := by
  subst hx
  exact im_plain (fun ad p l e R s m args below meth c H locs cells slots Q ls hC hl kk => lv_tableIn hC.1 hC.2.1 hd h1 h2 ho ht (kk ls hl)) k
theorem x_tabOut {dflt lo hi : Int} {offs : Array Int} {len : Nat} {x : Int32} (tgt : Nat) (hd : decode F.2.2.2.2.1 pc = .ok (.tableswitch dflt lo hi offs, len)) (hx : x.toInt < lo ∨ hi < x.toInt) (ht : (pc : Int) + dflt = (tgt : Int)) (k : im_Go z d F tgt lv st h t) : im_Go z d F pc lv (.inl x :: st) h t :=
  im_plain (fun ad p l e R s m args below meth c H locs cells slots Q ls hC hl kk => lv_tableOut hC.1 hC.2.1 hd hx ht (kk ls hl)) k
theorem x_lookup {dflt off : Int} {ps : Array (Int × Int)} {len : Nat} {x : Int32} (tgt : Nat) (hd : decode F.2.2.2.2.1 pc = .ok (.lookupswitch dflt ps, len)) (hp : (ps.toList.zip (ps.toList.drop 1)).all (fun (a, next) => a.1 < next.1) = true) (ho : Op.lookupswitch.offset ps.toList dflt x.toInt = off) (ht : (pc : Int) + off = (tgt : Int)) (k : im_Go z d F tgt lv st h t) : im_Go z d F pc lv (.inl x :: st) h t :=
  im_plain (fun ad p l e R s m args below meth c H locs cells slots Q ls hC hl kk => lv_lookup hC.1 hC.2.1 hd hp ho ht (kk ls hl)) k
theorem x_objinit {idx : Nat} {o : Option Nat} {j : Nat} (hd : decode F.2.2.2.2.1 pc = .ok (.invokespecial idx, 3)) (h1 : Cond.methodLink (nm_R F.1) idx objectInit ∈ im_g) (h2 : Cond.instanceMethod objectInit ∈ im_g) (h3 : Cond.code objectInit ⟨#[0xb1]⟩ 1 none ∈ im_g) (hd0 : 0 < d) (hr : st.length ≤ 8) (ho : o = some j) (k : im_Go z d F (pc + 3) lv st h t) : im_Go z d F pc lv (.inr o :: st) h t := by
  subst ho
  refine im_plain (fun ad p l e R s m args below meth c H locs cells slots Q ls hC hl kk => ?_) k
  refine W.objInit (a := ad j) (rest := st.map (im_v ad)) hC.1 hC.2.1 hC.2.2.2.1 (hC.2.2.2.2.1 _ h1) (hC.2.2.2.2.1 _ h2) (hC.2.2.2.2.1 _ h3) rfl (hl.1.trans hC.2.2.1.symm) rfl hd (by rw [hC.2.2.2.2.2.2.2.2.1]; exact hd0) ?_ (kk ls hl)
  have := lv_room (m := m) (pc := pc) (ls := ls) (rest := []) (st := st.map (im_v ad)) (by rw [im_sum]; exact hr)
  rw [hC.2.2.2.2.2.2.2.2.2.1]
  have h9 : 2 * (F0 m pc ls ((Sum.inr (some j) :: st).map (im_v ad))).monitorRoom = 2 * (F0 m pc ls ([] : List Value)).monitorRoom := rfl
  rw [h9]
  omega
/-- a new cell -/
def im_nw (h : im_H) (kd : Nat × Nat) (sl : Nat) : im_H := ((h.1.1 + 1, h.1.2 + sl), (fun j => if j = h.1.1 then kd else h.2.1 j), (fun j => if j = h.1.1 then (fun _ => none) else h.2.2.1 j), (fun j => if j = h.1.1 then (fun _ => 0) else h.2.2.2 j))
def im_oa (h : im_H) (lv : im_L) (st : List im_V) : Bool := lv.all (fun q => im_ok h.1.1 q.2) && (st.all (im_ok h.1.1) && (List.range h.1.1).all fun j => (List.range 32).all fun k => im_ok h.1.1 (.inr (h.2.2.1 j k)))
theorem im_N_le (ci : Nat) : im_N ci ≤ 32 := by
  unfold im_N
  by_cases hc : ci < 9
  · have : ∀ c, c < 9 → (match nm_cl[c]? with | some q => q.2.2 | none => 0) ≤ 32 := by decide +kernel
    exact this ci hc
  · rw [List.getElem?_eq_none (by simp; omega)]
    exact Nat.zero_le _
theorem im_e_ok {cs : ClassId × ClassId × ClassId} {ad ad' : Nat → Nat} {n : Nat} {kd : Nat × Nat} {r : Nat → Option Nat} {f : Nat → Int32} (hr : ∀ k, k < 32 → im_ok n (.inr (r k)) = true) (ha : ∀ j, j < n → ad' j = ad j) : im_e cs ad' kd r f = im_e cs ad kd r f := by
  have hm : ∀ k, k < 32 → va_re ad' (r k) = va_re ad (r k) := fun k hk => im_ok_v (hr k hk) ha
  have hf : im_fs ad' kd.2 r f = im_fs ad kd.2 r f := by
    unfold im_fs
    apply List.map_congr_left
    intro k hk
    rw [hm k (Nat.lt_of_lt_of_le (List.mem_range.mp hk) (im_N_le _))]
  have hra : im_ra ad' r = im_ra ad r := by
    funext i
    unfold im_ra
    by_cases hi : i < 32
    · rw [if_pos hi, if_pos hi]
      have h9 := hr i hi
      cases hri : r i with
      | none => rfl
      | some j =>
        rw [hri] at h9
        simp only [im_ok, decide_eq_true_eq] at h9
        show some (ad' j) = some (ad j)
        rw [ha j h9]
    · rw [if_neg hi, if_neg hi]
  unfold im_e
  rw [hf, hra]
theorem im_W_nw {cs : ClassId × ClassId × ClassId} {ad ad' : Nat → Nat} {h : im_H} {kd : Nat × Nat} {sl q : Nat} (hok : ∀ j, j < h.1.1 → ∀ k, k < 32 → im_ok h.1.1 (.inr (h.2.2.1 j k)) = true) (ha : ∀ j, j < h.1.1 → ad' j = ad j) (hq : ad' h.1.1 = q) :
    im_W cs ad h ++ [(q, im_e cs ad kd (fun _ => none) (fun _ => 0))] = im_W cs ad' (im_nw h kd sl) := by
  unfold im_W
  show _ = (List.range (h.1.1 + 1)).map _
  rw [List.range_succ, List.map_append]
  congr 1
  · apply List.map_congr_left
    intro j hj
    have hj := List.mem_range.mp hj
    have hne : j ≠ h.1.1 := by omega
    simp only [im_nw, hne, if_false]
    rw [ha j hj, im_e_ok (hok j hj) ha]
  · simp only [List.map_cons, List.map_nil, im_nw, if_true]
    rw [hq, im_e_ok (n := 0) (ad := ad) (ad' := ad') (r := fun _ => none) (fun _ _ => rfl) (fun j hj => absurd hj (Nat.not_lt_zero _))]
theorem im_alloc {pc' sl : Nat} {st0 : List im_V} {kd : Nat × Nat} (hal : F.2.2.1 = true) (hok : im_oa h lv st0 = true)
    (hW : ∀ (D : va_G) (cs : ClassId × ClassId × ClassId) (A : Nat → Prop) (ad : Nat → Nat) (p : Program) (l : Launch) (e : Env) (R : Room) (s : State) (m : MethodId) (args : Array Value) (below : List Frame) (meth : Method) (c : Code) (H : Heap) (locs : List Loc) (cells slots : Nat) (Q : State → Prop) (ls : Array Slot), im_Cx p R s m args meth c d F → im_St D cs s A H locs ad h → cells + 1 ≤ R.cells → slots + sl ≤ R.slots →
      (∀ q H', va_P D nm_cl (im_W cs ad h ++ [(q, im_e cs ad kd (fun _ => none) (fun _ => 0))]) H' → va_D A (im_W cs ad h ++ [(q, im_e cs ad kd (fun _ => none) (fun _ => 0))]) → va_S A s.heap H' locs → W p l e R s m args below meth c H' locs (cells + 1) (slots + sl) Q (F0 m pc' ls (.ref q :: st0.map (im_v ad)))) → W p l e R s m args below meth c H locs cells slots Q (F0 m pc ls (st.map (im_v ad))))
    (k : im_Go z d F pc' lv (.inr (some h.1.1) :: st0) (im_nw h kd sl) t) : im_Go z d F pc lv st h t := by
  intro a ha l D cs
  obtain ⟨⟨m1, m2, m3⟩, k2⟩ := k a ha l D cs
  have m1 : h.1.1 + 1 ≤ (z a).2.1.1 := m1
  have m2 : h.1.2 + sl ≤ (z a).2.1.2 := m2
  refine ⟨⟨by omega, by omega, fun hf => by rw [hal] at hf; cases hf⟩, ?_⟩
  intro p e R s m args below meth c H locs cells slots mc ms Qc free ad A ls hC hS hl h1 h2 h3 h4 h5 h6
  simp only [im_oa, Bool.and_eq_true] at hok
  obtain ⟨o1, o2, o3⟩ := hok
  have o3' : ∀ j, j < h.1.1 → ∀ k, k < 32 → im_ok h.1.1 (.inr (h.2.2.1 j k)) = true := fun j hj k hk => List.all_eq_true.mp (List.all_eq_true.mp o3 j (List.mem_range.mpr hj)) k (List.mem_range.mpr hk)
  refine hW D cs A ad p l e R s m args below meth c H locs cells slots _ ls hC hS (by omega) (by omega) (fun q H' a1 a2 a3 => ?_)
  have hlt : ∀ j, j < h.1.1 → va_up ad h.1.1 q j = ad j := fun j hj => by simp [va_up, Nat.ne_of_lt hj]
  have hqq : va_up ad h.1.1 q h.1.1 = q := by simp [va_up]
  rw [im_W_nw (sl := sl) o3' hlt hqq] at a1 a2
  have e1 : im_lv (va_up ad h.1.1 q) lv = im_lv ad lv := by
    unfold im_lv
    apply List.map_congr_left
    intro x hx
    rw [im_ok_v (List.all_eq_true.mp o1 x hx) hlt]
  have e2 : (Value.ref q :: st0.map (im_v ad)) = (Sum.inr (some h.1.1) :: st0 : List im_V).map (im_v (va_up ad h.1.1 q)) := by
    rw [List.map_cons]
    congr 1
    · show Value.ref q = Value.ref (va_up ad h.1.1 q h.1.1)
      rw [hqq]
    · apply List.map_congr_left
      intro x hx
      rw [im_ok_v (List.all_eq_true.mp o2 x hx) hlt]
  rw [e2]
  refine k2 p e R s m args below meth c H' locs (cells + 1) (slots + sl) mc ms Qc free (va_up ad h.1.1 q) A ls hC ⟨hS.1, a1, a2, a3, hS.2.2.2.2.1, fun j hj => ?_⟩ (by rw [e1]; exact hl) ?_ ?_ h3 h4 h5 (fun ad2 H2 l2 t g1 g2 g3 g4 => h6 ad2 H2 l2 t g1 g2 (fun j hj => ?_) g4)
  · have hj : h.1.1 + 1 ≤ j := hj
    simp only [im_nw]
    rw [if_neg (by omega)]
    exact hS.2.2.2.2.2 j (by omega)
  · show cells + 1 + ((z a).2.1.1 - (h.1.1 + 1)) = mc
    omega
  · show slots + sl + ((z a).2.1.2 - (h.1.2 + sl)) = ms
    omega
  · rcases hj with hj | hj
    · rw [g3 j (Or.inl (Nat.lt_succ_of_lt hj)), hlt j hj]
    · exfalso
      have hj : (z a).2.1 = h.1 := hj
      have := congrArg Prod.fst hj
      omega
theorem x_newI {n : Int32} (nn : Nat) (hd : decode F.2.2.2.2.1 pc = .ok (.newarray .int, 2)) (harr : Cond.arrayClass .int ∈ im_g) (hal : F.2.2.1 = true) (hn : ¬ n < 0) (hN : n.toNatClampNeg = nn) (hb : nn ≤ 1000) (hok : im_oa h lv st = true) (k : im_Go z d F (pc + 2) lv (.inr (some h.1.1) :: st) (im_nw h (1, nn) nn) t) : im_Go z d F pc lv (.inl n :: st) h t := by
  refine im_alloc hal hok (fun D cs A ad p l e R s m args below meth c H locs cells slots Q ls hC hS hc1 hc2 kk => ?_) k
  refine va_newa (ty := .int) (a0 := (nn, .inl (fun _ => 0))) hC.1 hC.2.1 (atype := .int) (hC.2.2.2.2.1 _ harr) rfl hS.1 hS.2.1 hS.2.2.1 hS.2.2.2.1 hS.2.2.2.2.1 (fun cA => rfl) hn hN (Nat.le_trans (Nat.mul_le_mul hb (Nat.le_refl _)) (by decide)) hc1 hc2 hd (fun q cA H1 b1 b2 b3 b4 => ?_)
  have r1 := (b1.2 3 (cA, .int) rfl).2
  have r2 := (hS.1.2 0 (cs.1, .int) rfl).2
  have hcA : cA = cs.1 := Option.some.inj (r1.symm.trans r2)
  subst hcA
  exact kk q H1 b2 b3 b4
theorem x_newZ {n : Int32} (nn : Nat) (hd : decode F.2.2.2.2.1 pc = .ok (.newarray .boolean, 2)) (harr : Cond.arrayClass .boolean ∈ im_g) (hal : F.2.2.1 = true) (hn : ¬ n < 0) (hN : n.toNatClampNeg = nn) (hb : nn ≤ 1000) (hok : im_oa h lv st = true) (k : im_Go z d F (pc + 2) lv (.inr (some h.1.1) :: st) (im_nw h (2, nn) nn) t) : im_Go z d F pc lv (.inl n :: st) h t := by
  refine im_alloc hal hok (fun D cs A ad p l e R s m args below meth c H locs cells slots Q ls hC hS hc1 hc2 kk => ?_) k
  refine va_newa (ty := .boolean) (a0 := (nn, .inl (fun _ => 0))) hC.1 hC.2.1 (atype := .boolean) (hC.2.2.2.2.1 _ harr) rfl hS.1 hS.2.1 hS.2.2.1 hS.2.2.2.1 hS.2.2.2.2.1 (fun cA => rfl) hn hN (Nat.le_trans (Nat.mul_le_mul hb (Nat.le_refl _)) (by decide)) hc1 hc2 hd (fun q cA H1 b1 b2 b3 b4 => ?_)
  have r1 := (b1.2 3 (cA, .boolean) rfl).2
  have r2 := (hS.1.2 1 (cs.2.1, .boolean) rfl).2
  have hcA : cA = cs.2.1 := Option.some.inj (r1.symm.trans r2)
  subst hcA
  exact kk q H1 b2 b3 b4
theorem x_newA {n : Int32} {idx : Nat} (nn : Nat) (hd : decode F.2.2.2.2.1 pc = .ok (.anewarray idx, 3)) (hcl : Cond.classLink (nm_R F.1) idx (nm_R 5) ∈ im_g) (hal : F.2.2.1 = true) (hn : ¬ n < 0) (hN : n.toNatClampNeg = nn) (hb : nn ≤ 32) (hok : im_oa h lv st = true) (k : im_Go z d F (pc + 3) lv (.inr (some h.1.1) :: st) (im_nw h (3, nn) nn) t) : im_Go z d F pc lv (.inl n :: st) h t := by
  refine im_alloc hal hok (fun D cs A ad p l e R s m args below meth c H locs cells slots Q ls hC hS hc1 hc2 kk => ?_) k
  refine va_newq hC.1 hC.2.1 hC.2.2.2.1 (hC.2.2.2.2.1 _ hcl) hC.2.2.2.2.2.2.2.2.2.2.1 hS.1 hS.2.1 hS.2.2.1 hS.2.2.2.1 hS.2.2.2.2.1 hn hN (by omega) hc1 hc2 hd (fun q cA H1 b1 b2 b3 b4 => ?_)
  obtain ⟨kA, comp, -, -, -, r1⟩ := (b1.2 3 (cA, .object (nm_R 5)) rfl).2
  obtain ⟨kA2, comp2, -, -, -, r2⟩ := (hS.1.2 2 (cs.2.2, .object (nm_R 5)) rfl).2
  have hcA : cA = cs.2.2 := Option.some.inj (r1.symm.trans r2)
  subst hcA
  have hf : im_ra ad (fun _ => none) = fun _ => none := by
    funext i
    unfold im_ra
    split <;> rfl
  refine kk q H1 ?_ ?_ b4
  · show va_P D nm_cl (im_W cs ad h ++ [(q, .inl (cs.2.2, nn, .inr (.inr (.inr (.inr (im_ra ad (fun _ => none)))))))]) H1
    rw [hf]
    exact b2
  · show va_D A (im_W cs ad h ++ [(q, .inl (cs.2.2, nn, .inr (.inr (.inr (.inr (im_ra ad (fun _ => none)))))))])
    rw [hf]
    exact b3
theorem x_new {idx ci N : Nat} {T : u_T} (hd : decode F.2.2.2.2.1 pc = .ok (.new idx, 3)) (hcf : im_cf ci T N) (hty : ∀ j, j < N → im_i ci j = true ∨ im_r ci j = true) (hcl : Cond.classLink (nm_R F.1) idx (nm_R ci) ∈ im_g) (hin : Cond.instantiable (nm_R ci) N ∈ im_g) (hini : Cond.initialized (nm_R ci) ∈ im_g) (hal : F.2.2.1 = true) (hok : im_oa h lv st = true) (k : im_Go z d F (pc + 3) lv (.inr (some h.1.1) :: st) (im_nw h (0, ci) N) t) : im_Go z d F pc lv st h t := by
  refine im_alloc hal hok (fun D cs A ad p l e R s m args below meth c H locs cells slots Q ls hC hS hc1 hc2 kk => ?_) k
  refine va_new (c0 := c) (fs := im_fs ad ci (fun _ => none) (fun _ => 0)) hC.1 hC.2.1 hC.2.2.2.2.1 hcf.2.1 (nm_ty ci) hcf.2.2.1 hC.2.2.2.1 (hC.2.2.2.2.1 _ hcl) (hC.2.2.2.2.1 _ hin) (hC.2.2.2.2.1 _ hini) hS.1 hS.2.1 hS.2.2.1 hS.2.2.2.1 hS.2.2.2.2.1 hcf.1 (fun j hj => ?_) hc1 hc2 hd (fun q H1 b2 b3 b4 => kk q H1 b2 b3 b4)
  unfold vp_V
  rw [List.getD_eq_getElem?_getD, im_fs_at (by rw [im_N_of hcf]; exact hj)]
  rcases hty j hj with hi | hi
  · rw [if_pos hi, im_ity hi]
    rfl
  · rw [im_ri hi]
    unfold im_r at hi
    split at hi
    · rename_i hq; rw [hq]; rfl
    · rename_i hq; rw [hq]; rfl
    · cases hi
theorem x_aastore {j w : Nat} {o q : Option Nat} {i : Int32} (hd : decode F.2.2.2.2.1 pc = .ok (.aastore, 1)) (ho : o = some j) (hq : q = some w) (hKw : h.2.1 w = (0, 5)) (hb : im_in h 3 j i ∧ (h.2.1 j).2 ≤ 32) (kk : im_Go z d F (pc + 1) lv st (im_pR h j i.toNatClampNeg (some w)) t) : im_Go z d F pc lv (.inr q :: .inl i :: .inr o :: st) h t := by
  subst ho
  subst hq
  refine im_write (h' := im_pR h j i.toNatClampNeg (some w)) rfl (fun D cs A ad p l e R s m args below meth c H locs cells slots Q ls hC hS k9 => ?_) kk
  obtain ⟨hb, hb2⟩ := hb
  have he := im_in_W hS hb.1 (by decide)
  have he2 : ∀ r, im_e cs ad (h.2.1 j) r (h.2.2.2 j) = .inl (cs.2.2, (h.2.1 j).2, .inr (.inr (.inr (.inr (im_ra ad r))))) := by
    intro r
    unfold im_e
    rw [hb.1]
    rfl
  rw [he2] at he
  have hw := im_in_W hS (j := w) (kd := 0) (by rw [hKw]) (by decide)
  rw [hKw] at hw
  have hi : i.toNatClampNeg < 32 := by
    have := hb.2.2
    have := hb.2.1
    show i.toInt.toNat < 32
    omega
  refine va_astq (r := (nm_R 5, nm_T5, 11)) hC.1 hC.2.1 hS.1 hS.2.1 hS.2.2.1 hS.2.2.2.1 j 2 w 5 he rfl hw rfl (im_vpin hb) hd (fun H1 locs1 a1 a2 a3 => k9 H1 locs1 ?_)
  have hu : va_up (im_ra ad (h.2.2.1 j)) i.toNatClampNeg (some (ad w)) = im_ra ad (im_u h.2.2.1 j i.toNatClampNeg (some w) j) := by
    funext x
    unfold va_up im_ra im_u
    by_cases hx : x = i.toNatClampNeg
    · subst hx
      simp [hi]
    · simp [hx]
  have hws : (im_W cs ad h).set j (ad j, .inl (cs.2.2, (h.2.1 j).2, .inr (.inr (.inr (.inr (va_up (im_ra ad (h.2.2.1 j)) i.toNatClampNeg (some (ad w)))))))) = im_W cs ad (im_pR h j i.toNatClampNeg (some w)) := by
    refine im_Wset rfl ?_ (fun i hi => ⟨rfl, im_uo _ _ _ _ hi, rfl⟩)
    show im_e cs ad (h.2.1 j) (im_u h.2.2.1 j i.toNatClampNeg (some w) j) (h.2.2.2 j) = _
    rw [he2, hu]
  rw [hws] at a1 a2
  exact ⟨hS.1, a1, a2, a3, hS.2.2.2.2⟩
end XS
end
section
/-! the tables, word by word (by wip/whole/gen_facts.py) -/
section CW
variable {α : Type} {z : α → im_rs} {d d' : Nat} {F F' : im_F} {pc : Nat} {lv : im_L} {st as rest : List im_V} {h : im_H} {y : MethodName} {na : Nat}
theorem im_callI {tb : Option (Int32 × im_H)} {k : Int32 × im_H → Option α} (hm : im_mf y na F') (ha : as.length = na) (hE : im_Go im_zI d' F' 0 (im_en 0 as) [] h tb) (hrun : im_Run F d pc st h y d' F' as rest) (hal : F'.2.2.1 = false) (kk : ∀ b, tb = some b → im_Go z d F (pc + 3) lv (.inl b.1 :: rest) b.2 (k b)) : im_Go z d F pc lv st h (tb.bind k) := im_call hm ha hE hrun (Or.inl hal) kk
theorem im_callR {tb : Option (Option Nat × im_H)} {k : Option Nat × im_H → Option α} (hm : im_mf y na F') (ha : as.length = na) (hE : im_Go im_zR d' F' 0 (im_en 0 as) [] h tb) (hrun : im_Run F d pc st h y d' F' as rest) (hal : F'.2.2.1 = false) (kk : ∀ b, tb = some b → im_Go z d F (pc + 3) lv (.inr b.1 :: rest) b.2 (k b)) : im_Go z d F pc lv st h (tb.bind k) := im_call hm ha hE hrun (Or.inl hal) kk
theorem im_callV {tb : Option im_H} {k : im_H → Option α} (hm : im_mf y na F') (ha : as.length = na) (hE : im_Go im_zV d' F' 0 (im_en 0 as) [] h tb) (hrun : im_Run F d pc st h y d' F' as rest) (hal : F'.2.2.1 = false) (kk : ∀ b, tb = some b → im_Go z d F (pc + 3) lv rest b (k b)) : im_Go z d F pc lv st h (tb.bind k) := im_call hm ha hE hrun (Or.inl hal) kk
theorem im_callA {tb : Option im_H} {k : im_H → Option α} (hm : im_mf y na F') (ha : as.length = na) (hE : im_Go im_zV d' F' 0 (im_en 0 as) [] h tb) (hrun : im_Run F d pc st h y d' F' as rest) (hal : F.2.2.1 = true) (hok : lv.all (fun q => im_ok h.1.1 q.2) = true ∧ rest.all (im_ok h.1.1) = true) (kk : ∀ b, tb = some b → im_Go z d F (pc + 3) lv rest b (k b)) : im_Go z d F pc lv st h (tb.bind k) := im_call hm ha hE hrun (Or.inr ⟨hal, hok⟩) kk
/-- fewer locals, in another order -/
def im_sb (lv : im_L) : im_L → Prop
  | [] => True
  | q :: L => lv.lookup q.1 = some q.2 ∧ im_sb lv L
theorem im_sb_mem {lv : im_L} : ∀ {L : im_L}, im_sb lv L → ∀ q ∈ L, lv.lookup q.1 = some q.2
  | [], _, q, hq => by cases hq
  | x :: L, h, q, hq => by
    rcases List.mem_cons.mp hq with rfl | hq
    · exact h.1
    · exact im_sb_mem h.2 q hq
theorem im_lsub {t : Option α} (L : im_L) (hs : im_sb lv L) (k : im_Go z d F pc L st h t) : im_Go z d F pc lv st h t :=
  im_plain (fun ad p l e R s m args below meth c H locs cells slots Q ls hC hl kk => kk ls ⟨hl.1, hl.2.1, fun q hq => by
    obtain ⟨x, hx, rfl⟩ := List.mem_map.mp hq
    exact im_lvat hl (im_sb_mem hs x hx)⟩) k
end CW
theorem fc_0 : im_cf 0 nm_T0 4 := ⟨rfl, fun w hw => im_gm (nm_i0 w hw) (List.all_eq_true.mp (by decide +kernel : (u_ws (nm_R 0) nm_T0 4).all goodWord = true) w hw), nm_o0, nm_n0, by decide⟩
theorem fc_1 : im_cf 1 nm_T1 2 := ⟨rfl, fun w hw => im_gm (nm_i1 w hw) (List.all_eq_true.mp (by decide +kernel : (u_ws (nm_R 1) nm_T1 2).all goodWord = true) w hw), nm_o1, nm_n1, by decide⟩
theorem fc_2 : im_cf 2 nm_T2 3 := ⟨rfl, fun w hw => im_gm (nm_i2 w hw) (List.all_eq_true.mp (by decide +kernel : (u_ws (nm_R 2) nm_T2 3).all goodWord = true) w hw), nm_o2, nm_n2, by decide⟩
theorem fc_3 : im_cf 3 nm_T3 4 := ⟨rfl, fun w hw => im_gm (nm_i3 w hw) (List.all_eq_true.mp (by decide +kernel : (u_ws (nm_R 3) nm_T3 4).all goodWord = true) w hw), nm_o3, nm_n3, by decide⟩
theorem fc_4 : im_cf 4 nm_T4 4 := ⟨rfl, fun w hw => im_gm (nm_i4 w hw) (List.all_eq_true.mp (by decide +kernel : (u_ws (nm_R 4) nm_T4 4).all goodWord = true) w hw), nm_o4, nm_n4, by decide⟩
theorem fc_5 : im_cf 5 nm_T5 11 := ⟨rfl, fun w hw => im_gm (nm_i5 w hw) (List.all_eq_true.mp (by decide +kernel : (u_ws (nm_R 5) nm_T5 11).all goodWord = true) w hw), nm_o5, nm_n5, by decide⟩
theorem fc_6 : im_cf 6 nm_T6 6 := ⟨rfl, fun w hw => im_gm (nm_i6 w hw) (List.all_eq_true.mp (by decide +kernel : (u_ws (nm_R 6) nm_T6 6).all goodWord = true) w hw), nm_o6, nm_n6, by decide⟩
theorem fc_7 : im_cf 7 nm_T7 4 := ⟨rfl, fun w hw => im_gm (nm_i7 w hw) (List.all_eq_true.mp (by decide +kernel : (u_ws (nm_R 7) nm_T7 4).all goodWord = true) w hw), nm_o7, nm_n7, by decide⟩
theorem fc_8 : im_cf 8 nm_T8 32 := ⟨rfl, fun w hw => im_gm (nm_i8 w hw) (List.all_eq_true.mp (by decide +kernel : (u_ws (nm_R 8) nm_T8 32).all goodWord = true) w hw), nm_o8, nm_n8, by decide⟩
theorem fl_0_9 : im_fl 0 9 0 0 true := ⟨nm_T0, 4, fc_0, Nat.le_of_ble_eq_true rfl, im_gm (List.mem_of_getElem? (i := 127) (by decide +kernel)) (by decide +kernel), rfl, rfl⟩
theorem fl_0_13 : im_fl 0 13 0 1 true := ⟨nm_T0, 4, fc_0, Nat.le_of_ble_eq_true rfl, im_gm (List.mem_of_getElem? (i := 128) (by decide +kernel)) (by decide +kernel), rfl, rfl⟩
theorem fl_0_16 : im_fl 0 16 0 2 true := ⟨nm_T0, 4, fc_0, Nat.le_of_ble_eq_true rfl, im_gm (List.mem_of_getElem? (i := 129) (by decide +kernel)) (by decide +kernel), rfl, rfl⟩
theorem fl_0_19 : im_fl 0 19 0 3 false := ⟨nm_T0, 4, fc_0, Nat.le_of_ble_eq_true rfl, im_gm (List.mem_of_getElem? (i := 130) (by decide +kernel)) (by decide +kernel), rfl, rfl⟩
theorem fl_1_9 : im_fl 1 9 1 0 true := ⟨nm_T1, 2, fc_1, Nat.le_of_ble_eq_true rfl, im_gm (List.mem_of_getElem? (i := 95) (by decide +kernel)) (by decide +kernel), rfl, rfl⟩
theorem fl_1_13 : im_fl 1 13 1 1 false := ⟨nm_T1, 2, fc_1, Nat.le_of_ble_eq_true rfl, im_gm (List.mem_of_getElem? (i := 96) (by decide +kernel)) (by decide +kernel), rfl, rfl⟩
theorem fl_2_10 : im_fl 2 10 2 0 true := ⟨nm_T2, 3, fc_2, Nat.le_of_ble_eq_true rfl, im_gm (List.mem_of_getElem? (i := 140) (by decide +kernel)) (by decide +kernel), rfl, rfl⟩
theorem fl_2_21 : im_fl 2 21 2 1 false := ⟨nm_T2, 3, fc_2, Nat.le_of_ble_eq_true rfl, im_gm (List.mem_of_getElem? (i := 142) (by decide +kernel)) (by decide +kernel), rfl, rfl⟩
theorem fl_2_25 : im_fl 2 25 2 2 false := ⟨nm_T2, 3, fc_2, Nat.le_of_ble_eq_true rfl, im_gm (List.mem_of_getElem? (i := 143) (by decide +kernel)) (by decide +kernel), rfl, rfl⟩
theorem fl_2_36 : im_fl 2 36 5 4 false := ⟨nm_T5, 11, fc_5, Nat.le_of_ble_eq_true rfl, im_gm (List.mem_of_getElem? (i := 162) (by decide +kernel)) (by decide +kernel), rfl, rfl⟩
theorem fl_2_39 : im_fl 2 39 5 2 true := ⟨nm_T5, 11, fc_5, Nat.le_of_ble_eq_true rfl, im_gm (List.mem_of_getElem? (i := 157) (by decide +kernel)) (by decide +kernel), rfl, rfl⟩
theorem fl_3_16 : im_fl 3 16 3 0 true := ⟨nm_T3, 4, fc_3, Nat.le_of_ble_eq_true rfl, im_gm (List.mem_of_getElem? (i := 217) (by decide +kernel)) (by decide +kernel), rfl, rfl⟩
theorem fl_3_20 : im_fl 3 20 3 1 true := ⟨nm_T3, 4, fc_3, Nat.le_of_ble_eq_true rfl, im_gm (List.mem_of_getElem? (i := 219) (by decide +kernel)) (by decide +kernel), rfl, rfl⟩
theorem fl_3_24 : im_fl 3 24 3 2 true := ⟨nm_T3, 4, fc_3, Nat.le_of_ble_eq_true rfl, im_gm (List.mem_of_getElem? (i := 220) (by decide +kernel)) (by decide +kernel), rfl, rfl⟩
theorem fl_3_36 : im_fl 3 36 3 3 false := ⟨nm_T3, 4, fc_3, Nat.le_of_ble_eq_true rfl, im_gm (List.mem_of_getElem? (i := 221) (by decide +kernel)) (by decide +kernel), rfl, rfl⟩
theorem fl_4_9 : im_fl 4 9 4 0 true := ⟨nm_T4, 4, fc_4, Nat.le_of_ble_eq_true rfl, im_gm (List.mem_of_getElem? (i := 196) (by decide +kernel)) (by decide +kernel), rfl, rfl⟩
theorem fl_4_15 : im_fl 4 15 4 1 true := ⟨nm_T4, 4, fc_4, Nat.le_of_ble_eq_true rfl, im_gm (List.mem_of_getElem? (i := 197) (by decide +kernel)) (by decide +kernel), rfl, rfl⟩
theorem fl_4_49 : im_fl 4 49 4 2 false := ⟨nm_T4, 4, fc_4, Nat.le_of_ble_eq_true rfl, im_gm (List.mem_of_getElem? (i := 198) (by decide +kernel)) (by decide +kernel), rfl, rfl⟩
theorem fl_4_53 : im_fl 4 53 4 3 false := ⟨nm_T4, 4, fc_4, Nat.le_of_ble_eq_true rfl, im_gm (List.mem_of_getElem? (i := 199) (by decide +kernel)) (by decide +kernel), rfl, rfl⟩
theorem fl_4_67 : im_fl 4 67 5 6 false := ⟨nm_T5, 11, fc_5, Nat.le_of_ble_eq_true rfl, im_gm (List.mem_of_getElem? (i := 167) (by decide +kernel)) (by decide +kernel), rfl, rfl⟩
theorem fl_4_76 : im_fl 4 76 5 5 false := ⟨nm_T5, 11, fc_5, Nat.le_of_ble_eq_true rfl, im_gm (List.mem_of_getElem? (i := 164) (by decide +kernel)) (by decide +kernel), rfl, rfl⟩
theorem fl_4_96 : im_fl 4 96 5 1 true := ⟨nm_T5, 11, fc_5, Nat.le_of_ble_eq_true rfl, im_gm (List.mem_of_getElem? (i := 154) (by decide +kernel)) (by decide +kernel), rfl, rfl⟩
theorem fl_4_114 : im_fl 4 114 5 3 true := ⟨nm_T5, 11, fc_5, Nat.le_of_ble_eq_true rfl, im_gm (List.mem_of_getElem? (i := 159) (by decide +kernel)) (by decide +kernel), rfl, rfl⟩
theorem fl_4_150 : im_fl 4 150 5 0 true := ⟨nm_T5, 11, fc_5, Nat.le_of_ble_eq_true rfl, im_gm (List.mem_of_getElem? (i := 152) (by decide +kernel)) (by decide +kernel), rfl, rfl⟩
theorem fl_5_9 : im_fl 5 9 5 1 true := ⟨nm_T5, 11, fc_5, Nat.le_of_ble_eq_true rfl, im_gm (List.mem_of_getElem? (i := 153) (by decide +kernel)) (by decide +kernel), rfl, rfl⟩
theorem fl_5_13 : im_fl 5 13 5 2 true := ⟨nm_T5, 11, fc_5, Nat.le_of_ble_eq_true rfl, im_gm (List.mem_of_getElem? (i := 156) (by decide +kernel)) (by decide +kernel), rfl, rfl⟩
theorem fl_5_19 : im_fl 5 19 5 3 true := ⟨nm_T5, 11, fc_5, Nat.le_of_ble_eq_true rfl, im_gm (List.mem_of_getElem? (i := 158) (by decide +kernel)) (by decide +kernel), rfl, rfl⟩
theorem fl_5_23 : im_fl 5 23 5 7 true := ⟨nm_T5, 11, fc_5, Nat.le_of_ble_eq_true rfl, im_gm (List.mem_of_getElem? (i := 169) (by decide +kernel)) (by decide +kernel), rfl, rfl⟩
theorem fl_5_26 : im_fl 5 26 5 8 true := ⟨nm_T5, 11, fc_5, Nat.le_of_ble_eq_true rfl, im_gm (List.mem_of_getElem? (i := 170) (by decide +kernel)) (by decide +kernel), rfl, rfl⟩
theorem fl_5_29 : im_fl 5 29 5 0 true := ⟨nm_T5, 11, fc_5, Nat.le_of_ble_eq_true rfl, im_gm (List.mem_of_getElem? (i := 151) (by decide +kernel)) (by decide +kernel), rfl, rfl⟩
theorem fl_5_46 : im_fl 5 46 5 5 false := ⟨nm_T5, 11, fc_5, Nat.le_of_ble_eq_true rfl, im_gm (List.mem_of_getElem? (i := 163) (by decide +kernel)) (by decide +kernel), rfl, rfl⟩
theorem fl_5_49 : im_fl 5 49 5 6 false := ⟨nm_T5, 11, fc_5, Nat.le_of_ble_eq_true rfl, im_gm (List.mem_of_getElem? (i := 166) (by decide +kernel)) (by decide +kernel), rfl, rfl⟩
theorem fl_5_52 : im_fl 5 52 5 4 false := ⟨nm_T5, 11, fc_5, Nat.le_of_ble_eq_true rfl, im_gm (List.mem_of_getElem? (i := 161) (by decide +kernel)) (by decide +kernel), rfl, rfl⟩
theorem fl_5_55 : im_fl 5 55 5 9 false := ⟨nm_T5, 11, fc_5, Nat.le_of_ble_eq_true rfl, im_gm (List.mem_of_getElem? (i := 171) (by decide +kernel)) (by decide +kernel), rfl, rfl⟩
theorem fl_5_58 : im_fl 5 58 5 10 false := ⟨nm_T5, 11, fc_5, Nat.le_of_ble_eq_true rfl, im_gm (List.mem_of_getElem? (i := 172) (by decide +kernel)) (by decide +kernel), rfl, rfl⟩
theorem fl_6_9 : im_fl 6 9 6 0 true := ⟨nm_T6, 6, fc_6, Nat.le_of_ble_eq_true rfl, im_gm (List.mem_of_getElem? (i := 69) (by decide +kernel)) (by decide +kernel), rfl, rfl⟩
theorem fl_6_13 : im_fl 6 13 6 1 true := ⟨nm_T6, 6, fc_6, Nat.le_of_ble_eq_true rfl, im_gm (List.mem_of_getElem? (i := 70) (by decide +kernel)) (by decide +kernel), rfl, rfl⟩
theorem fl_6_16 : im_fl 6 16 6 2 true := ⟨nm_T6, 6, fc_6, Nat.le_of_ble_eq_true rfl, im_gm (List.mem_of_getElem? (i := 71) (by decide +kernel)) (by decide +kernel), rfl, rfl⟩
theorem fl_6_19 : im_fl 6 19 6 3 true := ⟨nm_T6, 6, fc_6, Nat.le_of_ble_eq_true rfl, im_gm (List.mem_of_getElem? (i := 72) (by decide +kernel)) (by decide +kernel), rfl, rfl⟩
theorem fl_6_22 : im_fl 6 22 6 4 true := ⟨nm_T6, 6, fc_6, Nat.le_of_ble_eq_true rfl, im_gm (List.mem_of_getElem? (i := 73) (by decide +kernel)) (by decide +kernel), rfl, rfl⟩
theorem fl_6_31 : im_fl 6 31 6 5 false := ⟨nm_T6, 6, fc_6, Nat.le_of_ble_eq_true rfl, im_gm (List.mem_of_getElem? (i := 74) (by decide +kernel)) (by decide +kernel), rfl, rfl⟩
theorem fl_7_10 : im_fl 7 10 7 0 true := ⟨nm_T7, 4, fc_7, Nat.le_of_ble_eq_true rfl, im_gm (List.mem_of_getElem? (i := 231) (by decide +kernel)) (by decide +kernel), rfl, rfl⟩
theorem fl_7_19 : im_fl 7 19 7 1 true := ⟨nm_T7, 4, fc_7, Nat.le_of_ble_eq_true rfl, im_gm (List.mem_of_getElem? (i := 232) (by decide +kernel)) (by decide +kernel), rfl, rfl⟩
theorem fl_7_26 : im_fl 7 26 7 2 true := ⟨nm_T7, 4, fc_7, Nat.le_of_ble_eq_true rfl, im_gm (List.mem_of_getElem? (i := 233) (by decide +kernel)) (by decide +kernel), rfl, rfl⟩
theorem fl_7_33 : im_fl 7 33 7 3 true := ⟨nm_T7, 4, fc_7, Nat.le_of_ble_eq_true rfl, im_gm (List.mem_of_getElem? (i := 234) (by decide +kernel)) (by decide +kernel), rfl, rfl⟩
theorem fl_7_89 : im_fl 7 89 5 6 false := ⟨nm_T5, 11, fc_5, Nat.le_of_ble_eq_true rfl, im_gm (List.mem_of_getElem? (i := 168) (by decide +kernel)) (by decide +kernel), rfl, rfl⟩
theorem fl_7_99 : im_fl 7 99 5 5 false := ⟨nm_T5, 11, fc_5, Nat.le_of_ble_eq_true rfl, im_gm (List.mem_of_getElem? (i := 165) (by decide +kernel)) (by decide +kernel), rfl, rfl⟩
theorem fl_7_102 : im_fl 7 102 5 1 true := ⟨nm_T5, 11, fc_5, Nat.le_of_ble_eq_true rfl, im_gm (List.mem_of_getElem? (i := 155) (by decide +kernel)) (by decide +kernel), rfl, rfl⟩
theorem fl_7_112 : im_fl 7 112 5 3 true := ⟨nm_T5, 11, fc_5, Nat.le_of_ble_eq_true rfl, im_gm (List.mem_of_getElem? (i := 160) (by decide +kernel)) (by decide +kernel), rfl, rfl⟩
theorem fl_7_116 : im_fl 7 116 2 0 true := ⟨nm_T2, 3, fc_2, Nat.le_of_ble_eq_true rfl, im_gm (List.mem_of_getElem? (i := 141) (by decide +kernel)) (by decide +kernel), rfl, rfl⟩
theorem fl_7_132 : im_fl 7 132 3 0 true := ⟨nm_T3, 4, fc_3, Nat.le_of_ble_eq_true rfl, im_gm (List.mem_of_getElem? (i := 218) (by decide +kernel)) (by decide +kernel), rfl, rfl⟩
theorem fl_8_7 : im_fl 8 7 8 0 true := ⟨nm_T8, 32, fc_8, Nat.le_of_ble_eq_true rfl, im_gm (List.mem_of_getElem? (i := 667) (by decide +kernel)) (by decide +kernel), rfl, rfl⟩
theorem fl_8_13 : im_fl 8 13 8 1 true := ⟨nm_T8, 32, fc_8, Nat.le_of_ble_eq_true rfl, im_gm (List.mem_of_getElem? (i := 668) (by decide +kernel)) (by decide +kernel), rfl, rfl⟩
theorem fl_8_16 : im_fl 8 16 8 2 true := ⟨nm_T8, 32, fc_8, Nat.le_of_ble_eq_true rfl, im_gm (List.mem_of_getElem? (i := 669) (by decide +kernel)) (by decide +kernel), rfl, rfl⟩
theorem fl_8_19 : im_fl 8 19 8 3 true := ⟨nm_T8, 32, fc_8, Nat.le_of_ble_eq_true rfl, im_gm (List.mem_of_getElem? (i := 670) (by decide +kernel)) (by decide +kernel), rfl, rfl⟩
theorem fl_8_22 : im_fl 8 22 8 4 true := ⟨nm_T8, 32, fc_8, Nat.le_of_ble_eq_true rfl, im_gm (List.mem_of_getElem? (i := 671) (by decide +kernel)) (by decide +kernel), rfl, rfl⟩
theorem fl_8_25 : im_fl 8 25 8 5 true := ⟨nm_T8, 32, fc_8, Nat.le_of_ble_eq_true rfl, im_gm (List.mem_of_getElem? (i := 672) (by decide +kernel)) (by decide +kernel), rfl, rfl⟩
theorem fl_8_28 : im_fl 8 28 8 6 true := ⟨nm_T8, 32, fc_8, Nat.le_of_ble_eq_true rfl, im_gm (List.mem_of_getElem? (i := 673) (by decide +kernel)) (by decide +kernel), rfl, rfl⟩
theorem fl_8_31 : im_fl 8 31 8 7 true := ⟨nm_T8, 32, fc_8, Nat.le_of_ble_eq_true rfl, im_gm (List.mem_of_getElem? (i := 674) (by decide +kernel)) (by decide +kernel), rfl, rfl⟩
theorem fl_8_34 : im_fl 8 34 8 8 true := ⟨nm_T8, 32, fc_8, Nat.le_of_ble_eq_true rfl, im_gm (List.mem_of_getElem? (i := 675) (by decide +kernel)) (by decide +kernel), rfl, rfl⟩
theorem fl_8_37 : im_fl 8 37 8 9 true := ⟨nm_T8, 32, fc_8, Nat.le_of_ble_eq_true rfl, im_gm (List.mem_of_getElem? (i := 676) (by decide +kernel)) (by decide +kernel), rfl, rfl⟩
theorem fl_8_40 : im_fl 8 40 8 10 true := ⟨nm_T8, 32, fc_8, Nat.le_of_ble_eq_true rfl, im_gm (List.mem_of_getElem? (i := 677) (by decide +kernel)) (by decide +kernel), rfl, rfl⟩
theorem fl_8_43 : im_fl 8 43 8 11 true := ⟨nm_T8, 32, fc_8, Nat.le_of_ble_eq_true rfl, im_gm (List.mem_of_getElem? (i := 678) (by decide +kernel)) (by decide +kernel), rfl, rfl⟩
theorem fl_8_46 : im_fl 8 46 8 12 true := ⟨nm_T8, 32, fc_8, Nat.le_of_ble_eq_true rfl, im_gm (List.mem_of_getElem? (i := 679) (by decide +kernel)) (by decide +kernel), rfl, rfl⟩
theorem fl_8_49 : im_fl 8 49 8 13 true := ⟨nm_T8, 32, fc_8, Nat.le_of_ble_eq_true rfl, im_gm (List.mem_of_getElem? (i := 680) (by decide +kernel)) (by decide +kernel), rfl, rfl⟩
theorem fl_8_52 : im_fl 8 52 8 17 true := ⟨nm_T8, 32, fc_8, Nat.le_of_ble_eq_true rfl, im_gm (List.mem_of_getElem? (i := 684) (by decide +kernel)) (by decide +kernel), rfl, rfl⟩
theorem fl_8_55 : im_fl 8 55 8 18 true := ⟨nm_T8, 32, fc_8, Nat.le_of_ble_eq_true rfl, im_gm (List.mem_of_getElem? (i := 685) (by decide +kernel)) (by decide +kernel), rfl, rfl⟩
theorem fl_8_58 : im_fl 8 58 8 19 true := ⟨nm_T8, 32, fc_8, Nat.le_of_ble_eq_true rfl, im_gm (List.mem_of_getElem? (i := 686) (by decide +kernel)) (by decide +kernel), rfl, rfl⟩
theorem fl_8_61 : im_fl 8 61 8 20 true := ⟨nm_T8, 32, fc_8, Nat.le_of_ble_eq_true rfl, im_gm (List.mem_of_getElem? (i := 687) (by decide +kernel)) (by decide +kernel), rfl, rfl⟩
theorem fl_8_64 : im_fl 8 64 8 21 true := ⟨nm_T8, 32, fc_8, Nat.le_of_ble_eq_true rfl, im_gm (List.mem_of_getElem? (i := 688) (by decide +kernel)) (by decide +kernel), rfl, rfl⟩
theorem fl_8_68 : im_fl 8 68 8 22 true := ⟨nm_T8, 32, fc_8, Nat.le_of_ble_eq_true rfl, im_gm (List.mem_of_getElem? (i := 689) (by decide +kernel)) (by decide +kernel), rfl, rfl⟩
theorem fl_8_71 : im_fl 8 71 8 24 true := ⟨nm_T8, 32, fc_8, Nat.le_of_ble_eq_true rfl, im_gm (List.mem_of_getElem? (i := 691) (by decide +kernel)) (by decide +kernel), rfl, rfl⟩
theorem fl_8_74 : im_fl 8 74 8 25 true := ⟨nm_T8, 32, fc_8, Nat.le_of_ble_eq_true rfl, im_gm (List.mem_of_getElem? (i := 692) (by decide +kernel)) (by decide +kernel), rfl, rfl⟩
theorem fl_8_77 : im_fl 8 77 8 26 true := ⟨nm_T8, 32, fc_8, Nat.le_of_ble_eq_true rfl, im_gm (List.mem_of_getElem? (i := 693) (by decide +kernel)) (by decide +kernel), rfl, rfl⟩
theorem fl_8_80 : im_fl 8 80 8 31 true := ⟨nm_T8, 32, fc_8, Nat.le_of_ble_eq_true rfl, im_gm (List.mem_of_getElem? (i := 698) (by decide +kernel)) (by decide +kernel), rfl, rfl⟩
theorem fl_8_89 : im_fl 8 89 8 16 false := ⟨nm_T8, 32, fc_8, Nat.le_of_ble_eq_true rfl, im_gm (List.mem_of_getElem? (i := 683) (by decide +kernel)) (by decide +kernel), rfl, rfl⟩
theorem fl_8_93 : im_fl 8 93 8 23 false := ⟨nm_T8, 32, fc_8, Nat.le_of_ble_eq_true rfl, im_gm (List.mem_of_getElem? (i := 690) (by decide +kernel)) (by decide +kernel), rfl, rfl⟩
theorem fl_8_138 : im_fl 8 138 8 14 false := ⟨nm_T8, 32, fc_8, Nat.le_of_ble_eq_true rfl, im_gm (List.mem_of_getElem? (i := 681) (by decide +kernel)) (by decide +kernel), rfl, rfl⟩
theorem fl_8_141 : im_fl 8 141 8 15 false := ⟨nm_T8, 32, fc_8, Nat.le_of_ble_eq_true rfl, im_gm (List.mem_of_getElem? (i := 682) (by decide +kernel)) (by decide +kernel), rfl, rfl⟩
theorem fl_8_173 : im_fl 8 173 8 27 false := ⟨nm_T8, 32, fc_8, Nat.le_of_ble_eq_true rfl, im_gm (List.mem_of_getElem? (i := 694) (by decide +kernel)) (by decide +kernel), rfl, rfl⟩
theorem fl_8_176 : im_fl 8 176 8 28 false := ⟨nm_T8, 32, fc_8, Nat.le_of_ble_eq_true rfl, im_gm (List.mem_of_getElem? (i := 695) (by decide +kernel)) (by decide +kernel), rfl, rfl⟩
theorem fl_8_179 : im_fl 8 179 8 29 false := ⟨nm_T8, 32, fc_8, Nat.le_of_ble_eq_true rfl, im_gm (List.mem_of_getElem? (i := 696) (by decide +kernel)) (by decide +kernel), rfl, rfl⟩
theorem fl_8_182 : im_fl 8 182 8 30 false := ⟨nm_T8, 32, fc_8, Nat.le_of_ble_eq_true rfl, im_gm (List.mem_of_getElem? (i := 697) (by decide +kernel)) (by decide +kernel), rfl, rfl⟩
def ym_0 : MethodName := ⟨"FencedModules$CallList", "<init>", "()V"⟩
def fm_0 : im_F := (0, true, true, none, cm_0, 1)
set_option maxRecDepth 30000 in
theorem mf_0 : im_mf ym_0 1 fm_0 := ⟨by decide +kernel, im_gm (List.mem_of_getElem? (i := 125) rfl) rfl, im_gm (List.mem_of_getElem? (i := 46) (by decide +kernel)) (by decide +kernel), ⟨by decide +kernel, by decide +kernel⟩, rfl, Nat.le_of_ble_eq_true rfl, Nat.le_of_ble_eq_true rfl, fun _ => rfl⟩
theorem mp_0 : (parseMethodDescriptor ym_0.desc).map (fun d => d.parameters.length) = some 0 := by decide +kernel
theorem mi_0 : Cond.instanceMethod ym_0 ∈ im_g := im_gm (List.mem_of_getElem? (i := 124) (by decide +kernel)) (by decide +kernel)
def ym_1 : MethodName := ⟨"FencedModules$CallList", "empty", "()V"⟩
def fm_1 : im_F := (0, false, false, none, cm_1, 1)
set_option maxRecDepth 30000 in
theorem mf_1 : im_mf ym_1 1 fm_1 := ⟨by decide +kernel, im_gm (List.mem_of_getElem? (i := 458) rfl) rfl, im_gm (List.mem_of_getElem? (i := 46) (by decide +kernel)) (by decide +kernel), ⟨by decide +kernel, by decide +kernel⟩, rfl, Nat.le_of_ble_eq_true rfl, Nat.le_of_ble_eq_true rfl, fun h => nomatch h⟩
theorem mp_1 : (parseMethodDescriptor ym_1.desc).map (fun d => d.parameters.length) = some 0 := by decide +kernel
theorem mi_1 : Cond.instanceMethod ym_1 ∈ im_g := im_gm (List.mem_of_getElem? (i := 456) (by decide +kernel)) (by decide +kernel)
theorem ms_1 : Cond.selects ym_1.cls ym_1 ym_1 ∈ im_g := im_gm (List.mem_of_getElem? (i := 457) (by decide +kernel)) (by decide +kernel)
def ym_2 : MethodName := ⟨"FencedModules$CallList", "note", "(III)V"⟩
def fm_2 : im_F := (0, false, false, none, cm_2, 4)
set_option maxRecDepth 30000 in
theorem mf_2 : im_mf ym_2 4 fm_2 := ⟨by decide +kernel, im_gm (List.mem_of_getElem? (i := 516) rfl) rfl, im_gm (List.mem_of_getElem? (i := 46) (by decide +kernel)) (by decide +kernel), ⟨by decide +kernel, by decide +kernel⟩, rfl, Nat.le_of_ble_eq_true rfl, Nat.le_of_ble_eq_true rfl, fun h => nomatch h⟩
theorem mp_2 : (parseMethodDescriptor ym_2.desc).map (fun d => d.parameters.length) = some 3 := by decide +kernel
theorem mi_2 : Cond.instanceMethod ym_2 ∈ im_g := im_gm (List.mem_of_getElem? (i := 514) (by decide +kernel)) (by decide +kernel)
theorem ms_2 : Cond.selects ym_2.cls ym_2 ym_2 ∈ im_g := im_gm (List.mem_of_getElem? (i := 515) (by decide +kernel)) (by decide +kernel)
def ym_3 : MethodName := ⟨"FencedModules$CallList", "tell", "(II)I"⟩
def fm_3 : im_F := (0, false, false, some .int, cm_3, 3)
set_option maxRecDepth 30000 in
theorem mf_3 : im_mf ym_3 3 fm_3 := ⟨by decide +kernel, im_gm (List.mem_of_getElem? (i := 591) rfl) rfl, im_gm (List.mem_of_getElem? (i := 46) (by decide +kernel)) (by decide +kernel), ⟨by decide +kernel, by decide +kernel⟩, rfl, Nat.le_of_ble_eq_true rfl, Nat.le_of_ble_eq_true rfl, fun h => nomatch h⟩
theorem mp_3 : (parseMethodDescriptor ym_3.desc).map (fun d => d.parameters.length) = some 2 := by decide +kernel
theorem mi_3 : Cond.instanceMethod ym_3 ∈ im_g := im_gm (List.mem_of_getElem? (i := 589) (by decide +kernel)) (by decide +kernel)
theorem ms_3 : Cond.selects ym_3.cls ym_3 ym_3 ∈ im_g := im_gm (List.mem_of_getElem? (i := 590) (by decide +kernel)) (by decide +kernel)
def ym_4 : MethodName := ⟨"FencedModules$Code", "<init>", "()V"⟩
def fm_4 : im_F := (1, true, true, none, cm_4, 1)
set_option maxRecDepth 30000 in
theorem mf_4 : im_mf ym_4 1 fm_4 := ⟨by decide +kernel, im_gm (List.mem_of_getElem? (i := 93) rfl) rfl, im_gm (List.mem_of_getElem? (i := 42) (by decide +kernel)) (by decide +kernel), ⟨by decide +kernel, by decide +kernel⟩, rfl, Nat.le_of_ble_eq_true rfl, Nat.le_of_ble_eq_true rfl, fun _ => rfl⟩
theorem mp_4 : (parseMethodDescriptor ym_4.desc).map (fun d => d.parameters.length) = some 0 := by decide +kernel
theorem mi_4 : Cond.instanceMethod ym_4 ∈ im_g := im_gm (List.mem_of_getElem? (i := 92) (by decide +kernel)) (by decide +kernel)
def ym_5 : MethodName := ⟨"FencedModules$Code", "empty", "()V"⟩
def fm_5 : im_F := (1, false, false, none, cm_5, 1)
set_option maxRecDepth 30000 in
theorem mf_5 : im_mf ym_5 1 fm_5 := ⟨by decide +kernel, im_gm (List.mem_of_getElem? (i := 273) rfl) rfl, im_gm (List.mem_of_getElem? (i := 42) (by decide +kernel)) (by decide +kernel), ⟨by decide +kernel, by decide +kernel⟩, rfl, Nat.le_of_ble_eq_true rfl, Nat.le_of_ble_eq_true rfl, fun h => nomatch h⟩
theorem mp_5 : (parseMethodDescriptor ym_5.desc).map (fun d => d.parameters.length) = some 0 := by decide +kernel
theorem mi_5 : Cond.instanceMethod ym_5 ∈ im_g := im_gm (List.mem_of_getElem? (i := 271) (by decide +kernel)) (by decide +kernel)
theorem ms_5 : Cond.selects ym_5.cls ym_5 ym_5 ∈ im_g := im_gm (List.mem_of_getElem? (i := 272) (by decide +kernel)) (by decide +kernel)
def ym_6 : MethodName := ⟨"FencedModules$Code", "add", "(I)Z"⟩
def fm_6 : im_F := (1, false, false, some .boolean, cm_6, 2)
set_option maxRecDepth 30000 in
theorem mf_6 : im_mf ym_6 2 fm_6 := ⟨by decide +kernel, im_gm (List.mem_of_getElem? (i := 348) rfl) rfl, im_gm (List.mem_of_getElem? (i := 42) (by decide +kernel)) (by decide +kernel), ⟨by decide +kernel, by decide +kernel⟩, rfl, Nat.le_of_ble_eq_true rfl, Nat.le_of_ble_eq_true rfl, fun h => nomatch h⟩
theorem mp_6 : (parseMethodDescriptor ym_6.desc).map (fun d => d.parameters.length) = some 1 := by decide +kernel
theorem mi_6 : Cond.instanceMethod ym_6 ∈ im_g := im_gm (List.mem_of_getElem? (i := 346) (by decide +kernel)) (by decide +kernel)
theorem ms_6 : Cond.selects ym_6.cls ym_6 ym_6 ∈ im_g := im_gm (List.mem_of_getElem? (i := 347) (by decide +kernel)) (by decide +kernel)
def ym_7 : MethodName := ⟨"FencedModules$Code", "count", "()I"⟩
def fm_7 : im_F := (1, false, false, some .int, cm_7, 1)
set_option maxRecDepth 30000 in
theorem mf_7 : im_mf ym_7 1 fm_7 := ⟨by decide +kernel, im_gm (List.mem_of_getElem? (i := 372) rfl) rfl, im_gm (List.mem_of_getElem? (i := 42) (by decide +kernel)) (by decide +kernel), ⟨by decide +kernel, by decide +kernel⟩, rfl, Nat.le_of_ble_eq_true rfl, Nat.le_of_ble_eq_true rfl, fun h => nomatch h⟩
theorem mp_7 : (parseMethodDescriptor ym_7.desc).map (fun d => d.parameters.length) = some 0 := by decide +kernel
theorem mi_7 : Cond.instanceMethod ym_7 ∈ im_g := im_gm (List.mem_of_getElem? (i := 370) (by decide +kernel)) (by decide +kernel)
theorem ms_7 : Cond.selects ym_7.cls ym_7 ym_7 ∈ im_g := im_gm (List.mem_of_getElem? (i := 371) (by decide +kernel)) (by decide +kernel)
def ym_8 : MethodName := ⟨"FencedModules$Code", "at", "(I)I"⟩
def fm_8 : im_F := (1, false, false, some .int, cm_8, 2)
set_option maxRecDepth 30000 in
theorem mf_8 : im_mf ym_8 2 fm_8 := ⟨by decide +kernel, im_gm (List.mem_of_getElem? (i := 389) rfl) rfl, im_gm (List.mem_of_getElem? (i := 42) (by decide +kernel)) (by decide +kernel), ⟨by decide +kernel, by decide +kernel⟩, rfl, Nat.le_of_ble_eq_true rfl, Nat.le_of_ble_eq_true rfl, fun h => nomatch h⟩
theorem mp_8 : (parseMethodDescriptor ym_8.desc).map (fun d => d.parameters.length) = some 1 := by decide +kernel
theorem mi_8 : Cond.instanceMethod ym_8 ∈ im_g := im_gm (List.mem_of_getElem? (i := 387) (by decide +kernel)) (by decide +kernel)
theorem ms_8 : Cond.selects ym_8.cls ym_8 ym_8 ∈ im_g := im_gm (List.mem_of_getElem? (i := 388) (by decide +kernel)) (by decide +kernel)
def ym_9 : MethodName := ⟨"FencedModules$Desk", "<init>", "()V"⟩
def fm_9 : im_F := (2, true, true, none, cm_9, 1)
set_option maxRecDepth 30000 in
theorem mf_9 : im_mf ym_9 1 fm_9 := ⟨by decide +kernel, im_gm (List.mem_of_getElem? (i := 119) rfl) rfl, im_gm (List.mem_of_getElem? (i := 45) (by decide +kernel)) (by decide +kernel), ⟨by decide +kernel, by decide +kernel⟩, rfl, Nat.le_of_ble_eq_true rfl, Nat.le_of_ble_eq_true rfl, fun _ => rfl⟩
theorem mp_9 : (parseMethodDescriptor ym_9.desc).map (fun d => d.parameters.length) = some 0 := by decide +kernel
theorem mi_9 : Cond.instanceMethod ym_9 ∈ im_g := im_gm (List.mem_of_getElem? (i := 118) (by decide +kernel)) (by decide +kernel)
def ym_10 : MethodName := ⟨"FencedModules$Desk", "answers", "(I)Z"⟩
def fm_10 : im_F := (2, false, false, some .boolean, cm_10, 1)
set_option maxRecDepth 30000 in
theorem mf_10 : im_mf ym_10 1 fm_10 := ⟨by decide +kernel, im_gm (List.mem_of_getElem? (i := 319) rfl) rfl, im_gm (List.mem_of_getElem? (i := 45) (by decide +kernel)) (by decide +kernel), ⟨by decide +kernel, by decide +kernel⟩, rfl, Nat.le_of_ble_eq_true rfl, Nat.le_of_ble_eq_true rfl, fun h => nomatch h⟩
theorem mp_10 : (parseMethodDescriptor ym_10.desc).map (fun d => d.parameters.length) = some 1 := by decide +kernel
theorem mi_10 : Cond.static ym_10 ∈ im_g := im_gm (List.mem_of_getElem? (i := 318) (by decide +kernel)) (by decide +kernel)
def ym_11 : MethodName := ⟨"FencedModules$Desk", "argumentsOf", "(I)I"⟩
def fm_11 : im_F := (2, false, false, some .int, cm_11, 1)
set_option maxRecDepth 30000 in
theorem mf_11 : im_mf ym_11 1 fm_11 := ⟨by decide +kernel, im_gm (List.mem_of_getElem? (i := 512) rfl) rfl, im_gm (List.mem_of_getElem? (i := 45) (by decide +kernel)) (by decide +kernel), ⟨by decide +kernel, by decide +kernel⟩, rfl, Nat.le_of_ble_eq_true rfl, Nat.le_of_ble_eq_true rfl, fun h => nomatch h⟩
theorem mp_11 : (parseMethodDescriptor ym_11.desc).map (fun d => d.parameters.length) = some 1 := by decide +kernel
theorem mi_11 : Cond.static ym_11 ∈ im_g := im_gm (List.mem_of_getElem? (i := 511) (by decide +kernel)) (by decide +kernel)
def ym_12 : MethodName := ⟨"FencedModules$Desk", "canPrint", "(II)Z"⟩
def fm_12 : im_F := (2, false, false, some .boolean, cm_12, 2)
set_option maxRecDepth 30000 in
theorem mf_12 : im_mf ym_12 2 fm_12 := ⟨by decide +kernel, im_gm (List.mem_of_getElem? (i := 539) rfl) rfl, im_gm (List.mem_of_getElem? (i := 45) (by decide +kernel)) (by decide +kernel), ⟨by decide +kernel, by decide +kernel⟩, rfl, Nat.le_of_ble_eq_true rfl, Nat.le_of_ble_eq_true rfl, fun h => nomatch h⟩
theorem mp_12 : (parseMethodDescriptor ym_12.desc).map (fun d => d.parameters.length) = some 2 := by decide +kernel
theorem mi_12 : Cond.static ym_12 ∈ im_g := im_gm (List.mem_of_getElem? (i := 538) (by decide +kernel)) (by decide +kernel)
def ym_13 : MethodName := ⟨"FencedModules$Desk", "open", "()V"⟩
def fm_13 : im_F := (2, false, false, none, cm_13, 1)
set_option maxRecDepth 30000 in
theorem mf_13 : im_mf ym_13 1 fm_13 := ⟨by decide +kernel, im_gm (List.mem_of_getElem? (i := 454) rfl) rfl, im_gm (List.mem_of_getElem? (i := 45) (by decide +kernel)) (by decide +kernel), ⟨by decide +kernel, by decide +kernel⟩, rfl, Nat.le_of_ble_eq_true rfl, Nat.le_of_ble_eq_true rfl, fun h => nomatch h⟩
theorem mp_13 : (parseMethodDescriptor ym_13.desc).map (fun d => d.parameters.length) = some 0 := by decide +kernel
theorem mi_13 : Cond.instanceMethod ym_13 ∈ im_g := im_gm (List.mem_of_getElem? (i := 452) (by decide +kernel)) (by decide +kernel)
theorem ms_13 : Cond.selects ym_13.cls ym_13 ym_13 ∈ im_g := im_gm (List.mem_of_getElem? (i := 453) (by decide +kernel)) (by decide +kernel)
def ym_14 : MethodName := ⟨"FencedModules$Desk", "note", "(III)V"⟩
def fm_14 : im_F := (2, false, false, none, cm_14, 5)
set_option maxRecDepth 30000 in
theorem mf_14 : im_mf ym_14 4 fm_14 := ⟨by decide +kernel, im_gm (List.mem_of_getElem? (i := 509) rfl) rfl, im_gm (List.mem_of_getElem? (i := 45) (by decide +kernel)) (by decide +kernel), ⟨by decide +kernel, by decide +kernel⟩, rfl, Nat.le_of_ble_eq_true rfl, Nat.le_of_ble_eq_true rfl, fun h => nomatch h⟩
theorem mp_14 : (parseMethodDescriptor ym_14.desc).map (fun d => d.parameters.length) = some 3 := by decide +kernel
theorem mi_14 : Cond.instanceMethod ym_14 ∈ im_g := im_gm (List.mem_of_getElem? (i := 507) (by decide +kernel)) (by decide +kernel)
theorem ms_14 : Cond.selects ym_14.cls ym_14 ym_14 ∈ im_g := im_gm (List.mem_of_getElem? (i := 508) (by decide +kernel)) (by decide +kernel)
def ym_15 : MethodName := ⟨"FencedModules$Desk", "allocate", "(I)I"⟩
def fm_15 : im_F := (2, false, false, some .int, cm_15, 3)
set_option maxRecDepth 30000 in
theorem mf_15 : im_mf ym_15 2 fm_15 := ⟨by decide +kernel, im_gm (List.mem_of_getElem? (i := 532) rfl) rfl, im_gm (List.mem_of_getElem? (i := 45) (by decide +kernel)) (by decide +kernel), ⟨by decide +kernel, by decide +kernel⟩, rfl, Nat.le_of_ble_eq_true rfl, Nat.le_of_ble_eq_true rfl, fun h => nomatch h⟩
theorem mp_15 : (parseMethodDescriptor ym_15.desc).map (fun d => d.parameters.length) = some 1 := by decide +kernel
theorem mi_15 : Cond.instanceMethod ym_15 ∈ im_g := im_gm (List.mem_of_getElem? (i := 530) (by decide +kernel)) (by decide +kernel)
theorem ms_15 : Cond.selects ym_15.cls ym_15 ym_15 ∈ im_g := im_gm (List.mem_of_getElem? (i := 531) (by decide +kernel)) (by decide +kernel)
def ym_16 : MethodName := ⟨"FencedModules$Desk", "takeInput", "(LFencedModules$Sandbox;)I"⟩
def fm_16 : im_F := (2, false, false, some .int, cm_16, 3)
set_option maxRecDepth 30000 in
theorem mf_16 : im_mf ym_16 2 fm_16 := ⟨by decide +kernel, im_gm (List.mem_of_getElem? (i := 528) rfl) rfl, im_gm (List.mem_of_getElem? (i := 45) (by decide +kernel)) (by decide +kernel), ⟨by decide +kernel, by decide +kernel⟩, rfl, Nat.le_of_ble_eq_true rfl, Nat.le_of_ble_eq_true rfl, fun h => nomatch h⟩
theorem mp_16 : (parseMethodDescriptor ym_16.desc).map (fun d => d.parameters.length) = some 1 := by decide +kernel
theorem mi_16 : Cond.instanceMethod ym_16 ∈ im_g := im_gm (List.mem_of_getElem? (i := 526) (by decide +kernel)) (by decide +kernel)
theorem ms_16 : Cond.selects ym_16.cls ym_16 ym_16 ∈ im_g := im_gm (List.mem_of_getElem? (i := 527) (by decide +kernel)) (by decide +kernel)
def ym_17 : MethodName := ⟨"FencedModules$Follower", "<init>", "()V"⟩
def fm_17 : im_F := (3, true, true, none, cm_17, 1)
set_option maxRecDepth 30000 in
theorem mf_17 : im_mf ym_17 1 fm_17 := ⟨by decide +kernel, im_gm (List.mem_of_getElem? (i := 213) rfl) rfl, im_gm (List.mem_of_getElem? (i := 47) (by decide +kernel)) (by decide +kernel), ⟨by decide +kernel, by decide +kernel⟩, rfl, Nat.le_of_ble_eq_true rfl, Nat.le_of_ble_eq_true rfl, fun _ => rfl⟩
theorem mp_17 : (parseMethodDescriptor ym_17.desc).map (fun d => d.parameters.length) = some 0 := by decide +kernel
theorem mi_17 : Cond.instanceMethod ym_17 ∈ im_g := im_gm (List.mem_of_getElem? (i := 212) (by decide +kernel)) (by decide +kernel)
def ym_18 : MethodName := ⟨"FencedModules$Follower", "goThrough", "(LFencedModules$Source;LFencedModules$Sandbox;I)I"⟩
def fm_18 : im_F := (3, false, false, some .int, cm_18, 6)
set_option maxRecDepth 30000 in
theorem mf_18 : im_mf ym_18 4 fm_18 := ⟨by decide +kernel, im_gm (List.mem_of_getElem? (i := 599) rfl) rfl, im_gm (List.mem_of_getElem? (i := 47) (by decide +kernel)) (by decide +kernel), ⟨by decide +kernel, by decide +kernel⟩, rfl, Nat.le_of_ble_eq_true rfl, Nat.le_of_ble_eq_true rfl, fun h => nomatch h⟩
theorem mp_18 : (parseMethodDescriptor ym_18.desc).map (fun d => d.parameters.length) = some 3 := by decide +kernel
theorem mi_18 : Cond.instanceMethod ym_18 ∈ im_g := im_gm (List.mem_of_getElem? (i := 597) (by decide +kernel)) (by decide +kernel)
theorem ms_18 : Cond.selects ym_18.cls ym_18 ym_18 ∈ im_g := im_gm (List.mem_of_getElem? (i := 598) (by decide +kernel)) (by decide +kernel)
def ym_19 : MethodName := ⟨"FencedModules$Follower", "reasonToEnd", "(LFencedModules$Source;)I"⟩
def fm_19 : im_F := (3, false, false, some .int, cm_19, 6)
set_option maxRecDepth 30000 in
theorem mf_19 : im_mf ym_19 2 fm_19 := ⟨by decide +kernel, im_gm (List.mem_of_getElem? (i := 605) rfl) rfl, im_gm (List.mem_of_getElem? (i := 47) (by decide +kernel)) (by decide +kernel), ⟨by decide +kernel, by decide +kernel⟩, rfl, Nat.le_of_ble_eq_true rfl, Nat.le_of_ble_eq_true rfl, fun h => nomatch h⟩
theorem mp_19 : (parseMethodDescriptor ym_19.desc).map (fun d => d.parameters.length) = some 1 := by decide +kernel
theorem mi_19 : Cond.instanceMethod ym_19 ∈ im_g := im_gm (List.mem_of_getElem? (i := 604) (by decide +kernel)) (by decide +kernel)
theorem ms_19 : Cond.selects ym_19.cls ym_19 ym_19 ∈ im_g := im_gm (List.mem_of_getElem? (i := 10) (by decide +kernel)) (by decide +kernel)
def ym_20 : MethodName := ⟨"FencedModules$Follower", "takesLabel", "(IIII)Z"⟩
def fm_20 : im_F := (3, false, false, some .boolean, cm_20, 5)
set_option maxRecDepth 30000 in
theorem mf_20 : im_mf ym_20 5 fm_20 := ⟨by decide +kernel, im_gm (List.mem_of_getElem? (i := 613) rfl) rfl, im_gm (List.mem_of_getElem? (i := 47) (by decide +kernel)) (by decide +kernel), ⟨by decide +kernel, by decide +kernel⟩, rfl, Nat.le_of_ble_eq_true rfl, Nat.le_of_ble_eq_true rfl, fun h => nomatch h⟩
theorem mp_20 : (parseMethodDescriptor ym_20.desc).map (fun d => d.parameters.length) = some 4 := by decide +kernel
theorem mi_20 : Cond.instanceMethod ym_20 ∈ im_g := im_gm (List.mem_of_getElem? (i := 612) (by decide +kernel)) (by decide +kernel)
theorem ms_20 : Cond.selects ym_20.cls ym_20 ym_20 ∈ im_g := im_gm (List.mem_of_getElem? (i := 11) (by decide +kernel)) (by decide +kernel)
def ym_21 : MethodName := ⟨"FencedModules$Follower", "callTakesLabel", "(I)Z"⟩
def fm_21 : im_F := (3, false, false, some .boolean, cm_21, 3)
set_option maxRecDepth 30000 in
theorem mf_21 : im_mf ym_21 2 fm_21 := ⟨by decide +kernel, im_gm (List.mem_of_getElem? (i := 621) rfl) rfl, im_gm (List.mem_of_getElem? (i := 47) (by decide +kernel)) (by decide +kernel), ⟨by decide +kernel, by decide +kernel⟩, rfl, Nat.le_of_ble_eq_true rfl, Nat.le_of_ble_eq_true rfl, fun h => nomatch h⟩
theorem mp_21 : (parseMethodDescriptor ym_21.desc).map (fun d => d.parameters.length) = some 1 := by decide +kernel
theorem mi_21 : Cond.instanceMethod ym_21 ∈ im_g := im_gm (List.mem_of_getElem? (i := 620) (by decide +kernel)) (by decide +kernel)
theorem ms_21 : Cond.selects ym_21.cls ym_21 ym_21 ∈ im_g := im_gm (List.mem_of_getElem? (i := 13) (by decide +kernel)) (by decide +kernel)
def ym_22 : MethodName := ⟨"FencedModules$Follower", "wouldPrintLabel", "(II)Z"⟩
def fm_22 : im_F := (3, false, false, some .boolean, cm_22, 4)
set_option maxRecDepth 30000 in
theorem mf_22 : im_mf ym_22 3 fm_22 := ⟨by decide +kernel, im_gm (List.mem_of_getElem? (i := 626) rfl) rfl, im_gm (List.mem_of_getElem? (i := 47) (by decide +kernel)) (by decide +kernel), ⟨by decide +kernel, by decide +kernel⟩, rfl, Nat.le_of_ble_eq_true rfl, Nat.le_of_ble_eq_true rfl, fun h => nomatch h⟩
theorem mp_22 : (parseMethodDescriptor ym_22.desc).map (fun d => d.parameters.length) = some 2 := by decide +kernel
theorem mi_22 : Cond.instanceMethod ym_22 ∈ im_g := im_gm (List.mem_of_getElem? (i := 625) (by decide +kernel)) (by decide +kernel)
theorem ms_22 : Cond.selects ym_22.cls ym_22 ym_22 ∈ im_g := im_gm (List.mem_of_getElem? (i := 14) (by decide +kernel)) (by decide +kernel)
def ym_23 : MethodName := ⟨"FencedModules$Follower", "holdsLabel", "(I)Z"⟩
def fm_23 : im_F := (3, false, false, some .boolean, cm_23, 2)
set_option maxRecDepth 30000 in
theorem mf_23 : im_mf ym_23 2 fm_23 := ⟨by decide +kernel, im_gm (List.mem_of_getElem? (i := 617) rfl) rfl, im_gm (List.mem_of_getElem? (i := 47) (by decide +kernel)) (by decide +kernel), ⟨by decide +kernel, by decide +kernel⟩, rfl, Nat.le_of_ble_eq_true rfl, Nat.le_of_ble_eq_true rfl, fun h => nomatch h⟩
theorem mp_23 : (parseMethodDescriptor ym_23.desc).map (fun d => d.parameters.length) = some 1 := by decide +kernel
theorem mi_23 : Cond.instanceMethod ym_23 ∈ im_g := im_gm (List.mem_of_getElem? (i := 616) (by decide +kernel)) (by decide +kernel)
theorem ms_23 : Cond.selects ym_23.cls ym_23 ym_23 ∈ im_g := im_gm (List.mem_of_getElem? (i := 12) (by decide +kernel)) (by decide +kernel)
def ym_24 : MethodName := ⟨"FencedModules$Follower", "isAddress", "(I)Z"⟩
def fm_24 : im_F := (3, false, false, some .boolean, cm_24, 1)
set_option maxRecDepth 30000 in
theorem mf_24 : im_mf ym_24 1 fm_24 := ⟨by decide +kernel, im_gm (List.mem_of_getElem? (i := 630) rfl) rfl, im_gm (List.mem_of_getElem? (i := 47) (by decide +kernel)) (by decide +kernel), ⟨by decide +kernel, by decide +kernel⟩, rfl, Nat.le_of_ble_eq_true rfl, Nat.le_of_ble_eq_true rfl, fun h => nomatch h⟩
theorem mp_24 : (parseMethodDescriptor ym_24.desc).map (fun d => d.parameters.length) = some 1 := by decide +kernel
theorem mi_24 : Cond.static ym_24 ∈ im_g := im_gm (List.mem_of_getElem? (i := 629) (by decide +kernel)) (by decide +kernel)
def ym_25 : MethodName := ⟨"FencedModules$Follower", "doLine", "(LFencedModules$Source;LFencedModules$Sandbox;)I"⟩
def fm_25 : im_F := (3, false, false, some .int, cm_25, 9)
set_option maxRecDepth 30000 in
theorem mf_25 : im_mf ym_25 3 fm_25 := ⟨by decide +kernel, im_gm (List.mem_of_getElem? (i := 634) rfl) rfl, im_gm (List.mem_of_getElem? (i := 47) (by decide +kernel)) (by decide +kernel), ⟨by decide +kernel, by decide +kernel⟩, rfl, Nat.le_of_ble_eq_true rfl, Nat.le_of_ble_eq_true rfl, fun h => nomatch h⟩
theorem mp_25 : (parseMethodDescriptor ym_25.desc).map (fun d => d.parameters.length) = some 2 := by decide +kernel
theorem mi_25 : Cond.instanceMethod ym_25 ∈ im_g := im_gm (List.mem_of_getElem? (i := 633) (by decide +kernel)) (by decide +kernel)
theorem ms_25 : Cond.selects ym_25.cls ym_25 ym_25 ∈ im_g := im_gm (List.mem_of_getElem? (i := 15) (by decide +kernel)) (by decide +kernel)
def ym_26 : MethodName := ⟨"FencedModules$Follower", "copyCell", "(II)V"⟩
def fm_26 : im_F := (3, false, false, none, cm_26, 3)
set_option maxRecDepth 30000 in
theorem mf_26 : im_mf ym_26 3 fm_26 := ⟨by decide +kernel, im_gm (List.mem_of_getElem? (i := 638) rfl) rfl, im_gm (List.mem_of_getElem? (i := 47) (by decide +kernel)) (by decide +kernel), ⟨by decide +kernel, by decide +kernel⟩, rfl, Nat.le_of_ble_eq_true rfl, Nat.le_of_ble_eq_true rfl, fun h => nomatch h⟩
theorem mp_26 : (parseMethodDescriptor ym_26.desc).map (fun d => d.parameters.length) = some 2 := by decide +kernel
theorem mi_26 : Cond.instanceMethod ym_26 ∈ im_g := im_gm (List.mem_of_getElem? (i := 637) (by decide +kernel)) (by decide +kernel)
theorem ms_26 : Cond.selects ym_26.cls ym_26 ym_26 ∈ im_g := im_gm (List.mem_of_getElem? (i := 16) (by decide +kernel)) (by decide +kernel)
def ym_27 : MethodName := ⟨"FencedModules$Follower", "putInt", "(II)V"⟩
def fm_27 : im_F := (3, false, false, none, cm_27, 3)
set_option maxRecDepth 30000 in
theorem mf_27 : im_mf ym_27 3 fm_27 := ⟨by decide +kernel, im_gm (List.mem_of_getElem? (i := 649) rfl) rfl, im_gm (List.mem_of_getElem? (i := 47) (by decide +kernel)) (by decide +kernel), ⟨by decide +kernel, by decide +kernel⟩, rfl, Nat.le_of_ble_eq_true rfl, Nat.le_of_ble_eq_true rfl, fun h => nomatch h⟩
theorem mp_27 : (parseMethodDescriptor ym_27.desc).map (fun d => d.parameters.length) = some 2 := by decide +kernel
theorem mi_27 : Cond.instanceMethod ym_27 ∈ im_g := im_gm (List.mem_of_getElem? (i := 648) (by decide +kernel)) (by decide +kernel)
theorem ms_27 : Cond.selects ym_27.cls ym_27 ym_27 ∈ im_g := im_gm (List.mem_of_getElem? (i := 18) (by decide +kernel)) (by decide +kernel)
def ym_28 : MethodName := ⟨"FencedModules$Follower", "compute", "(IIII)V"⟩
def fm_28 : im_F := (3, false, false, none, cm_28, 5)
set_option maxRecDepth 30000 in
theorem mf_28 : im_mf ym_28 5 fm_28 := ⟨by decide +kernel, im_gm (List.mem_of_getElem? (i := 655) rfl) rfl, im_gm (List.mem_of_getElem? (i := 47) (by decide +kernel)) (by decide +kernel), ⟨by decide +kernel, by decide +kernel⟩, rfl, Nat.le_of_ble_eq_true rfl, Nat.le_of_ble_eq_true rfl, fun h => nomatch h⟩
theorem mp_28 : (parseMethodDescriptor ym_28.desc).map (fun d => d.parameters.length) = some 4 := by decide +kernel
theorem mi_28 : Cond.instanceMethod ym_28 ∈ im_g := im_gm (List.mem_of_getElem? (i := 654) (by decide +kernel)) (by decide +kernel)
theorem ms_28 : Cond.selects ym_28.cls ym_28 ym_28 ∈ im_g := im_gm (List.mem_of_getElem? (i := 19) (by decide +kernel)) (by decide +kernel)
def ym_29 : MethodName := ⟨"FencedModules$Follower", "answerCall", "(LFencedModules$Sandbox;I)I"⟩
def fm_29 : im_F := (3, false, false, some .int, cm_29, 3)
set_option maxRecDepth 30000 in
theorem mf_29 : im_mf ym_29 3 fm_29 := ⟨by decide +kernel, im_gm (List.mem_of_getElem? (i := 644) rfl) rfl, im_gm (List.mem_of_getElem? (i := 47) (by decide +kernel)) (by decide +kernel), ⟨by decide +kernel, by decide +kernel⟩, rfl, Nat.le_of_ble_eq_true rfl, Nat.le_of_ble_eq_true rfl, fun h => nomatch h⟩
theorem mp_29 : (parseMethodDescriptor ym_29.desc).map (fun d => d.parameters.length) = some 2 := by decide +kernel
theorem mi_29 : Cond.instanceMethod ym_29 ∈ im_g := im_gm (List.mem_of_getElem? (i := 643) (by decide +kernel)) (by decide +kernel)
theorem ms_29 : Cond.selects ym_29.cls ym_29 ym_29 ∈ im_g := im_gm (List.mem_of_getElem? (i := 17) (by decide +kernel)) (by decide +kernel)
def ym_30 : MethodName := ⟨"FencedModules$Machine", "<init>", "()V"⟩
def fm_30 : im_F := (4, true, true, none, cm_30, 2)
set_option maxRecDepth 30000 in
theorem mf_30 : im_mf ym_30 1 fm_30 := ⟨by decide +kernel, im_gm (List.mem_of_getElem? (i := 106) rfl) rfl, im_gm (List.mem_of_getElem? (i := 43) (by decide +kernel)) (by decide +kernel), ⟨by decide +kernel, by decide +kernel⟩, rfl, Nat.le_of_ble_eq_true rfl, Nat.le_of_ble_eq_true rfl, fun _ => rfl⟩
theorem mp_30 : (parseMethodDescriptor ym_30.desc).map (fun d => d.parameters.length) = some 0 := by decide +kernel
theorem mi_30 : Cond.instanceMethod ym_30 ∈ im_g := im_gm (List.mem_of_getElem? (i := 105) (by decide +kernel)) (by decide +kernel)
def ym_31 : MethodName := ⟨"FencedModules$Machine", "sandboxAt", "(I)LFencedModules$Sandbox;"⟩
def fm_31 : im_F := (4, false, false, some (.object "FencedModules$Sandbox"), cm_31, 2)
set_option maxRecDepth 30000 in
theorem mf_31 : im_mf ym_31 2 fm_31 := ⟨by decide +kernel, im_gm (List.mem_of_getElem? (i := 435) rfl) rfl, im_gm (List.mem_of_getElem? (i := 43) (by decide +kernel)) (by decide +kernel), ⟨by decide +kernel, by decide +kernel⟩, rfl, Nat.le_of_ble_eq_true rfl, Nat.le_of_ble_eq_true rfl, fun h => nomatch h⟩
theorem mp_31 : (parseMethodDescriptor ym_31.desc).map (fun d => d.parameters.length) = some 1 := by decide +kernel
theorem mi_31 : Cond.instanceMethod ym_31 ∈ im_g := im_gm (List.mem_of_getElem? (i := 433) (by decide +kernel)) (by decide +kernel)
theorem ms_31 : Cond.selects ym_31.cls ym_31 ym_31 ∈ im_g := im_gm (List.mem_of_getElem? (i := 434) (by decide +kernel)) (by decide +kernel)
def ym_32 : MethodName := ⟨"FencedModules$Machine", "read", "(I)I"⟩
def fm_32 : im_F := (4, false, false, some .int, cm_32, 2)
set_option maxRecDepth 30000 in
theorem mf_32 : im_mf ym_32 2 fm_32 := ⟨by decide +kernel, im_gm (List.mem_of_getElem? (i := 494) rfl) rfl, im_gm (List.mem_of_getElem? (i := 43) (by decide +kernel)) (by decide +kernel), ⟨by decide +kernel, by decide +kernel⟩, rfl, Nat.le_of_ble_eq_true rfl, Nat.le_of_ble_eq_true rfl, fun h => nomatch h⟩
theorem mp_32 : (parseMethodDescriptor ym_32.desc).map (fun d => d.parameters.length) = some 1 := by decide +kernel
theorem mi_32 : Cond.instanceMethod ym_32 ∈ im_g := im_gm (List.mem_of_getElem? (i := 492) (by decide +kernel)) (by decide +kernel)
theorem ms_32 : Cond.selects ym_32.cls ym_32 ym_32 ∈ im_g := im_gm (List.mem_of_getElem? (i := 493) (by decide +kernel)) (by decide +kernel)
def ym_33 : MethodName := ⟨"FencedModules$Machine", "write", "(II)V"⟩
def fm_33 : im_F := (4, false, false, none, cm_33, 3)
set_option maxRecDepth 30000 in
theorem mf_33 : im_mf ym_33 3 fm_33 := ⟨by decide +kernel, im_gm (List.mem_of_getElem? (i := 442) rfl) rfl, im_gm (List.mem_of_getElem? (i := 43) (by decide +kernel)) (by decide +kernel), ⟨by decide +kernel, by decide +kernel⟩, rfl, Nat.le_of_ble_eq_true rfl, Nat.le_of_ble_eq_true rfl, fun h => nomatch h⟩
theorem mp_33 : (parseMethodDescriptor ym_33.desc).map (fun d => d.parameters.length) = some 2 := by decide +kernel
theorem mi_33 : Cond.instanceMethod ym_33 ∈ im_g := im_gm (List.mem_of_getElem? (i := 441) (by decide +kernel)) (by decide +kernel)
theorem ms_33 : Cond.selects ym_33.cls ym_33 ym_33 ∈ im_g := im_gm (List.mem_of_getElem? (i := 2) (by decide +kernel)) (by decide +kernel)
def ym_34 : MethodName := ⟨"FencedModules$Machine", "install", "(LFencedModules$Code;I)V"⟩
def fm_34 : im_F := (4, false, false, none, cm_34, 5)
set_option maxRecDepth 30000 in
theorem mf_34 : im_mf ym_34 3 fm_34 := ⟨by decide +kernel, im_gm (List.mem_of_getElem? (i := 431) rfl) rfl, im_gm (List.mem_of_getElem? (i := 43) (by decide +kernel)) (by decide +kernel), ⟨by decide +kernel, by decide +kernel⟩, rfl, Nat.le_of_ble_eq_true rfl, Nat.le_of_ble_eq_true rfl, fun h => nomatch h⟩
theorem mp_34 : (parseMethodDescriptor ym_34.desc).map (fun d => d.parameters.length) = some 2 := by decide +kernel
theorem mi_34 : Cond.instanceMethod ym_34 ∈ im_g := im_gm (List.mem_of_getElem? (i := 429) (by decide +kernel)) (by decide +kernel)
theorem ms_34 : Cond.selects ym_34.cls ym_34 ym_34 ∈ im_g := im_gm (List.mem_of_getElem? (i := 430) (by decide +kernel)) (by decide +kernel)
def ym_35 : MethodName := ⟨"FencedModules$Machine", "advance", "(I)I"⟩
def fm_35 : im_F := (4, false, false, some .int, cm_35, 4)
set_option maxRecDepth 30000 in
theorem mf_35 : im_mf ym_35 2 fm_35 := ⟨by decide +kernel, im_gm (List.mem_of_getElem? (i := 475) rfl) rfl, im_gm (List.mem_of_getElem? (i := 43) (by decide +kernel)) (by decide +kernel), ⟨by decide +kernel, by decide +kernel⟩, rfl, Nat.le_of_ble_eq_true rfl, Nat.le_of_ble_eq_true rfl, fun h => nomatch h⟩
theorem mp_35 : (parseMethodDescriptor ym_35.desc).map (fun d => d.parameters.length) = some 1 := by decide +kernel
theorem mi_35 : Cond.instanceMethod ym_35 ∈ im_g := im_gm (List.mem_of_getElem? (i := 473) (by decide +kernel)) (by decide +kernel)
theorem ms_35 : Cond.selects ym_35.cls ym_35 ym_35 ∈ im_g := im_gm (List.mem_of_getElem? (i := 474) (by decide +kernel)) (by decide +kernel)
def ym_36 : MethodName := ⟨"FencedModules$Machine", "nextToStep", "()LFencedModules$Sandbox;"⟩
def fm_36 : im_F := (4, false, false, some (.object "FencedModules$Sandbox"), cm_36, 4)
set_option maxRecDepth 30000 in
theorem mf_36 : im_mf ym_36 1 fm_36 := ⟨by decide +kernel, im_gm (List.mem_of_getElem? (i := 479) rfl) rfl, im_gm (List.mem_of_getElem? (i := 43) (by decide +kernel)) (by decide +kernel), ⟨by decide +kernel, by decide +kernel⟩, rfl, Nat.le_of_ble_eq_true rfl, Nat.le_of_ble_eq_true rfl, fun h => nomatch h⟩
theorem mp_36 : (parseMethodDescriptor ym_36.desc).map (fun d => d.parameters.length) = some 0 := by decide +kernel
theorem mi_36 : Cond.instanceMethod ym_36 ∈ im_g := im_gm (List.mem_of_getElem? (i := 478) (by decide +kernel)) (by decide +kernel)
theorem ms_36 : Cond.selects ym_36.cls ym_36 ym_36 ∈ im_g := im_gm (List.mem_of_getElem? (i := 3) (by decide +kernel)) (by decide +kernel)
def ym_37 : MethodName := ⟨"FencedModules$Machine", "countStep", "(LFencedModules$Sandbox;)V"⟩
def fm_37 : im_F := (4, false, false, none, cm_37, 2)
set_option maxRecDepth 30000 in
theorem mf_37 : im_mf ym_37 2 fm_37 := ⟨by decide +kernel, im_gm (List.mem_of_getElem? (i := 558) rfl) rfl, im_gm (List.mem_of_getElem? (i := 43) (by decide +kernel)) (by decide +kernel), ⟨by decide +kernel, by decide +kernel⟩, rfl, Nat.le_of_ble_eq_true rfl, Nat.le_of_ble_eq_true rfl, fun h => nomatch h⟩
theorem mp_37 : (parseMethodDescriptor ym_37.desc).map (fun d => d.parameters.length) = some 1 := by decide +kernel
theorem mi_37 : Cond.instanceMethod ym_37 ∈ im_g := im_gm (List.mem_of_getElem? (i := 557) (by decide +kernel)) (by decide +kernel)
theorem ms_37 : Cond.selects ym_37.cls ym_37 ym_37 ∈ im_g := im_gm (List.mem_of_getElem? (i := 9) (by decide +kernel)) (by decide +kernel)
def ym_38 : MethodName := ⟨"FencedModules$Machine", "giveTurn", "(I)V"⟩
def fm_38 : im_F := (4, false, false, none, cm_38, 2)
set_option maxRecDepth 30000 in
theorem mf_38 : im_mf ym_38 2 fm_38 := ⟨by decide +kernel, im_gm (List.mem_of_getElem? (i := 483) rfl) rfl, im_gm (List.mem_of_getElem? (i := 43) (by decide +kernel)) (by decide +kernel), ⟨by decide +kernel, by decide +kernel⟩, rfl, Nat.le_of_ble_eq_true rfl, Nat.le_of_ble_eq_true rfl, fun h => nomatch h⟩
theorem mp_38 : (parseMethodDescriptor ym_38.desc).map (fun d => d.parameters.length) = some 1 := by decide +kernel
theorem mi_38 : Cond.instanceMethod ym_38 ∈ im_g := im_gm (List.mem_of_getElem? (i := 482) (by decide +kernel)) (by decide +kernel)
theorem ms_38 : Cond.selects ym_38.cls ym_38 ym_38 ∈ im_g := im_gm (List.mem_of_getElem? (i := 4) (by decide +kernel)) (by decide +kernel)
def ym_39 : MethodName := ⟨"FencedModules$Machine", "behind", "(I)I"⟩
def fm_39 : im_F := (4, false, false, some .int, cm_39, 1)
set_option maxRecDepth 30000 in
theorem mf_39 : im_mf ym_39 1 fm_39 := ⟨by decide +kernel, im_gm (List.mem_of_getElem? (i := 486) rfl) rfl, im_gm (List.mem_of_getElem? (i := 43) (by decide +kernel)) (by decide +kernel), ⟨by decide +kernel, by decide +kernel⟩, rfl, Nat.le_of_ble_eq_true rfl, Nat.le_of_ble_eq_true rfl, fun h => nomatch h⟩
theorem mp_39 : (parseMethodDescriptor ym_39.desc).map (fun d => d.parameters.length) = some 1 := by decide +kernel
theorem mi_39 : Cond.static ym_39 ∈ im_g := im_gm (List.mem_of_getElem? (i := 485) (by decide +kernel)) (by decide +kernel)
def ym_40 : MethodName := ⟨"FencedModules$Machine", "execute", "(LFencedModules$Sandbox;)V"⟩
def fm_40 : im_F := (4, false, false, none, cm_40, 9)
set_option maxRecDepth 30000 in
theorem mf_40 : im_mf ym_40 2 fm_40 := ⟨by decide +kernel, im_gm (List.mem_of_getElem? (i := 490) rfl) rfl, im_gm (List.mem_of_getElem? (i := 43) (by decide +kernel)) (by decide +kernel), ⟨by decide +kernel, by decide +kernel⟩, rfl, Nat.le_of_ble_eq_true rfl, Nat.le_of_ble_eq_true rfl, fun h => nomatch h⟩
theorem mp_40 : (parseMethodDescriptor ym_40.desc).map (fun d => d.parameters.length) = some 1 := by decide +kernel
theorem mi_40 : Cond.instanceMethod ym_40 ∈ im_g := im_gm (List.mem_of_getElem? (i := 489) (by decide +kernel)) (by decide +kernel)
theorem ms_40 : Cond.selects ym_40.cls ym_40 ym_40 ∈ im_g := im_gm (List.mem_of_getElem? (i := 5) (by decide +kernel)) (by decide +kernel)
def ym_41 : MethodName := ⟨"FencedModules$Machine", "answerCall", "(LFencedModules$Sandbox;II)V"⟩
def fm_41 : im_F := (4, false, false, none, cm_41, 5)
set_option maxRecDepth 30000 in
theorem mf_41 : im_mf ym_41 4 fm_41 := ⟨by decide +kernel, im_gm (List.mem_of_getElem? (i := 505) rfl) rfl, im_gm (List.mem_of_getElem? (i := 43) (by decide +kernel)) (by decide +kernel), ⟨by decide +kernel, by decide +kernel⟩, rfl, Nat.le_of_ble_eq_true rfl, Nat.le_of_ble_eq_true rfl, fun h => nomatch h⟩
theorem mp_41 : (parseMethodDescriptor ym_41.desc).map (fun d => d.parameters.length) = some 3 := by decide +kernel
theorem mi_41 : Cond.instanceMethod ym_41 ∈ im_g := im_gm (List.mem_of_getElem? (i := 504) (by decide +kernel)) (by decide +kernel)
theorem ms_41 : Cond.selects ym_41.cls ym_41 ym_41 ∈ im_g := im_gm (List.mem_of_getElem? (i := 6) (by decide +kernel)) (by decide +kernel)
def ym_42 : MethodName := ⟨"FencedModules$Machine", "print", "(LFencedModules$Sandbox;II)I"⟩
def fm_42 : im_F := (4, false, false, some .int, cm_42, 5)
set_option maxRecDepth 30000 in
theorem mf_42 : im_mf ym_42 4 fm_42 := ⟨by decide +kernel, im_gm (List.mem_of_getElem? (i := 536) rfl) rfl, im_gm (List.mem_of_getElem? (i := 43) (by decide +kernel)) (by decide +kernel), ⟨by decide +kernel, by decide +kernel⟩, rfl, Nat.le_of_ble_eq_true rfl, Nat.le_of_ble_eq_true rfl, fun h => nomatch h⟩
theorem mp_42 : (parseMethodDescriptor ym_42.desc).map (fun d => d.parameters.length) = some 3 := by decide +kernel
theorem mi_42 : Cond.instanceMethod ym_42 ∈ im_g := im_gm (List.mem_of_getElem? (i := 535) (by decide +kernel)) (by decide +kernel)
theorem ms_42 : Cond.selects ym_42.cls ym_42 ym_42 ∈ im_g := im_gm (List.mem_of_getElem? (i := 7) (by decide +kernel)) (by decide +kernel)
def ym_43 : MethodName := ⟨"FencedModules$Machine", "send", "(II)I"⟩
def fm_43 : im_F := (4, false, false, some .int, cm_43, 4)
set_option maxRecDepth 30000 in
theorem mf_43 : im_mf ym_43 3 fm_43 := ⟨by decide +kernel, im_gm (List.mem_of_getElem? (i := 543) rfl) rfl, im_gm (List.mem_of_getElem? (i := 43) (by decide +kernel)) (by decide +kernel), ⟨by decide +kernel, by decide +kernel⟩, rfl, Nat.le_of_ble_eq_true rfl, Nat.le_of_ble_eq_true rfl, fun h => nomatch h⟩
theorem mp_43 : (parseMethodDescriptor ym_43.desc).map (fun d => d.parameters.length) = some 2 := by decide +kernel
theorem mi_43 : Cond.instanceMethod ym_43 ∈ im_g := im_gm (List.mem_of_getElem? (i := 542) (by decide +kernel)) (by decide +kernel)
theorem ms_43 : Cond.selects ym_43.cls ym_43 ym_43 ∈ im_g := im_gm (List.mem_of_getElem? (i := 8) (by decide +kernel)) (by decide +kernel)
def ym_44 : MethodName := ⟨"FencedModules$Sandbox", "<init>", "(I)V"⟩
def fm_44 : im_F := (5, true, true, none, cm_44, 2)
set_option maxRecDepth 30000 in
theorem mf_44 : im_mf ym_44 2 fm_44 := ⟨by decide +kernel, im_gm (List.mem_of_getElem? (i := 113) rfl) rfl, im_gm (List.mem_of_getElem? (i := 44) (by decide +kernel)) (by decide +kernel), ⟨by decide +kernel, by decide +kernel⟩, rfl, Nat.le_of_ble_eq_true rfl, Nat.le_of_ble_eq_true rfl, fun _ => rfl⟩
theorem mp_44 : (parseMethodDescriptor ym_44.desc).map (fun d => d.parameters.length) = some 1 := by decide +kernel
theorem mi_44 : Cond.instanceMethod ym_44 ∈ im_g := im_gm (List.mem_of_getElem? (i := 112) (by decide +kernel)) (by decide +kernel)
def ym_45 : MethodName := ⟨"FencedModules$Sandbox", "exists", "(I)Z"⟩
def fm_45 : im_F := (5, false, false, some .boolean, cm_45, 1)
set_option maxRecDepth 30000 in
theorem mf_45 : im_mf ym_45 1 fm_45 := ⟨by decide +kernel, im_gm (List.mem_of_getElem? (i := 280) rfl) rfl, im_gm (List.mem_of_getElem? (i := 44) (by decide +kernel)) (by decide +kernel), ⟨by decide +kernel, by decide +kernel⟩, rfl, Nat.le_of_ble_eq_true rfl, Nat.le_of_ble_eq_true rfl, fun h => nomatch h⟩
theorem mp_45 : (parseMethodDescriptor ym_45.desc).map (fun d => d.parameters.length) = some 1 := by decide +kernel
theorem mi_45 : Cond.static ym_45 ∈ im_g := im_gm (List.mem_of_getElem? (i := 279) (by decide +kernel)) (by decide +kernel)
def ym_46 : MethodName := ⟨"FencedModules$Sandbox", "dataStart", "(I)I"⟩
def fm_46 : im_F := (5, false, false, some .int, cm_46, 1)
set_option maxRecDepth 30000 in
theorem mf_46 : im_mf ym_46 1 fm_46 := ⟨by decide +kernel, im_gm (List.mem_of_getElem? (i := 351) rfl) rfl, im_gm (List.mem_of_getElem? (i := 44) (by decide +kernel)) (by decide +kernel), ⟨by decide +kernel, by decide +kernel⟩, rfl, Nat.le_of_ble_eq_true rfl, Nat.le_of_ble_eq_true rfl, fun h => nomatch h⟩
theorem mp_46 : (parseMethodDescriptor ym_46.desc).map (fun d => d.parameters.length) = some 1 := by decide +kernel
theorem mi_46 : Cond.static ym_46 ∈ im_g := im_gm (List.mem_of_getElem? (i := 350) (by decide +kernel)) (by decide +kernel)
def ym_47 : MethodName := ⟨"FencedModules$Sandbox", "codeStart", "(I)I"⟩
def fm_47 : im_F := (5, false, false, some .int, cm_47, 1)
set_option maxRecDepth 30000 in
theorem mf_47 : im_mf ym_47 1 fm_47 := ⟨by decide +kernel, im_gm (List.mem_of_getElem? (i := 357) rfl) rfl, im_gm (List.mem_of_getElem? (i := 44) (by decide +kernel)) (by decide +kernel), ⟨by decide +kernel, by decide +kernel⟩, rfl, Nat.le_of_ble_eq_true rfl, Nat.le_of_ble_eq_true rfl, fun h => nomatch h⟩
theorem mp_47 : (parseMethodDescriptor ym_47.desc).map (fun d => d.parameters.length) = some 1 := by decide +kernel
theorem mi_47 : Cond.static ym_47 ∈ im_g := im_gm (List.mem_of_getElem? (i := 356) (by decide +kernel)) (by decide +kernel)
def ym_48 : MethodName := ⟨"FencedModules$Sandbox", "start", "()V"⟩
def fm_48 : im_F := (5, false, false, none, cm_48, 1)
set_option maxRecDepth 30000 in
theorem mf_48 : im_mf ym_48 1 fm_48 := ⟨by decide +kernel, im_gm (List.mem_of_getElem? (i := 447) rfl) rfl, im_gm (List.mem_of_getElem? (i := 44) (by decide +kernel)) (by decide +kernel), ⟨by decide +kernel, by decide +kernel⟩, rfl, Nat.le_of_ble_eq_true rfl, Nat.le_of_ble_eq_true rfl, fun h => nomatch h⟩
theorem mp_48 : (parseMethodDescriptor ym_48.desc).map (fun d => d.parameters.length) = some 0 := by decide +kernel
theorem mi_48 : Cond.instanceMethod ym_48 ∈ im_g := im_gm (List.mem_of_getElem? (i := 445) (by decide +kernel)) (by decide +kernel)
theorem ms_48 : Cond.selects ym_48.cls ym_48 ym_48 ∈ im_g := im_gm (List.mem_of_getElem? (i := 446) (by decide +kernel)) (by decide +kernel)
def ym_49 : MethodName := ⟨"FencedModules$Sandbox", "stop", "(II)V"⟩
def fm_49 : im_F := (5, false, false, none, cm_49, 3)
set_option maxRecDepth 30000 in
theorem mf_49 : im_mf ym_49 3 fm_49 := ⟨by decide +kernel, im_gm (List.mem_of_getElem? (i := 520) rfl) rfl, im_gm (List.mem_of_getElem? (i := 44) (by decide +kernel)) (by decide +kernel), ⟨by decide +kernel, by decide +kernel⟩, rfl, Nat.le_of_ble_eq_true rfl, Nat.le_of_ble_eq_true rfl, fun h => nomatch h⟩
theorem mp_49 : (parseMethodDescriptor ym_49.desc).map (fun d => d.parameters.length) = some 2 := by decide +kernel
theorem mi_49 : Cond.instanceMethod ym_49 ∈ im_g := im_gm (List.mem_of_getElem? (i := 518) (by decide +kernel)) (by decide +kernel)
theorem ms_49 : Cond.selects ym_49.cls ym_49 ym_49 ∈ im_g := im_gm (List.mem_of_getElem? (i := 519) (by decide +kernel)) (by decide +kernel)
def ym_50 : MethodName := ⟨"FencedModules$Sandbox", "addInput", "(I)Z"⟩
def fm_50 : im_F := (5, false, false, some .boolean, cm_50, 2)
set_option maxRecDepth 30000 in
theorem mf_50 : im_mf ym_50 2 fm_50 := ⟨by decide +kernel, im_gm (List.mem_of_getElem? (i := 467) rfl) rfl, im_gm (List.mem_of_getElem? (i := 44) (by decide +kernel)) (by decide +kernel), ⟨by decide +kernel, by decide +kernel⟩, rfl, Nat.le_of_ble_eq_true rfl, Nat.le_of_ble_eq_true rfl, fun h => nomatch h⟩
theorem mp_50 : (parseMethodDescriptor ym_50.desc).map (fun d => d.parameters.length) = some 1 := by decide +kernel
theorem mi_50 : Cond.instanceMethod ym_50 ∈ im_g := im_gm (List.mem_of_getElem? (i := 465) (by decide +kernel)) (by decide +kernel)
theorem ms_50 : Cond.selects ym_50.cls ym_50 ym_50 ∈ im_g := im_gm (List.mem_of_getElem? (i := 466) (by decide +kernel)) (by decide +kernel)
def ym_51 : MethodName := ⟨"FencedModules$Sandbox", "addMail", "(I)Z"⟩
def fm_51 : im_F := (5, false, false, some .boolean, cm_51, 2)
set_option maxRecDepth 30000 in
theorem mf_51 : im_mf ym_51 2 fm_51 := ⟨by decide +kernel, im_gm (List.mem_of_getElem? (i := 547) rfl) rfl, im_gm (List.mem_of_getElem? (i := 44) (by decide +kernel)) (by decide +kernel), ⟨by decide +kernel, by decide +kernel⟩, rfl, Nat.le_of_ble_eq_true rfl, Nat.le_of_ble_eq_true rfl, fun h => nomatch h⟩
theorem mp_51 : (parseMethodDescriptor ym_51.desc).map (fun d => d.parameters.length) = some 1 := by decide +kernel
theorem mi_51 : Cond.instanceMethod ym_51 ∈ im_g := im_gm (List.mem_of_getElem? (i := 545) (by decide +kernel)) (by decide +kernel)
theorem ms_51 : Cond.selects ym_51.cls ym_51 ym_51 ∈ im_g := im_gm (List.mem_of_getElem? (i := 546) (by decide +kernel)) (by decide +kernel)
def ym_52 : MethodName := ⟨"FencedModules$Sandbox", "takeMail", "()I"⟩
def fm_52 : im_F := (5, false, false, some .int, cm_52, 3)
set_option maxRecDepth 30000 in
theorem mf_52 : im_mf ym_52 1 fm_52 := ⟨by decide +kernel, im_gm (List.mem_of_getElem? (i := 551) rfl) rfl, im_gm (List.mem_of_getElem? (i := 44) (by decide +kernel)) (by decide +kernel), ⟨by decide +kernel, by decide +kernel⟩, rfl, Nat.le_of_ble_eq_true rfl, Nat.le_of_ble_eq_true rfl, fun h => nomatch h⟩
theorem mp_52 : (parseMethodDescriptor ym_52.desc).map (fun d => d.parameters.length) = some 0 := by decide +kernel
theorem mi_52 : Cond.instanceMethod ym_52 ∈ im_g := im_gm (List.mem_of_getElem? (i := 549) (by decide +kernel)) (by decide +kernel)
theorem ms_52 : Cond.selects ym_52.cls ym_52 ym_52 ∈ im_g := im_gm (List.mem_of_getElem? (i := 550) (by decide +kernel)) (by decide +kernel)
def ym_53 : MethodName := ⟨"FencedModules$Sandbox", "putOut", "(I)V"⟩
def fm_53 : im_F := (5, false, false, none, cm_53, 2)
set_option maxRecDepth 30000 in
theorem mf_53 : im_mf ym_53 2 fm_53 := ⟨by decide +kernel, im_gm (List.mem_of_getElem? (i := 524) rfl) rfl, im_gm (List.mem_of_getElem? (i := 44) (by decide +kernel)) (by decide +kernel), ⟨by decide +kernel, by decide +kernel⟩, rfl, Nat.le_of_ble_eq_true rfl, Nat.le_of_ble_eq_true rfl, fun h => nomatch h⟩
theorem mp_53 : (parseMethodDescriptor ym_53.desc).map (fun d => d.parameters.length) = some 1 := by decide +kernel
theorem mi_53 : Cond.instanceMethod ym_53 ∈ im_g := im_gm (List.mem_of_getElem? (i := 522) (by decide +kernel)) (by decide +kernel)
theorem ms_53 : Cond.selects ym_53.cls ym_53 ym_53 ∈ im_g := im_gm (List.mem_of_getElem? (i := 523) (by decide +kernel)) (by decide +kernel)
def ym_54 : MethodName := ⟨"FencedModules$Sandbox", "tellOutput", "(I)I"⟩
def fm_54 : im_F := (5, false, false, some .int, cm_54, 2)
set_option maxRecDepth 30000 in
theorem mf_54 : im_mf ym_54 2 fm_54 := ⟨by decide +kernel, im_gm (List.mem_of_getElem? (i := 583) rfl) rfl, im_gm (List.mem_of_getElem? (i := 44) (by decide +kernel)) (by decide +kernel), ⟨by decide +kernel, by decide +kernel⟩, rfl, Nat.le_of_ble_eq_true rfl, Nat.le_of_ble_eq_true rfl, fun h => nomatch h⟩
theorem mp_54 : (parseMethodDescriptor ym_54.desc).map (fun d => d.parameters.length) = some 1 := by decide +kernel
theorem mi_54 : Cond.instanceMethod ym_54 ∈ im_g := im_gm (List.mem_of_getElem? (i := 581) (by decide +kernel)) (by decide +kernel)
theorem ms_54 : Cond.selects ym_54.cls ym_54 ym_54 ∈ im_g := im_gm (List.mem_of_getElem? (i := 582) (by decide +kernel)) (by decide +kernel)
def ym_55 : MethodName := ⟨"FencedModules$Source", "<init>", "()V"⟩
def fm_55 : im_F := (6, true, true, none, cm_55, 1)
set_option maxRecDepth 30000 in
theorem mf_55 : im_mf ym_55 1 fm_55 := ⟨by decide +kernel, im_gm (List.mem_of_getElem? (i := 64) rfl) rfl, im_gm (List.mem_of_getElem? (i := 40) (by decide +kernel)) (by decide +kernel), ⟨by decide +kernel, by decide +kernel⟩, rfl, Nat.le_of_ble_eq_true rfl, Nat.le_of_ble_eq_true rfl, fun _ => rfl⟩
theorem mp_55 : (parseMethodDescriptor ym_55.desc).map (fun d => d.parameters.length) = some 0 := by decide +kernel
theorem mi_55 : Cond.instanceMethod ym_55 ∈ im_g := im_gm (List.mem_of_getElem? (i := 63) (by decide +kernel)) (by decide +kernel)
def ym_56 : MethodName := ⟨"FencedModules$Source", "empty", "()V"⟩
def fm_56 : im_F := (6, false, false, none, cm_56, 1)
set_option maxRecDepth 30000 in
theorem mf_56 : im_mf ym_56 1 fm_56 := ⟨by decide +kernel, im_gm (List.mem_of_getElem? (i := 269) rfl) rfl, im_gm (List.mem_of_getElem? (i := 40) (by decide +kernel)) (by decide +kernel), ⟨by decide +kernel, by decide +kernel⟩, rfl, Nat.le_of_ble_eq_true rfl, Nat.le_of_ble_eq_true rfl, fun h => nomatch h⟩
theorem mp_56 : (parseMethodDescriptor ym_56.desc).map (fun d => d.parameters.length) = some 0 := by decide +kernel
theorem mi_56 : Cond.instanceMethod ym_56 ∈ im_g := im_gm (List.mem_of_getElem? (i := 267) (by decide +kernel)) (by decide +kernel)
theorem ms_56 : Cond.selects ym_56.cls ym_56 ym_56 ∈ im_g := im_gm (List.mem_of_getElem? (i := 268) (by decide +kernel)) (by decide +kernel)
def ym_57 : MethodName := ⟨"FencedModules$Source", "addLine", "(IIII)Z"⟩
def fm_57 : im_F := (6, false, false, some .boolean, cm_57, 5)
set_option maxRecDepth 30000 in
theorem mf_57 : im_mf ym_57 5 fm_57 := ⟨by decide +kernel, im_gm (List.mem_of_getElem? (i := 251) rfl) rfl, im_gm (List.mem_of_getElem? (i := 40) (by decide +kernel)) (by decide +kernel), ⟨by decide +kernel, by decide +kernel⟩, rfl, Nat.le_of_ble_eq_true rfl, Nat.le_of_ble_eq_true rfl, fun h => nomatch h⟩
theorem mp_57 : (parseMethodDescriptor ym_57.desc).map (fun d => d.parameters.length) = some 4 := by decide +kernel
theorem mi_57 : Cond.instanceMethod ym_57 ∈ im_g := im_gm (List.mem_of_getElem? (i := 249) (by decide +kernel)) (by decide +kernel)
theorem ms_57 : Cond.selects ym_57.cls ym_57 ym_57 ∈ im_g := im_gm (List.mem_of_getElem? (i := 250) (by decide +kernel)) (by decide +kernel)
def ym_58 : MethodName := ⟨"FencedModules$Source", "setLabel", "(I)Z"⟩
def fm_58 : im_F := (6, false, false, some .boolean, cm_58, 2)
set_option maxRecDepth 30000 in
theorem mf_58 : im_mf ym_58 2 fm_58 := ⟨by decide +kernel, im_gm (List.mem_of_getElem? (i := 261) rfl) rfl, im_gm (List.mem_of_getElem? (i := 40) (by decide +kernel)) (by decide +kernel), ⟨by decide +kernel, by decide +kernel⟩, rfl, Nat.le_of_ble_eq_true rfl, Nat.le_of_ble_eq_true rfl, fun h => nomatch h⟩
theorem mp_58 : (parseMethodDescriptor ym_58.desc).map (fun d => d.parameters.length) = some 1 := by decide +kernel
theorem mi_58 : Cond.instanceMethod ym_58 ∈ im_g := im_gm (List.mem_of_getElem? (i := 259) (by decide +kernel)) (by decide +kernel)
theorem ms_58 : Cond.selects ym_58.cls ym_58 ym_58 ∈ im_g := im_gm (List.mem_of_getElem? (i := 260) (by decide +kernel)) (by decide +kernel)
def ym_59 : MethodName := ⟨"FencedModules$Source", "count", "()I"⟩
def fm_59 : im_F := (6, false, false, some .int, cm_59, 1)
set_option maxRecDepth 30000 in
theorem mf_59 : im_mf ym_59 1 fm_59 := ⟨by decide +kernel, im_gm (List.mem_of_getElem? (i := 334) rfl) rfl, im_gm (List.mem_of_getElem? (i := 40) (by decide +kernel)) (by decide +kernel), ⟨by decide +kernel, by decide +kernel⟩, rfl, Nat.le_of_ble_eq_true rfl, Nat.le_of_ble_eq_true rfl, fun h => nomatch h⟩
theorem mp_59 : (parseMethodDescriptor ym_59.desc).map (fun d => d.parameters.length) = some 0 := by decide +kernel
theorem mi_59 : Cond.instanceMethod ym_59 ∈ im_g := im_gm (List.mem_of_getElem? (i := 332) (by decide +kernel)) (by decide +kernel)
theorem ms_59 : Cond.selects ym_59.cls ym_59 ym_59 ∈ im_g := im_gm (List.mem_of_getElem? (i := 333) (by decide +kernel)) (by decide +kernel)
def ym_60 : MethodName := ⟨"FencedModules$Source", "hasLine", "(I)Z"⟩
def fm_60 : im_F := (6, false, false, some .boolean, cm_60, 2)
set_option maxRecDepth 30000 in
theorem mf_60 : im_mf ym_60 2 fm_60 := ⟨by decide +kernel, im_gm (List.mem_of_getElem? (i := 296) rfl) rfl, im_gm (List.mem_of_getElem? (i := 40) (by decide +kernel)) (by decide +kernel), ⟨by decide +kernel, by decide +kernel⟩, rfl, Nat.le_of_ble_eq_true rfl, Nat.le_of_ble_eq_true rfl, fun h => nomatch h⟩
theorem mp_60 : (parseMethodDescriptor ym_60.desc).map (fun d => d.parameters.length) = some 1 := by decide +kernel
theorem mi_60 : Cond.instanceMethod ym_60 ∈ im_g := im_gm (List.mem_of_getElem? (i := 294) (by decide +kernel)) (by decide +kernel)
theorem ms_60 : Cond.selects ym_60.cls ym_60 ym_60 ∈ im_g := im_gm (List.mem_of_getElem? (i := 295) (by decide +kernel)) (by decide +kernel)
def ym_61 : MethodName := ⟨"FencedModules$Source", "opAt", "(I)I"⟩
def fm_61 : im_F := (6, false, false, some .int, cm_61, 2)
set_option maxRecDepth 30000 in
theorem mf_61 : im_mf ym_61 2 fm_61 := ⟨by decide +kernel, im_gm (List.mem_of_getElem? (i := 292) rfl) rfl, im_gm (List.mem_of_getElem? (i := 40) (by decide +kernel)) (by decide +kernel), ⟨by decide +kernel, by decide +kernel⟩, rfl, Nat.le_of_ble_eq_true rfl, Nat.le_of_ble_eq_true rfl, fun h => nomatch h⟩
theorem mp_61 : (parseMethodDescriptor ym_61.desc).map (fun d => d.parameters.length) = some 1 := by decide +kernel
theorem mi_61 : Cond.instanceMethod ym_61 ∈ im_g := im_gm (List.mem_of_getElem? (i := 290) (by decide +kernel)) (by decide +kernel)
theorem ms_61 : Cond.selects ym_61.cls ym_61 ym_61 ∈ im_g := im_gm (List.mem_of_getElem? (i := 291) (by decide +kernel)) (by decide +kernel)
def ym_62 : MethodName := ⟨"FencedModules$Source", "aAt", "(I)I"⟩
def fm_62 : im_F := (6, false, false, some .int, cm_62, 2)
set_option maxRecDepth 30000 in
theorem mf_62 : im_mf ym_62 2 fm_62 := ⟨by decide +kernel, im_gm (List.mem_of_getElem? (i := 300) rfl) rfl, im_gm (List.mem_of_getElem? (i := 40) (by decide +kernel)) (by decide +kernel), ⟨by decide +kernel, by decide +kernel⟩, rfl, Nat.le_of_ble_eq_true rfl, Nat.le_of_ble_eq_true rfl, fun h => nomatch h⟩
theorem mp_62 : (parseMethodDescriptor ym_62.desc).map (fun d => d.parameters.length) = some 1 := by decide +kernel
theorem mi_62 : Cond.instanceMethod ym_62 ∈ im_g := im_gm (List.mem_of_getElem? (i := 298) (by decide +kernel)) (by decide +kernel)
theorem ms_62 : Cond.selects ym_62.cls ym_62 ym_62 ∈ im_g := im_gm (List.mem_of_getElem? (i := 299) (by decide +kernel)) (by decide +kernel)
def ym_63 : MethodName := ⟨"FencedModules$Source", "bAt", "(I)I"⟩
def fm_63 : im_F := (6, false, false, some .int, cm_63, 2)
set_option maxRecDepth 30000 in
theorem mf_63 : im_mf ym_63 2 fm_63 := ⟨by decide +kernel, im_gm (List.mem_of_getElem? (i := 304) rfl) rfl, im_gm (List.mem_of_getElem? (i := 40) (by decide +kernel)) (by decide +kernel), ⟨by decide +kernel, by decide +kernel⟩, rfl, Nat.le_of_ble_eq_true rfl, Nat.le_of_ble_eq_true rfl, fun h => nomatch h⟩
theorem mp_63 : (parseMethodDescriptor ym_63.desc).map (fun d => d.parameters.length) = some 1 := by decide +kernel
theorem mi_63 : Cond.instanceMethod ym_63 ∈ im_g := im_gm (List.mem_of_getElem? (i := 302) (by decide +kernel)) (by decide +kernel)
theorem ms_63 : Cond.selects ym_63.cls ym_63 ym_63 ∈ im_g := im_gm (List.mem_of_getElem? (i := 303) (by decide +kernel)) (by decide +kernel)
def ym_64 : MethodName := ⟨"FencedModules$Source", "iAt", "(I)I"⟩
def fm_64 : im_F := (6, false, false, some .int, cm_64, 2)
set_option maxRecDepth 30000 in
theorem mf_64 : im_mf ym_64 2 fm_64 := ⟨by decide +kernel, im_gm (List.mem_of_getElem? (i := 312) rfl) rfl, im_gm (List.mem_of_getElem? (i := 40) (by decide +kernel)) (by decide +kernel), ⟨by decide +kernel, by decide +kernel⟩, rfl, Nat.le_of_ble_eq_true rfl, Nat.le_of_ble_eq_true rfl, fun h => nomatch h⟩
theorem mp_64 : (parseMethodDescriptor ym_64.desc).map (fun d => d.parameters.length) = some 1 := by decide +kernel
theorem mi_64 : Cond.instanceMethod ym_64 ∈ im_g := im_gm (List.mem_of_getElem? (i := 310) (by decide +kernel)) (by decide +kernel)
theorem ms_64 : Cond.selects ym_64.cls ym_64 ym_64 ∈ im_g := im_gm (List.mem_of_getElem? (i := 311) (by decide +kernel)) (by decide +kernel)
def ym_65 : MethodName := ⟨"FencedModules$Source", "isLabelSet", "(I)Z"⟩
def fm_65 : im_F := (6, false, false, some .boolean, cm_65, 2)
set_option maxRecDepth 30000 in
theorem mf_65 : im_mf ym_65 2 fm_65 := ⟨by decide +kernel, im_gm (List.mem_of_getElem? (i := 316) rfl) rfl, im_gm (List.mem_of_getElem? (i := 40) (by decide +kernel)) (by decide +kernel), ⟨by decide +kernel, by decide +kernel⟩, rfl, Nat.le_of_ble_eq_true rfl, Nat.le_of_ble_eq_true rfl, fun h => nomatch h⟩
theorem mp_65 : (parseMethodDescriptor ym_65.desc).map (fun d => d.parameters.length) = some 1 := by decide +kernel
theorem mi_65 : Cond.instanceMethod ym_65 ∈ im_g := im_gm (List.mem_of_getElem? (i := 314) (by decide +kernel)) (by decide +kernel)
theorem ms_65 : Cond.selects ym_65.cls ym_65 ym_65 ∈ im_g := im_gm (List.mem_of_getElem? (i := 315) (by decide +kernel)) (by decide +kernel)
def ym_66 : MethodName := ⟨"FencedModules$Source", "placeOf", "(I)I"⟩
def fm_66 : im_F := (6, false, false, some .int, cm_66, 2)
set_option maxRecDepth 30000 in
theorem mf_66 : im_mf ym_66 2 fm_66 := ⟨by decide +kernel, im_gm (List.mem_of_getElem? (i := 364) rfl) rfl, im_gm (List.mem_of_getElem? (i := 40) (by decide +kernel)) (by decide +kernel), ⟨by decide +kernel, by decide +kernel⟩, rfl, Nat.le_of_ble_eq_true rfl, Nat.le_of_ble_eq_true rfl, fun h => nomatch h⟩
theorem mp_66 : (parseMethodDescriptor ym_66.desc).map (fun d => d.parameters.length) = some 1 := by decide +kernel
theorem mi_66 : Cond.instanceMethod ym_66 ∈ im_g := im_gm (List.mem_of_getElem? (i := 362) (by decide +kernel)) (by decide +kernel)
theorem ms_66 : Cond.selects ym_66.cls ym_66 ym_66 ∈ im_g := im_gm (List.mem_of_getElem? (i := 363) (by decide +kernel)) (by decide +kernel)
def ym_67 : MethodName := ⟨"FencedModules$Source", "canBeRewritten", "()Z"⟩
def fm_67 : im_F := (6, false, false, some .boolean, cm_67, 2)
set_option maxRecDepth 30000 in
theorem mf_67 : im_mf ym_67 1 fm_67 := ⟨by decide +kernel, im_gm (List.mem_of_getElem? (i := 284) rfl) rfl, im_gm (List.mem_of_getElem? (i := 40) (by decide +kernel)) (by decide +kernel), ⟨by decide +kernel, by decide +kernel⟩, rfl, Nat.le_of_ble_eq_true rfl, Nat.le_of_ble_eq_true rfl, fun h => nomatch h⟩
theorem mp_67 : (parseMethodDescriptor ym_67.desc).map (fun d => d.parameters.length) = some 0 := by decide +kernel
theorem mi_67 : Cond.instanceMethod ym_67 ∈ im_g := im_gm (List.mem_of_getElem? (i := 282) (by decide +kernel)) (by decide +kernel)
theorem ms_67 : Cond.selects ym_67.cls ym_67 ym_67 ∈ im_g := im_gm (List.mem_of_getElem? (i := 283) (by decide +kernel)) (by decide +kernel)
def ym_68 : MethodName := ⟨"FencedModules$Source", "wordsBefore", "(I)I"⟩
def fm_68 : im_F := (6, false, false, some .int, cm_68, 4)
set_option maxRecDepth 30000 in
theorem mf_68 : im_mf ym_68 2 fm_68 := ⟨by decide +kernel, im_gm (List.mem_of_getElem? (i := 323) rfl) rfl, im_gm (List.mem_of_getElem? (i := 40) (by decide +kernel)) (by decide +kernel), ⟨by decide +kernel, by decide +kernel⟩, rfl, Nat.le_of_ble_eq_true rfl, Nat.le_of_ble_eq_true rfl, fun h => nomatch h⟩
theorem mp_68 : (parseMethodDescriptor ym_68.desc).map (fun d => d.parameters.length) = some 1 := by decide +kernel
theorem mi_68 : Cond.instanceMethod ym_68 ∈ im_g := im_gm (List.mem_of_getElem? (i := 321) (by decide +kernel)) (by decide +kernel)
theorem ms_68 : Cond.selects ym_68.cls ym_68 ym_68 ∈ im_g := im_gm (List.mem_of_getElem? (i := 322) (by decide +kernel)) (by decide +kernel)
def ym_69 : MethodName := ⟨"FencedModules$Source", "wordsOf", "(I)I"⟩
def fm_69 : im_F := (6, false, false, some .int, cm_69, 1)
set_option maxRecDepth 30000 in
theorem mf_69 : im_mf ym_69 1 fm_69 := ⟨by decide +kernel, im_gm (List.mem_of_getElem? (i := 326) rfl) rfl, im_gm (List.mem_of_getElem? (i := 40) (by decide +kernel)) (by decide +kernel), ⟨by decide +kernel, by decide +kernel⟩, rfl, Nat.le_of_ble_eq_true rfl, Nat.le_of_ble_eq_true rfl, fun h => nomatch h⟩
theorem mp_69 : (parseMethodDescriptor ym_69.desc).map (fun d => d.parameters.length) = some 1 := by decide +kernel
theorem mi_69 : Cond.static ym_69 ∈ im_g := im_gm (List.mem_of_getElem? (i := 325) (by decide +kernel)) (by decide +kernel)
def ym_70 : MethodName := ⟨"FencedModules$Source", "keepsToFreeRegisters", "(I)Z"⟩
def fm_70 : im_F := (6, false, false, some .boolean, cm_70, 5)
set_option maxRecDepth 30000 in
theorem mf_70 : im_mf ym_70 2 fm_70 := ⟨by decide +kernel, im_gm (List.mem_of_getElem? (i := 288) rfl) rfl, im_gm (List.mem_of_getElem? (i := 40) (by decide +kernel)) (by decide +kernel), ⟨by decide +kernel, by decide +kernel⟩, rfl, Nat.le_of_ble_eq_true rfl, Nat.le_of_ble_eq_true rfl, fun h => nomatch h⟩
theorem mp_70 : (parseMethodDescriptor ym_70.desc).map (fun d => d.parameters.length) = some 1 := by decide +kernel
theorem mi_70 : Cond.instanceMethod ym_70 ∈ im_g := im_gm (List.mem_of_getElem? (i := 287) (by decide +kernel)) (by decide +kernel)
theorem ms_70 : Cond.selects ym_70.cls ym_70 ym_70 ∈ im_g := im_gm (List.mem_of_getElem? (i := 0) (by decide +kernel)) (by decide +kernel)
def ym_71 : MethodName := ⟨"FencedModules$Source", "namesWhatIsThere", "(I)Z"⟩
def fm_71 : im_F := (6, false, false, some .boolean, cm_71, 2)
set_option maxRecDepth 30000 in
theorem mf_71 : im_mf ym_71 2 fm_71 := ⟨by decide +kernel, im_gm (List.mem_of_getElem? (i := 308) rfl) rfl, im_gm (List.mem_of_getElem? (i := 40) (by decide +kernel)) (by decide +kernel), ⟨by decide +kernel, by decide +kernel⟩, rfl, Nat.le_of_ble_eq_true rfl, Nat.le_of_ble_eq_true rfl, fun h => nomatch h⟩
theorem mp_71 : (parseMethodDescriptor ym_71.desc).map (fun d => d.parameters.length) = some 1 := by decide +kernel
theorem mi_71 : Cond.instanceMethod ym_71 ∈ im_g := im_gm (List.mem_of_getElem? (i := 307) (by decide +kernel)) (by decide +kernel)
theorem ms_71 : Cond.selects ym_71.cls ym_71 ym_71 ∈ im_g := im_gm (List.mem_of_getElem? (i := 1) (by decide +kernel)) (by decide +kernel)
def ym_72 : MethodName := ⟨"FencedModules", "<init>", "()V"⟩
def fm_72 : im_F := (7, true, true, none, cm_72, 1)
set_option maxRecDepth 30000 in
theorem mf_72 : im_mf ym_72 1 fm_72 := ⟨by decide +kernel, im_gm (List.mem_of_getElem? (i := 56) rfl) rfl, im_gm (List.mem_of_getElem? (i := 39) (by decide +kernel)) (by decide +kernel), ⟨by decide +kernel, by decide +kernel⟩, rfl, Nat.le_of_ble_eq_true rfl, Nat.le_of_ble_eq_true rfl, fun _ => rfl⟩
theorem mp_72 : (parseMethodDescriptor ym_72.desc).map (fun d => d.parameters.length) = some 0 := by decide +kernel
theorem mi_72 : Cond.instanceMethod ym_72 ∈ im_g := im_gm (List.mem_of_getElem? (i := 55) (by decide +kernel)) (by decide +kernel)
def ym_73 : MethodName := ⟨"FencedModules", "line", "(IIII)Z"⟩
def fm_73 : im_F := (7, false, false, some .boolean, cm_73, 5)
set_option maxRecDepth 30000 in
theorem mf_73 : im_mf ym_73 5 fm_73 := ⟨by decide +kernel, im_gm (List.mem_of_getElem? (i := 247) rfl) rfl, im_gm (List.mem_of_getElem? (i := 39) (by decide +kernel)) (by decide +kernel), ⟨by decide +kernel, by decide +kernel⟩, rfl, Nat.le_of_ble_eq_true rfl, Nat.le_of_ble_eq_true rfl, fun h => nomatch h⟩
theorem mp_73 : (parseMethodDescriptor ym_73.desc).map (fun d => d.parameters.length) = some 4 := by decide +kernel
theorem mi_73 : Cond.instanceMethod ym_73 ∈ im_g := im_gm (List.mem_of_getElem? (i := 245) (by decide +kernel)) (by decide +kernel)
theorem ms_73 : Cond.selects ym_73.cls ym_73 ym_73 ∈ im_g := im_gm (List.mem_of_getElem? (i := 246) (by decide +kernel)) (by decide +kernel)
def ym_74 : MethodName := ⟨"FencedModules", "mark", "(I)Z"⟩
def fm_74 : im_F := (7, false, false, some .boolean, cm_74, 2)
set_option maxRecDepth 30000 in
theorem mf_74 : im_mf ym_74 2 fm_74 := ⟨by decide +kernel, im_gm (List.mem_of_getElem? (i := 257) rfl) rfl, im_gm (List.mem_of_getElem? (i := 39) (by decide +kernel)) (by decide +kernel), ⟨by decide +kernel, by decide +kernel⟩, rfl, Nat.le_of_ble_eq_true rfl, Nat.le_of_ble_eq_true rfl, fun h => nomatch h⟩
theorem mp_74 : (parseMethodDescriptor ym_74.desc).map (fun d => d.parameters.length) = some 1 := by decide +kernel
theorem mi_74 : Cond.instanceMethod ym_74 ∈ im_g := im_gm (List.mem_of_getElem? (i := 255) (by decide +kernel)) (by decide +kernel)
theorem ms_74 : Cond.selects ym_74.cls ym_74 ym_74 ∈ im_g := im_gm (List.mem_of_getElem? (i := 256) (by decide +kernel)) (by decide +kernel)
def ym_75 : MethodName := ⟨"FencedModules", "clear", "()V"⟩
def fm_75 : im_F := (7, false, false, none, cm_75, 1)
set_option maxRecDepth 30000 in
theorem mf_75 : im_mf ym_75 1 fm_75 := ⟨by decide +kernel, im_gm (List.mem_of_getElem? (i := 265) rfl) rfl, im_gm (List.mem_of_getElem? (i := 39) (by decide +kernel)) (by decide +kernel), ⟨by decide +kernel, by decide +kernel⟩, rfl, Nat.le_of_ble_eq_true rfl, Nat.le_of_ble_eq_true rfl, fun h => nomatch h⟩
theorem mp_75 : (parseMethodDescriptor ym_75.desc).map (fun d => d.parameters.length) = some 0 := by decide +kernel
theorem mi_75 : Cond.instanceMethod ym_75 ∈ im_g := im_gm (List.mem_of_getElem? (i := 263) (by decide +kernel)) (by decide +kernel)
theorem ms_75 : Cond.selects ym_75.cls ym_75 ym_75 ∈ im_g := im_gm (List.mem_of_getElem? (i := 264) (by decide +kernel)) (by decide +kernel)
def ym_76 : MethodName := ⟨"FencedModules", "rewrite", "(I)I"⟩
def fm_76 : im_F := (7, false, false, some .int, cm_76, 2)
set_option maxRecDepth 30000 in
theorem mf_76 : im_mf ym_76 2 fm_76 := ⟨by decide +kernel, im_gm (List.mem_of_getElem? (i := 277) rfl) rfl, im_gm (List.mem_of_getElem? (i := 39) (by decide +kernel)) (by decide +kernel), ⟨by decide +kernel, by decide +kernel⟩, rfl, Nat.le_of_ble_eq_true rfl, Nat.le_of_ble_eq_true rfl, fun h => nomatch h⟩
theorem mp_76 : (parseMethodDescriptor ym_76.desc).map (fun d => d.parameters.length) = some 1 := by decide +kernel
theorem mi_76 : Cond.instanceMethod ym_76 ∈ im_g := im_gm (List.mem_of_getElem? (i := 275) (by decide +kernel)) (by decide +kernel)
theorem ms_76 : Cond.selects ym_76.cls ym_76 ym_76 ∈ im_g := im_gm (List.mem_of_getElem? (i := 276) (by decide +kernel)) (by decide +kernel)
def ym_77 : MethodName := ⟨"FencedModules", "word", "(I)Z"⟩
def fm_77 : im_F := (7, false, false, some .boolean, cm_77, 2)
set_option maxRecDepth 30000 in
theorem mf_77 : im_mf ym_77 2 fm_77 := ⟨by decide +kernel, im_gm (List.mem_of_getElem? (i := 380) rfl) rfl, im_gm (List.mem_of_getElem? (i := 39) (by decide +kernel)) (by decide +kernel), ⟨by decide +kernel, by decide +kernel⟩, rfl, Nat.le_of_ble_eq_true rfl, Nat.le_of_ble_eq_true rfl, fun h => nomatch h⟩
theorem mp_77 : (parseMethodDescriptor ym_77.desc).map (fun d => d.parameters.length) = some 1 := by decide +kernel
theorem mi_77 : Cond.instanceMethod ym_77 ∈ im_g := im_gm (List.mem_of_getElem? (i := 378) (by decide +kernel)) (by decide +kernel)
theorem ms_77 : Cond.selects ym_77.cls ym_77 ym_77 ∈ im_g := im_gm (List.mem_of_getElem? (i := 379) (by decide +kernel)) (by decide +kernel)
def ym_78 : MethodName := ⟨"FencedModules", "module", "(I)I"⟩
def fm_78 : im_F := (7, false, false, some .int, cm_78, 2)
set_option maxRecDepth 30000 in
theorem mf_78 : im_mf ym_78 2 fm_78 := ⟨by decide +kernel, im_gm (List.mem_of_getElem? (i := 385) rfl) rfl, im_gm (List.mem_of_getElem? (i := 39) (by decide +kernel)) (by decide +kernel), ⟨by decide +kernel, by decide +kernel⟩, rfl, Nat.le_of_ble_eq_true rfl, Nat.le_of_ble_eq_true rfl, fun h => nomatch h⟩
theorem mp_78 : (parseMethodDescriptor ym_78.desc).map (fun d => d.parameters.length) = some 1 := by decide +kernel
theorem mi_78 : Cond.instanceMethod ym_78 ∈ im_g := im_gm (List.mem_of_getElem? (i := 383) (by decide +kernel)) (by decide +kernel)
theorem ms_78 : Cond.selects ym_78.cls ym_78 ym_78 ∈ im_g := im_gm (List.mem_of_getElem? (i := 384) (by decide +kernel)) (by decide +kernel)
def ym_79 : MethodName := ⟨"FencedModules", "verify", "(I)I"⟩
def fm_79 : im_F := (7, false, false, some .int, cm_79, 2)
set_option maxRecDepth 30000 in
theorem mf_79 : im_mf ym_79 2 fm_79 := ⟨by decide +kernel, im_gm (List.mem_of_getElem? (i := 393) rfl) rfl, im_gm (List.mem_of_getElem? (i := 39) (by decide +kernel)) (by decide +kernel), ⟨by decide +kernel, by decide +kernel⟩, rfl, Nat.le_of_ble_eq_true rfl, Nat.le_of_ble_eq_true rfl, fun h => nomatch h⟩
theorem mp_79 : (parseMethodDescriptor ym_79.desc).map (fun d => d.parameters.length) = some 1 := by decide +kernel
theorem mi_79 : Cond.instanceMethod ym_79 ∈ im_g := im_gm (List.mem_of_getElem? (i := 391) (by decide +kernel)) (by decide +kernel)
theorem ms_79 : Cond.selects ym_79.cls ym_79 ym_79 ∈ im_g := im_gm (List.mem_of_getElem? (i := 392) (by decide +kernel)) (by decide +kernel)
def ym_80 : MethodName := ⟨"FencedModules", "load", "(I)Z"⟩
def fm_80 : im_F := (7, false, false, some .boolean, cm_80, 2)
set_option maxRecDepth 30000 in
theorem mf_80 : im_mf ym_80 2 fm_80 := ⟨by decide +kernel, im_gm (List.mem_of_getElem? (i := 427) rfl) rfl, im_gm (List.mem_of_getElem? (i := 39) (by decide +kernel)) (by decide +kernel), ⟨by decide +kernel, by decide +kernel⟩, rfl, Nat.le_of_ble_eq_true rfl, Nat.le_of_ble_eq_true rfl, fun h => nomatch h⟩
theorem mp_80 : (parseMethodDescriptor ym_80.desc).map (fun d => d.parameters.length) = some 1 := by decide +kernel
theorem mi_80 : Cond.instanceMethod ym_80 ∈ im_g := im_gm (List.mem_of_getElem? (i := 425) (by decide +kernel)) (by decide +kernel)
theorem ms_80 : Cond.selects ym_80.cls ym_80 ym_80 ∈ im_g := im_gm (List.mem_of_getElem? (i := 426) (by decide +kernel)) (by decide +kernel)
def ym_81 : MethodName := ⟨"FencedModules", "feed", "(II)Z"⟩
def fm_81 : im_F := (7, false, false, some .boolean, cm_81, 4)
set_option maxRecDepth 30000 in
theorem mf_81 : im_mf ym_81 3 fm_81 := ⟨by decide +kernel, im_gm (List.mem_of_getElem? (i := 462) rfl) rfl, im_gm (List.mem_of_getElem? (i := 39) (by decide +kernel)) (by decide +kernel), ⟨by decide +kernel, by decide +kernel⟩, rfl, Nat.le_of_ble_eq_true rfl, Nat.le_of_ble_eq_true rfl, fun h => nomatch h⟩
theorem mp_81 : (parseMethodDescriptor ym_81.desc).map (fun d => d.parameters.length) = some 2 := by decide +kernel
theorem mi_81 : Cond.instanceMethod ym_81 ∈ im_g := im_gm (List.mem_of_getElem? (i := 460) (by decide +kernel)) (by decide +kernel)
theorem ms_81 : Cond.selects ym_81.cls ym_81 ym_81 ∈ im_g := im_gm (List.mem_of_getElem? (i := 461) (by decide +kernel)) (by decide +kernel)
def ym_82 : MethodName := ⟨"FencedModules", "run", "(I)I"⟩
def fm_82 : im_F := (7, false, false, some .int, cm_82, 2)
set_option maxRecDepth 30000 in
theorem mf_82 : im_mf ym_82 2 fm_82 := ⟨by decide +kernel, im_gm (List.mem_of_getElem? (i := 471) rfl) rfl, im_gm (List.mem_of_getElem? (i := 39) (by decide +kernel)) (by decide +kernel), ⟨by decide +kernel, by decide +kernel⟩, rfl, Nat.le_of_ble_eq_true rfl, Nat.le_of_ble_eq_true rfl, fun h => nomatch h⟩
theorem mp_82 : (parseMethodDescriptor ym_82.desc).map (fun d => d.parameters.length) = some 1 := by decide +kernel
theorem mi_82 : Cond.instanceMethod ym_82 ∈ im_g := im_gm (List.mem_of_getElem? (i := 469) (by decide +kernel)) (by decide +kernel)
theorem ms_82 : Cond.selects ym_82.cls ym_82 ym_82 ∈ im_g := im_gm (List.mem_of_getElem? (i := 470) (by decide +kernel)) (by decide +kernel)
def ym_83 : MethodName := ⟨"FencedModules", "state", "(I)I"⟩
def fm_83 : im_F := (7, false, false, some .int, cm_83, 3)
set_option maxRecDepth 30000 in
theorem mf_83 : im_mf ym_83 2 fm_83 := ⟨by decide +kernel, im_gm (List.mem_of_getElem? (i := 562) rfl) rfl, im_gm (List.mem_of_getElem? (i := 39) (by decide +kernel)) (by decide +kernel), ⟨by decide +kernel, by decide +kernel⟩, rfl, Nat.le_of_ble_eq_true rfl, Nat.le_of_ble_eq_true rfl, fun h => nomatch h⟩
theorem mp_83 : (parseMethodDescriptor ym_83.desc).map (fun d => d.parameters.length) = some 1 := by decide +kernel
theorem mi_83 : Cond.instanceMethod ym_83 ∈ im_g := im_gm (List.mem_of_getElem? (i := 560) (by decide +kernel)) (by decide +kernel)
theorem ms_83 : Cond.selects ym_83.cls ym_83 ym_83 ∈ im_g := im_gm (List.mem_of_getElem? (i := 561) (by decide +kernel)) (by decide +kernel)
def ym_84 : MethodName := ⟨"FencedModules", "pc", "(I)I"⟩
def fm_84 : im_F := (7, false, false, some .int, cm_84, 3)
set_option maxRecDepth 30000 in
theorem mf_84 : im_mf ym_84 2 fm_84 := ⟨by decide +kernel, im_gm (List.mem_of_getElem? (i := 566) rfl) rfl, im_gm (List.mem_of_getElem? (i := 39) (by decide +kernel)) (by decide +kernel), ⟨by decide +kernel, by decide +kernel⟩, rfl, Nat.le_of_ble_eq_true rfl, Nat.le_of_ble_eq_true rfl, fun h => nomatch h⟩
theorem mp_84 : (parseMethodDescriptor ym_84.desc).map (fun d => d.parameters.length) = some 1 := by decide +kernel
theorem mi_84 : Cond.instanceMethod ym_84 ∈ im_g := im_gm (List.mem_of_getElem? (i := 564) (by decide +kernel)) (by decide +kernel)
theorem ms_84 : Cond.selects ym_84.cls ym_84 ym_84 ∈ im_g := im_gm (List.mem_of_getElem? (i := 565) (by decide +kernel)) (by decide +kernel)
def ym_85 : MethodName := ⟨"FencedModules", "register", "(II)I"⟩
def fm_85 : im_F := (7, false, false, some .int, cm_85, 4)
set_option maxRecDepth 30000 in
theorem mf_85 : im_mf ym_85 3 fm_85 := ⟨by decide +kernel, im_gm (List.mem_of_getElem? (i := 570) rfl) rfl, im_gm (List.mem_of_getElem? (i := 39) (by decide +kernel)) (by decide +kernel), ⟨by decide +kernel, by decide +kernel⟩, rfl, Nat.le_of_ble_eq_true rfl, Nat.le_of_ble_eq_true rfl, fun h => nomatch h⟩
theorem mp_85 : (parseMethodDescriptor ym_85.desc).map (fun d => d.parameters.length) = some 2 := by decide +kernel
theorem mi_85 : Cond.instanceMethod ym_85 ∈ im_g := im_gm (List.mem_of_getElem? (i := 568) (by decide +kernel)) (by decide +kernel)
theorem ms_85 : Cond.selects ym_85.cls ym_85 ym_85 ∈ im_g := im_gm (List.mem_of_getElem? (i := 569) (by decide +kernel)) (by decide +kernel)
def ym_86 : MethodName := ⟨"FencedModules", "peek", "(I)I"⟩
def fm_86 : im_F := (7, false, false, some .int, cm_86, 2)
set_option maxRecDepth 30000 in
theorem mf_86 : im_mf ym_86 2 fm_86 := ⟨by decide +kernel, im_gm (List.mem_of_getElem? (i := 574) rfl) rfl, im_gm (List.mem_of_getElem? (i := 39) (by decide +kernel)) (by decide +kernel), ⟨by decide +kernel, by decide +kernel⟩, rfl, Nat.le_of_ble_eq_true rfl, Nat.le_of_ble_eq_true rfl, fun h => nomatch h⟩
theorem mp_86 : (parseMethodDescriptor ym_86.desc).map (fun d => d.parameters.length) = some 1 := by decide +kernel
theorem mi_86 : Cond.instanceMethod ym_86 ∈ im_g := im_gm (List.mem_of_getElem? (i := 572) (by decide +kernel)) (by decide +kernel)
theorem ms_86 : Cond.selects ym_86.cls ym_86 ym_86 ∈ im_g := im_gm (List.mem_of_getElem? (i := 573) (by decide +kernel)) (by decide +kernel)
def ym_87 : MethodName := ⟨"FencedModules", "output", "(II)I"⟩
def fm_87 : im_F := (7, false, false, some .int, cm_87, 4)
set_option maxRecDepth 30000 in
theorem mf_87 : im_mf ym_87 3 fm_87 := ⟨by decide +kernel, im_gm (List.mem_of_getElem? (i := 579) rfl) rfl, im_gm (List.mem_of_getElem? (i := 39) (by decide +kernel)) (by decide +kernel), ⟨by decide +kernel, by decide +kernel⟩, rfl, Nat.le_of_ble_eq_true rfl, Nat.le_of_ble_eq_true rfl, fun h => nomatch h⟩
theorem mp_87 : (parseMethodDescriptor ym_87.desc).map (fun d => d.parameters.length) = some 2 := by decide +kernel
theorem mi_87 : Cond.instanceMethod ym_87 ∈ im_g := im_gm (List.mem_of_getElem? (i := 577) (by decide +kernel)) (by decide +kernel)
theorem ms_87 : Cond.selects ym_87.cls ym_87 ym_87 ∈ im_g := im_gm (List.mem_of_getElem? (i := 578) (by decide +kernel)) (by decide +kernel)
def ym_88 : MethodName := ⟨"FencedModules", "call", "(III)I"⟩
def fm_88 : im_F := (7, false, false, some .int, cm_88, 5)
set_option maxRecDepth 30000 in
theorem mf_88 : im_mf ym_88 4 fm_88 := ⟨by decide +kernel, im_gm (List.mem_of_getElem? (i := 587) rfl) rfl, im_gm (List.mem_of_getElem? (i := 39) (by decide +kernel)) (by decide +kernel), ⟨by decide +kernel, by decide +kernel⟩, rfl, Nat.le_of_ble_eq_true rfl, Nat.le_of_ble_eq_true rfl, fun h => nomatch h⟩
theorem mp_88 : (parseMethodDescriptor ym_88.desc).map (fun d => d.parameters.length) = some 3 := by decide +kernel
theorem mi_88 : Cond.instanceMethod ym_88 ∈ im_g := im_gm (List.mem_of_getElem? (i := 585) (by decide +kernel)) (by decide +kernel)
theorem ms_88 : Cond.selects ym_88.cls ym_88 ym_88 ∈ im_g := im_gm (List.mem_of_getElem? (i := 586) (by decide +kernel)) (by decide +kernel)
def ym_89 : MethodName := ⟨"FencedModules", "follow", "(II)I"⟩
def fm_89 : im_F := (7, false, false, some .int, cm_89, 4)
set_option maxRecDepth 30000 in
theorem mf_89 : im_mf ym_89 3 fm_89 := ⟨by decide +kernel, im_gm (List.mem_of_getElem? (i := 595) rfl) rfl, im_gm (List.mem_of_getElem? (i := 39) (by decide +kernel)) (by decide +kernel), ⟨by decide +kernel, by decide +kernel⟩, rfl, Nat.le_of_ble_eq_true rfl, Nat.le_of_ble_eq_true rfl, fun h => nomatch h⟩
theorem mp_89 : (parseMethodDescriptor ym_89.desc).map (fun d => d.parameters.length) = some 2 := by decide +kernel
theorem mi_89 : Cond.instanceMethod ym_89 ∈ im_g := im_gm (List.mem_of_getElem? (i := 593) (by decide +kernel)) (by decide +kernel)
theorem ms_89 : Cond.selects ym_89.cls ym_89 ym_89 ∈ im_g := im_gm (List.mem_of_getElem? (i := 594) (by decide +kernel)) (by decide +kernel)
def ym_90 : MethodName := ⟨"FencedModules", "trace", "(II)I"⟩
def fm_90 : im_F := (7, false, false, some .int, cm_90, 3)
set_option maxRecDepth 30000 in
theorem mf_90 : im_mf ym_90 3 fm_90 := ⟨by decide +kernel, im_gm (List.mem_of_getElem? (i := 660) rfl) rfl, im_gm (List.mem_of_getElem? (i := 39) (by decide +kernel)) (by decide +kernel), ⟨by decide +kernel, by decide +kernel⟩, rfl, Nat.le_of_ble_eq_true rfl, Nat.le_of_ble_eq_true rfl, fun h => nomatch h⟩
theorem mp_90 : (parseMethodDescriptor ym_90.desc).map (fun d => d.parameters.length) = some 2 := by decide +kernel
theorem mi_90 : Cond.instanceMethod ym_90 ∈ im_g := im_gm (List.mem_of_getElem? (i := 658) (by decide +kernel)) (by decide +kernel)
theorem ms_90 : Cond.selects ym_90.cls ym_90 ym_90 ∈ im_g := im_gm (List.mem_of_getElem? (i := 659) (by decide +kernel)) (by decide +kernel)
def ym_91 : MethodName := ⟨"FencedModulesModel", "<init>", "()V"⟩
def fm_91 : im_F := (8, true, true, none, cm_91, 1)
set_option maxRecDepth 30000 in
theorem mf_91 : im_mf ym_91 1 fm_91 := ⟨by decide +kernel, im_gm (List.mem_of_getElem? (i := 665) rfl) rfl, im_gm (List.mem_of_getElem? (i := 48) (by decide +kernel)) (by decide +kernel), ⟨by decide +kernel, by decide +kernel⟩, rfl, Nat.le_of_ble_eq_true rfl, Nat.le_of_ble_eq_true rfl, fun _ => rfl⟩
theorem mp_91 : (parseMethodDescriptor ym_91.desc).map (fun d => d.parameters.length) = some 0 := by decide +kernel
theorem mi_91 : Cond.instanceMethod ym_91 ∈ im_g := im_gm (List.mem_of_getElem? (i := 664) (by decide +kernel)) (by decide +kernel)
def ym_92 : MethodName := ⟨"FencedModulesModel", "in", "(III)Z"⟩
def fm_92 : im_F := (8, false, false, some .boolean, cm_92, 3)
set_option maxRecDepth 30000 in
theorem mf_92 : im_mf ym_92 3 fm_92 := ⟨by decide +kernel, im_gm (List.mem_of_getElem? (i := 771) rfl) rfl, im_gm (List.mem_of_getElem? (i := 48) (by decide +kernel)) (by decide +kernel), ⟨by decide +kernel, by decide +kernel⟩, rfl, Nat.le_of_ble_eq_true rfl, Nat.le_of_ble_eq_true rfl, fun h => nomatch h⟩
theorem mp_92 : (parseMethodDescriptor ym_92.desc).map (fun d => d.parameters.length) = some 3 := by decide +kernel
theorem mi_92 : Cond.static ym_92 ∈ im_g := im_gm (List.mem_of_getElem? (i := 770) (by decide +kernel)) (by decide +kernel)
def ym_93 : MethodName := ⟨"FencedModulesModel", "line", "(IIII)Z"⟩
def fm_93 : im_F := (8, false, false, some .boolean, cm_93, 5)
set_option maxRecDepth 30000 in
theorem mf_93 : im_mf ym_93 5 fm_93 := ⟨by decide +kernel, im_gm (List.mem_of_getElem? (i := 768) rfl) rfl, im_gm (List.mem_of_getElem? (i := 48) (by decide +kernel)) (by decide +kernel), ⟨by decide +kernel, by decide +kernel⟩, rfl, Nat.le_of_ble_eq_true rfl, Nat.le_of_ble_eq_true rfl, fun h => nomatch h⟩
theorem mp_93 : (parseMethodDescriptor ym_93.desc).map (fun d => d.parameters.length) = some 4 := by decide +kernel
theorem mi_93 : Cond.instanceMethod ym_93 ∈ im_g := im_gm (List.mem_of_getElem? (i := 766) (by decide +kernel)) (by decide +kernel)
theorem ms_93 : Cond.selects ym_93.cls ym_93 ym_93 ∈ im_g := im_gm (List.mem_of_getElem? (i := 767) (by decide +kernel)) (by decide +kernel)
def ym_94 : MethodName := ⟨"FencedModulesModel", "mark", "(I)Z"⟩
def fm_94 : im_F := (8, false, false, some .boolean, cm_94, 2)
set_option maxRecDepth 30000 in
theorem mf_94 : im_mf ym_94 2 fm_94 := ⟨by decide +kernel, im_gm (List.mem_of_getElem? (i := 777) rfl) rfl, im_gm (List.mem_of_getElem? (i := 48) (by decide +kernel)) (by decide +kernel), ⟨by decide +kernel, by decide +kernel⟩, rfl, Nat.le_of_ble_eq_true rfl, Nat.le_of_ble_eq_true rfl, fun h => nomatch h⟩
theorem mp_94 : (parseMethodDescriptor ym_94.desc).map (fun d => d.parameters.length) = some 1 := by decide +kernel
theorem mi_94 : Cond.instanceMethod ym_94 ∈ im_g := im_gm (List.mem_of_getElem? (i := 775) (by decide +kernel)) (by decide +kernel)
theorem ms_94 : Cond.selects ym_94.cls ym_94 ym_94 ∈ im_g := im_gm (List.mem_of_getElem? (i := 776) (by decide +kernel)) (by decide +kernel)
def ym_95 : MethodName := ⟨"FencedModulesModel", "clear", "()V"⟩
def fm_95 : im_F := (8, false, false, none, cm_95, 2)
set_option maxRecDepth 30000 in
theorem mf_95 : im_mf ym_95 1 fm_95 := ⟨by decide +kernel, im_gm (List.mem_of_getElem? (i := 781) rfl) rfl, im_gm (List.mem_of_getElem? (i := 48) (by decide +kernel)) (by decide +kernel), ⟨by decide +kernel, by decide +kernel⟩, rfl, Nat.le_of_ble_eq_true rfl, Nat.le_of_ble_eq_true rfl, fun h => nomatch h⟩
theorem mp_95 : (parseMethodDescriptor ym_95.desc).map (fun d => d.parameters.length) = some 0 := by decide +kernel
theorem mi_95 : Cond.instanceMethod ym_95 ∈ im_g := im_gm (List.mem_of_getElem? (i := 779) (by decide +kernel)) (by decide +kernel)
theorem ms_95 : Cond.selects ym_95.cls ym_95 ym_95 ∈ im_g := im_gm (List.mem_of_getElem? (i := 780) (by decide +kernel)) (by decide +kernel)
def ym_96 : MethodName := ⟨"FencedModulesModel", "first", "(I)I"⟩
def fm_96 : im_F := (8, false, false, some .int, cm_96, 4)
set_option maxRecDepth 30000 in
theorem mf_96 : im_mf ym_96 2 fm_96 := ⟨by decide +kernel, im_gm (List.mem_of_getElem? (i := 797) rfl) rfl, im_gm (List.mem_of_getElem? (i := 48) (by decide +kernel)) (by decide +kernel), ⟨by decide +kernel, by decide +kernel⟩, rfl, Nat.le_of_ble_eq_true rfl, Nat.le_of_ble_eq_true rfl, fun h => nomatch h⟩
theorem mp_96 : (parseMethodDescriptor ym_96.desc).map (fun d => d.parameters.length) = some 1 := by decide +kernel
theorem mi_96 : Cond.instanceMethod ym_96 ∈ im_g := im_gm (List.mem_of_getElem? (i := 796) (by decide +kernel)) (by decide +kernel)
theorem ms_96 : Cond.selects ym_96.cls ym_96 ym_96 ∈ im_g := im_gm (List.mem_of_getElem? (i := 22) (by decide +kernel)) (by decide +kernel)
def ym_97 : MethodName := ⟨"FencedModulesModel", "fits", "(I)Z"⟩
def fm_97 : im_F := (8, false, false, some .boolean, cm_97, 6)
set_option maxRecDepth 30000 in
theorem mf_97 : im_mf ym_97 2 fm_97 := ⟨by decide +kernel, im_gm (List.mem_of_getElem? (i := 793) rfl) rfl, im_gm (List.mem_of_getElem? (i := 48) (by decide +kernel)) (by decide +kernel), ⟨by decide +kernel, by decide +kernel⟩, rfl, Nat.le_of_ble_eq_true rfl, Nat.le_of_ble_eq_true rfl, fun h => nomatch h⟩
theorem mp_97 : (parseMethodDescriptor ym_97.desc).map (fun d => d.parameters.length) = some 1 := by decide +kernel
theorem mi_97 : Cond.instanceMethod ym_97 ∈ im_g := im_gm (List.mem_of_getElem? (i := 792) (by decide +kernel)) (by decide +kernel)
theorem ms_97 : Cond.selects ym_97.cls ym_97 ym_97 ∈ im_g := im_gm (List.mem_of_getElem? (i := 21) (by decide +kernel)) (by decide +kernel)
def ym_98 : MethodName := ⟨"FencedModulesModel", "can", "()Z"⟩
def fm_98 : im_F := (8, false, false, some .boolean, cm_98, 2)
set_option maxRecDepth 30000 in
theorem mf_98 : im_mf ym_98 1 fm_98 := ⟨by decide +kernel, im_gm (List.mem_of_getElem? (i := 789) rfl) rfl, im_gm (List.mem_of_getElem? (i := 48) (by decide +kernel)) (by decide +kernel), ⟨by decide +kernel, by decide +kernel⟩, rfl, Nat.le_of_ble_eq_true rfl, Nat.le_of_ble_eq_true rfl, fun h => nomatch h⟩
theorem mp_98 : (parseMethodDescriptor ym_98.desc).map (fun d => d.parameters.length) = some 0 := by decide +kernel
theorem mi_98 : Cond.instanceMethod ym_98 ∈ im_g := im_gm (List.mem_of_getElem? (i := 788) (by decide +kernel)) (by decide +kernel)
theorem ms_98 : Cond.selects ym_98.cls ym_98 ym_98 ∈ im_g := im_gm (List.mem_of_getElem? (i := 20) (by decide +kernel)) (by decide +kernel)
def ym_99 : MethodName := ⟨"FencedModulesModel", "code", "(IIII)I"⟩
def fm_99 : im_F := (8, false, false, some .int, cm_99, 4)
set_option maxRecDepth 30000 in
theorem mf_99 : im_mf ym_99 4 fm_99 := ⟨by decide +kernel, im_gm (List.mem_of_getElem? (i := 804) rfl) rfl, im_gm (List.mem_of_getElem? (i := 48) (by decide +kernel)) (by decide +kernel), ⟨by decide +kernel, by decide +kernel⟩, rfl, Nat.le_of_ble_eq_true rfl, Nat.le_of_ble_eq_true rfl, fun h => nomatch h⟩
theorem mp_99 : (parseMethodDescriptor ym_99.desc).map (fun d => d.parameters.length) = some 4 := by decide +kernel
theorem mi_99 : Cond.static ym_99 ∈ im_g := im_gm (List.mem_of_getElem? (i := 803) (by decide +kernel)) (by decide +kernel)
def ym_100 : MethodName := ⟨"FencedModulesModel", "add", "(I)V"⟩
def fm_100 : im_F := (8, false, false, none, cm_100, 2)
set_option maxRecDepth 30000 in
theorem mf_100 : im_mf ym_100 2 fm_100 := ⟨by decide +kernel, im_gm (List.mem_of_getElem? (i := 808) rfl) rfl, im_gm (List.mem_of_getElem? (i := 48) (by decide +kernel)) (by decide +kernel), ⟨by decide +kernel, by decide +kernel⟩, rfl, Nat.le_of_ble_eq_true rfl, Nat.le_of_ble_eq_true rfl, fun h => nomatch h⟩
theorem mp_100 : (parseMethodDescriptor ym_100.desc).map (fun d => d.parameters.length) = some 1 := by decide +kernel
theorem mi_100 : Cond.instanceMethod ym_100 ∈ im_g := im_gm (List.mem_of_getElem? (i := 807) (by decide +kernel)) (by decide +kernel)
theorem ms_100 : Cond.selects ym_100.cls ym_100 ym_100 ∈ im_g := im_gm (List.mem_of_getElem? (i := 24) (by decide +kernel)) (by decide +kernel)
def ym_101 : MethodName := ⟨"FencedModulesModel", "target", "(I)I"⟩
def fm_101 : im_F := (8, false, false, some .int, cm_101, 2)
set_option maxRecDepth 30000 in
theorem mf_101 : im_mf ym_101 2 fm_101 := ⟨by decide +kernel, im_gm (List.mem_of_getElem? (i := 812) rfl) rfl, im_gm (List.mem_of_getElem? (i := 48) (by decide +kernel)) (by decide +kernel), ⟨by decide +kernel, by decide +kernel⟩, rfl, Nat.le_of_ble_eq_true rfl, Nat.le_of_ble_eq_true rfl, fun h => nomatch h⟩
theorem mp_101 : (parseMethodDescriptor ym_101.desc).map (fun d => d.parameters.length) = some 1 := by decide +kernel
theorem mi_101 : Cond.instanceMethod ym_101 ∈ im_g := im_gm (List.mem_of_getElem? (i := 811) (by decide +kernel)) (by decide +kernel)
theorem ms_101 : Cond.selects ym_101.cls ym_101 ym_101 ∈ im_g := im_gm (List.mem_of_getElem? (i := 25) (by decide +kernel)) (by decide +kernel)
def ym_102 : MethodName := ⟨"FencedModulesModel", "rewrite", "(I)I"⟩
def fm_102 : im_F := (8, false, false, some .int, cm_102, 3)
set_option maxRecDepth 30000 in
theorem mf_102 : im_mf ym_102 2 fm_102 := ⟨by decide +kernel, im_gm (List.mem_of_getElem? (i := 785) rfl) rfl, im_gm (List.mem_of_getElem? (i := 48) (by decide +kernel)) (by decide +kernel), ⟨by decide +kernel, by decide +kernel⟩, rfl, Nat.le_of_ble_eq_true rfl, Nat.le_of_ble_eq_true rfl, fun h => nomatch h⟩
theorem mp_102 : (parseMethodDescriptor ym_102.desc).map (fun d => d.parameters.length) = some 1 := by decide +kernel
theorem mi_102 : Cond.instanceMethod ym_102 ∈ im_g := im_gm (List.mem_of_getElem? (i := 783) (by decide +kernel)) (by decide +kernel)
theorem ms_102 : Cond.selects ym_102.cls ym_102 ym_102 ∈ im_g := im_gm (List.mem_of_getElem? (i := 784) (by decide +kernel)) (by decide +kernel)
def ym_103 : MethodName := ⟨"FencedModulesModel", "translate", "(II)V"⟩
def fm_103 : im_F := (8, false, false, none, cm_103, 8)
set_option maxRecDepth 30000 in
theorem mf_103 : im_mf ym_103 3 fm_103 := ⟨by decide +kernel, im_gm (List.mem_of_getElem? (i := 801) rfl) rfl, im_gm (List.mem_of_getElem? (i := 48) (by decide +kernel)) (by decide +kernel), ⟨by decide +kernel, by decide +kernel⟩, rfl, Nat.le_of_ble_eq_true rfl, Nat.le_of_ble_eq_true rfl, fun h => nomatch h⟩
theorem mp_103 : (parseMethodDescriptor ym_103.desc).map (fun d => d.parameters.length) = some 2 := by decide +kernel
theorem mi_103 : Cond.instanceMethod ym_103 ∈ im_g := im_gm (List.mem_of_getElem? (i := 800) (by decide +kernel)) (by decide +kernel)
theorem ms_103 : Cond.selects ym_103.cls ym_103 ym_103 ∈ im_g := im_gm (List.mem_of_getElem? (i := 23) (by decide +kernel)) (by decide +kernel)
def ym_104 : MethodName := ⟨"FencedModulesModel", "word", "(I)Z"⟩
def fm_104 : im_F := (8, false, false, some .boolean, cm_104, 2)
set_option maxRecDepth 30000 in
theorem mf_104 : im_mf ym_104 2 fm_104 := ⟨by decide +kernel, im_gm (List.mem_of_getElem? (i := 816) rfl) rfl, im_gm (List.mem_of_getElem? (i := 48) (by decide +kernel)) (by decide +kernel), ⟨by decide +kernel, by decide +kernel⟩, rfl, Nat.le_of_ble_eq_true rfl, Nat.le_of_ble_eq_true rfl, fun h => nomatch h⟩
theorem mp_104 : (parseMethodDescriptor ym_104.desc).map (fun d => d.parameters.length) = some 1 := by decide +kernel
theorem mi_104 : Cond.instanceMethod ym_104 ∈ im_g := im_gm (List.mem_of_getElem? (i := 814) (by decide +kernel)) (by decide +kernel)
theorem ms_104 : Cond.selects ym_104.cls ym_104 ym_104 ∈ im_g := im_gm (List.mem_of_getElem? (i := 815) (by decide +kernel)) (by decide +kernel)
def ym_105 : MethodName := ⟨"FencedModulesModel", "module", "(I)I"⟩
def fm_105 : im_F := (8, false, false, some .int, cm_105, 2)
set_option maxRecDepth 30000 in
theorem mf_105 : im_mf ym_105 2 fm_105 := ⟨by decide +kernel, im_gm (List.mem_of_getElem? (i := 820) rfl) rfl, im_gm (List.mem_of_getElem? (i := 48) (by decide +kernel)) (by decide +kernel), ⟨by decide +kernel, by decide +kernel⟩, rfl, Nat.le_of_ble_eq_true rfl, Nat.le_of_ble_eq_true rfl, fun h => nomatch h⟩
theorem mp_105 : (parseMethodDescriptor ym_105.desc).map (fun d => d.parameters.length) = some 1 := by decide +kernel
theorem mi_105 : Cond.instanceMethod ym_105 ∈ im_g := im_gm (List.mem_of_getElem? (i := 818) (by decide +kernel)) (by decide +kernel)
theorem ms_105 : Cond.selects ym_105.cls ym_105 ym_105 ∈ im_g := im_gm (List.mem_of_getElem? (i := 819) (by decide +kernel)) (by decide +kernel)
def ym_106 : MethodName := ⟨"FencedModulesModel", "isWord", "(IIIII)Z"⟩
def fm_106 : im_F := (8, false, false, some .boolean, cm_106, 6)
set_option maxRecDepth 30000 in
theorem mf_106 : im_mf ym_106 6 fm_106 := ⟨by decide +kernel, im_gm (List.mem_of_getElem? (i := 836) rfl) rfl, im_gm (List.mem_of_getElem? (i := 48) (by decide +kernel)) (by decide +kernel), ⟨by decide +kernel, by decide +kernel⟩, rfl, Nat.le_of_ble_eq_true rfl, Nat.le_of_ble_eq_true rfl, fun h => nomatch h⟩
theorem mp_106 : (parseMethodDescriptor ym_106.desc).map (fun d => d.parameters.length) = some 5 := by decide +kernel
theorem mi_106 : Cond.instanceMethod ym_106 ∈ im_g := im_gm (List.mem_of_getElem? (i := 835) (by decide +kernel)) (by decide +kernel)
theorem ms_106 : Cond.selects ym_106.cls ym_106 ym_106 ∈ im_g := im_gm (List.mem_of_getElem? (i := 28) (by decide +kernel)) (by decide +kernel)
def ym_107 : MethodName := ⟨"FencedModulesModel", "keeps", "(IIII)Z"⟩
def fm_107 : im_F := (8, false, false, some .boolean, cm_107, 7)
set_option maxRecDepth 30000 in
theorem mf_107 : im_mf ym_107 5 fm_107 := ⟨by decide +kernel, im_gm (List.mem_of_getElem? (i := 832) rfl) rfl, im_gm (List.mem_of_getElem? (i := 48) (by decide +kernel)) (by decide +kernel), ⟨by decide +kernel, by decide +kernel⟩, rfl, Nat.le_of_ble_eq_true rfl, Nat.le_of_ble_eq_true rfl, fun h => nomatch h⟩
theorem mp_107 : (parseMethodDescriptor ym_107.desc).map (fun d => d.parameters.length) = some 4 := by decide +kernel
theorem mi_107 : Cond.instanceMethod ym_107 ∈ im_g := im_gm (List.mem_of_getElem? (i := 831) (by decide +kernel)) (by decide +kernel)
theorem ms_107 : Cond.selects ym_107.cls ym_107 ym_107 ∈ im_g := im_gm (List.mem_of_getElem? (i := 27) (by decide +kernel)) (by decide +kernel)
def ym_108 : MethodName := ⟨"FencedModulesModel", "safe", "(II)Z"⟩
def fm_108 : im_F := (8, false, false, some .boolean, cm_108, 7)
set_option maxRecDepth 30000 in
theorem mf_108 : im_mf ym_108 3 fm_108 := ⟨by decide +kernel, im_gm (List.mem_of_getElem? (i := 828) rfl) rfl, im_gm (List.mem_of_getElem? (i := 48) (by decide +kernel)) (by decide +kernel), ⟨by decide +kernel, by decide +kernel⟩, rfl, Nat.le_of_ble_eq_true rfl, Nat.le_of_ble_eq_true rfl, fun h => nomatch h⟩
theorem mp_108 : (parseMethodDescriptor ym_108.desc).map (fun d => d.parameters.length) = some 2 := by decide +kernel
theorem mi_108 : Cond.instanceMethod ym_108 ∈ im_g := im_gm (List.mem_of_getElem? (i := 827) (by decide +kernel)) (by decide +kernel)
theorem ms_108 : Cond.selects ym_108.cls ym_108 ym_108 ∈ im_g := im_gm (List.mem_of_getElem? (i := 26) (by decide +kernel)) (by decide +kernel)
def ym_109 : MethodName := ⟨"FencedModulesModel", "verify", "(I)I"⟩
def fm_109 : im_F := (8, false, false, some .int, cm_109, 3)
set_option maxRecDepth 30000 in
theorem mf_109 : im_mf ym_109 2 fm_109 := ⟨by decide +kernel, im_gm (List.mem_of_getElem? (i := 824) rfl) rfl, im_gm (List.mem_of_getElem? (i := 48) (by decide +kernel)) (by decide +kernel), ⟨by decide +kernel, by decide +kernel⟩, rfl, Nat.le_of_ble_eq_true rfl, Nat.le_of_ble_eq_true rfl, fun h => nomatch h⟩
theorem mp_109 : (parseMethodDescriptor ym_109.desc).map (fun d => d.parameters.length) = some 1 := by decide +kernel
theorem mi_109 : Cond.instanceMethod ym_109 ∈ im_g := im_gm (List.mem_of_getElem? (i := 822) (by decide +kernel)) (by decide +kernel)
theorem ms_109 : Cond.selects ym_109.cls ym_109 ym_109 ∈ im_g := im_gm (List.mem_of_getElem? (i := 823) (by decide +kernel)) (by decide +kernel)
def ym_110 : MethodName := ⟨"FencedModulesModel", "load", "(I)Z"⟩
def fm_110 : im_F := (8, false, false, some .boolean, cm_110, 4)
set_option maxRecDepth 30000 in
theorem mf_110 : im_mf ym_110 2 fm_110 := ⟨by decide +kernel, im_gm (List.mem_of_getElem? (i := 840) rfl) rfl, im_gm (List.mem_of_getElem? (i := 48) (by decide +kernel)) (by decide +kernel), ⟨by decide +kernel, by decide +kernel⟩, rfl, Nat.le_of_ble_eq_true rfl, Nat.le_of_ble_eq_true rfl, fun h => nomatch h⟩
theorem mp_110 : (parseMethodDescriptor ym_110.desc).map (fun d => d.parameters.length) = some 1 := by decide +kernel
theorem mi_110 : Cond.instanceMethod ym_110 ∈ im_g := im_gm (List.mem_of_getElem? (i := 838) (by decide +kernel)) (by decide +kernel)
theorem ms_110 : Cond.selects ym_110.cls ym_110 ym_110 ∈ im_g := im_gm (List.mem_of_getElem? (i := 839) (by decide +kernel)) (by decide +kernel)
def ym_111 : MethodName := ⟨"FencedModulesModel", "feed", "(II)Z"⟩
def fm_111 : im_F := (8, false, false, some .boolean, cm_111, 3)
set_option maxRecDepth 30000 in
theorem mf_111 : im_mf ym_111 3 fm_111 := ⟨by decide +kernel, im_gm (List.mem_of_getElem? (i := 845) rfl) rfl, im_gm (List.mem_of_getElem? (i := 48) (by decide +kernel)) (by decide +kernel), ⟨by decide +kernel, by decide +kernel⟩, rfl, Nat.le_of_ble_eq_true rfl, Nat.le_of_ble_eq_true rfl, fun h => nomatch h⟩
theorem mp_111 : (parseMethodDescriptor ym_111.desc).map (fun d => d.parameters.length) = some 2 := by decide +kernel
theorem mi_111 : Cond.instanceMethod ym_111 ∈ im_g := im_gm (List.mem_of_getElem? (i := 843) (by decide +kernel)) (by decide +kernel)
theorem ms_111 : Cond.selects ym_111.cls ym_111 ym_111 ∈ im_g := im_gm (List.mem_of_getElem? (i := 844) (by decide +kernel)) (by decide +kernel)
def ym_112 : MethodName := ⟨"FencedModulesModel", "put", "(II)V"⟩
def fm_112 : im_F := (8, false, false, none, cm_112, 3)
set_option maxRecDepth 30000 in
theorem mf_112 : im_mf ym_112 3 fm_112 := ⟨by decide +kernel, im_gm (List.mem_of_getElem? (i := 869) rfl) rfl, im_gm (List.mem_of_getElem? (i := 48) (by decide +kernel)) (by decide +kernel), ⟨by decide +kernel, by decide +kernel⟩, rfl, Nat.le_of_ble_eq_true rfl, Nat.le_of_ble_eq_true rfl, fun h => nomatch h⟩
theorem mp_112 : (parseMethodDescriptor ym_112.desc).map (fun d => d.parameters.length) = some 2 := by decide +kernel
theorem mi_112 : Cond.instanceMethod ym_112 ∈ im_g := im_gm (List.mem_of_getElem? (i := 868) (by decide +kernel)) (by decide +kernel)
theorem ms_112 : Cond.selects ym_112.cls ym_112 ym_112 ∈ im_g := im_gm (List.mem_of_getElem? (i := 33) (by decide +kernel)) (by decide +kernel)
def ym_113 : MethodName := ⟨"FencedModulesModel", "note", "(IIII)V"⟩
def fm_113 : im_F := (8, false, false, none, cm_113, 6)
set_option maxRecDepth 30000 in
theorem mf_113 : im_mf ym_113 5 fm_113 := ⟨by decide +kernel, im_gm (List.mem_of_getElem? (i := 861) rfl) rfl, im_gm (List.mem_of_getElem? (i := 48) (by decide +kernel)) (by decide +kernel), ⟨by decide +kernel, by decide +kernel⟩, rfl, Nat.le_of_ble_eq_true rfl, Nat.le_of_ble_eq_true rfl, fun h => nomatch h⟩
theorem mp_113 : (parseMethodDescriptor ym_113.desc).map (fun d => d.parameters.length) = some 4 := by decide +kernel
theorem mi_113 : Cond.instanceMethod ym_113 ∈ im_g := im_gm (List.mem_of_getElem? (i := 860) (by decide +kernel)) (by decide +kernel)
theorem ms_113 : Cond.selects ym_113.cls ym_113 ym_113 ∈ im_g := im_gm (List.mem_of_getElem? (i := 31) (by decide +kernel)) (by decide +kernel)
def ym_114 : MethodName := ⟨"FencedModulesModel", "host", "(II)V"⟩
def fm_114 : im_F := (8, false, false, none, cm_114, 7)
set_option maxRecDepth 30000 in
theorem mf_114 : im_mf ym_114 3 fm_114 := ⟨by decide +kernel, im_gm (List.mem_of_getElem? (i := 865) rfl) rfl, im_gm (List.mem_of_getElem? (i := 48) (by decide +kernel)) (by decide +kernel), ⟨by decide +kernel, by decide +kernel⟩, rfl, Nat.le_of_ble_eq_true rfl, Nat.le_of_ble_eq_true rfl, fun h => nomatch h⟩
theorem mp_114 : (parseMethodDescriptor ym_114.desc).map (fun d => d.parameters.length) = some 2 := by decide +kernel
theorem mi_114 : Cond.instanceMethod ym_114 ∈ im_g := im_gm (List.mem_of_getElem? (i := 864) (by decide +kernel)) (by decide +kernel)
theorem ms_114 : Cond.selects ym_114.cls ym_114 ym_114 ∈ im_g := im_gm (List.mem_of_getElem? (i := 32) (by decide +kernel)) (by decide +kernel)
def ym_115 : MethodName := ⟨"FencedModulesModel", "prints", "(II)Z"⟩
def fm_115 : im_F := (8, false, false, some .boolean, cm_115, 2)
set_option maxRecDepth 30000 in
theorem mf_115 : im_mf ym_115 2 fm_115 := ⟨by decide +kernel, im_gm (List.mem_of_getElem? (i := 872) rfl) rfl, im_gm (List.mem_of_getElem? (i := 48) (by decide +kernel)) (by decide +kernel), ⟨by decide +kernel, by decide +kernel⟩, rfl, Nat.le_of_ble_eq_true rfl, Nat.le_of_ble_eq_true rfl, fun h => nomatch h⟩
theorem mp_115 : (parseMethodDescriptor ym_115.desc).map (fun d => d.parameters.length) = some 2 := by decide +kernel
theorem mi_115 : Cond.static ym_115 ∈ im_g := im_gm (List.mem_of_getElem? (i := 871) (by decide +kernel)) (by decide +kernel)
def ym_116 : MethodName := ⟨"FencedModulesModel", "step", "(I)V"⟩
def fm_116 : im_F := (8, false, false, none, cm_116, 8)
set_option maxRecDepth 30000 in
theorem mf_116 : im_mf ym_116 2 fm_116 := ⟨by decide +kernel, im_gm (List.mem_of_getElem? (i := 857) rfl) rfl, im_gm (List.mem_of_getElem? (i := 48) (by decide +kernel)) (by decide +kernel), ⟨by decide +kernel, by decide +kernel⟩, rfl, Nat.le_of_ble_eq_true rfl, Nat.le_of_ble_eq_true rfl, fun h => nomatch h⟩
theorem mp_116 : (parseMethodDescriptor ym_116.desc).map (fun d => d.parameters.length) = some 1 := by decide +kernel
theorem mi_116 : Cond.instanceMethod ym_116 ∈ im_g := im_gm (List.mem_of_getElem? (i := 856) (by decide +kernel)) (by decide +kernel)
theorem ms_116 : Cond.selects ym_116.cls ym_116 ym_116 ∈ im_g := im_gm (List.mem_of_getElem? (i := 30) (by decide +kernel)) (by decide +kernel)
def ym_117 : MethodName := ⟨"FencedModulesModel", "goes", "(III)Z"⟩
def fm_117 : im_F := (8, false, false, some .boolean, cm_117, 3)
set_option maxRecDepth 30000 in
theorem mf_117 : im_mf ym_117 3 fm_117 := ⟨by decide +kernel, im_gm (List.mem_of_getElem? (i := 875) rfl) rfl, im_gm (List.mem_of_getElem? (i := 48) (by decide +kernel)) (by decide +kernel), ⟨by decide +kernel, by decide +kernel⟩, rfl, Nat.le_of_ble_eq_true rfl, Nat.le_of_ble_eq_true rfl, fun h => nomatch h⟩
theorem mp_117 : (parseMethodDescriptor ym_117.desc).map (fun d => d.parameters.length) = some 3 := by decide +kernel
theorem mi_117 : Cond.static ym_117 ∈ im_g := im_gm (List.mem_of_getElem? (i := 874) (by decide +kernel)) (by decide +kernel)
def ym_118 : MethodName := ⟨"FencedModulesModel", "value", "(IIII)I"⟩
def fm_118 : im_F := (8, false, false, some .int, cm_118, 4)
set_option maxRecDepth 30000 in
theorem mf_118 : im_mf ym_118 4 fm_118 := ⟨by decide +kernel, im_gm (List.mem_of_getElem? (i := 878) rfl) rfl, im_gm (List.mem_of_getElem? (i := 48) (by decide +kernel)) (by decide +kernel), ⟨by decide +kernel, by decide +kernel⟩, rfl, Nat.le_of_ble_eq_true rfl, Nat.le_of_ble_eq_true rfl, fun h => nomatch h⟩
theorem mp_118 : (parseMethodDescriptor ym_118.desc).map (fun d => d.parameters.length) = some 4 := by decide +kernel
theorem mi_118 : Cond.static ym_118 ∈ im_g := im_gm (List.mem_of_getElem? (i := 877) (by decide +kernel)) (by decide +kernel)
def ym_119 : MethodName := ⟨"FencedModulesModel", "pass", "()V"⟩
def fm_119 : im_F := (8, false, false, none, cm_119, 1)
set_option maxRecDepth 30000 in
theorem mf_119 : im_mf ym_119 1 fm_119 := ⟨by decide +kernel, im_gm (List.mem_of_getElem? (i := 853) rfl) rfl, im_gm (List.mem_of_getElem? (i := 48) (by decide +kernel)) (by decide +kernel), ⟨by decide +kernel, by decide +kernel⟩, rfl, Nat.le_of_ble_eq_true rfl, Nat.le_of_ble_eq_true rfl, fun h => nomatch h⟩
theorem mp_119 : (parseMethodDescriptor ym_119.desc).map (fun d => d.parameters.length) = some 0 := by decide +kernel
theorem mi_119 : Cond.instanceMethod ym_119 ∈ im_g := im_gm (List.mem_of_getElem? (i := 852) (by decide +kernel)) (by decide +kernel)
theorem ms_119 : Cond.selects ym_119.cls ym_119 ym_119 ∈ im_g := im_gm (List.mem_of_getElem? (i := 29) (by decide +kernel)) (by decide +kernel)
def ym_120 : MethodName := ⟨"FencedModulesModel", "run", "(I)I"⟩
def fm_120 : im_F := (8, false, false, some .int, cm_120, 4)
set_option maxRecDepth 30000 in
theorem mf_120 : im_mf ym_120 2 fm_120 := ⟨by decide +kernel, im_gm (List.mem_of_getElem? (i := 849) rfl) rfl, im_gm (List.mem_of_getElem? (i := 48) (by decide +kernel)) (by decide +kernel), ⟨by decide +kernel, by decide +kernel⟩, rfl, Nat.le_of_ble_eq_true rfl, Nat.le_of_ble_eq_true rfl, fun h => nomatch h⟩
theorem mp_120 : (parseMethodDescriptor ym_120.desc).map (fun d => d.parameters.length) = some 1 := by decide +kernel
theorem mi_120 : Cond.instanceMethod ym_120 ∈ im_g := im_gm (List.mem_of_getElem? (i := 847) (by decide +kernel)) (by decide +kernel)
theorem ms_120 : Cond.selects ym_120.cls ym_120 ym_120 ∈ im_g := im_gm (List.mem_of_getElem? (i := 848) (by decide +kernel)) (by decide +kernel)
def ym_121 : MethodName := ⟨"FencedModulesModel", "anyNamed", "(II)Z"⟩
def fm_121 : im_F := (8, false, false, some .boolean, cm_121, 5)
set_option maxRecDepth 30000 in
theorem mf_121 : im_mf ym_121 3 fm_121 := ⟨by decide +kernel, im_gm (List.mem_of_getElem? (i := 898) rfl) rfl, im_gm (List.mem_of_getElem? (i := 48) (by decide +kernel)) (by decide +kernel), ⟨by decide +kernel, by decide +kernel⟩, rfl, Nat.le_of_ble_eq_true rfl, Nat.le_of_ble_eq_true rfl, fun h => nomatch h⟩
theorem mp_121 : (parseMethodDescriptor ym_121.desc).map (fun d => d.parameters.length) = some 2 := by decide +kernel
theorem mi_121 : Cond.instanceMethod ym_121 ∈ im_g := im_gm (List.mem_of_getElem? (i := 897) (by decide +kernel)) (by decide +kernel)
theorem ms_121 : Cond.selects ym_121.cls ym_121 ym_121 ∈ im_g := im_gm (List.mem_of_getElem? (i := 37) (by decide +kernel)) (by decide +kernel)
def ym_122 : MethodName := ⟨"FencedModulesModel", "become", "(IIZ)V"⟩
def fm_122 : im_F := (8, false, false, none, cm_122, 4)
set_option maxRecDepth 30000 in
theorem mf_122 : im_mf ym_122 4 fm_122 := ⟨by decide +kernel, im_gm (List.mem_of_getElem? (i := 886) rfl) rfl, im_gm (List.mem_of_getElem? (i := 48) (by decide +kernel)) (by decide +kernel), ⟨by decide +kernel, by decide +kernel⟩, rfl, Nat.le_of_ble_eq_true rfl, Nat.le_of_ble_eq_true rfl, fun h => nomatch h⟩
theorem mp_122 : (parseMethodDescriptor ym_122.desc).map (fun d => d.parameters.length) = some 3 := by decide +kernel
theorem mi_122 : Cond.instanceMethod ym_122 ∈ im_g := im_gm (List.mem_of_getElem? (i := 885) (by decide +kernel)) (by decide +kernel)
theorem ms_122 : Cond.selects ym_122.cls ym_122 ym_122 ∈ im_g := im_gm (List.mem_of_getElem? (i := 34) (by decide +kernel)) (by decide +kernel)
def ym_123 : MethodName := ⟨"FencedModulesModel", "follow", "(II)I"⟩
def fm_123 : im_F := (8, false, false, some .int, cm_123, 5)
set_option maxRecDepth 30000 in
theorem mf_123 : im_mf ym_123 3 fm_123 := ⟨by decide +kernel, im_gm (List.mem_of_getElem? (i := 882) rfl) rfl, im_gm (List.mem_of_getElem? (i := 48) (by decide +kernel)) (by decide +kernel), ⟨by decide +kernel, by decide +kernel⟩, rfl, Nat.le_of_ble_eq_true rfl, Nat.le_of_ble_eq_true rfl, fun h => nomatch h⟩
theorem mp_123 : (parseMethodDescriptor ym_123.desc).map (fun d => d.parameters.length) = some 2 := by decide +kernel
theorem mi_123 : Cond.instanceMethod ym_123 ∈ im_g := im_gm (List.mem_of_getElem? (i := 880) (by decide +kernel)) (by decide +kernel)
theorem ms_123 : Cond.selects ym_123.cls ym_123 ym_123 ∈ im_g := im_gm (List.mem_of_getElem? (i := 881) (by decide +kernel)) (by decide +kernel)
def ym_124 : MethodName := ⟨"FencedModulesModel", "along", "(I)I"⟩
def fm_124 : im_F := (8, false, false, some .int, cm_124, 8)
set_option maxRecDepth 30000 in
theorem mf_124 : im_mf ym_124 2 fm_124 := ⟨by decide +kernel, im_gm (List.mem_of_getElem? (i := 890) rfl) rfl, im_gm (List.mem_of_getElem? (i := 48) (by decide +kernel)) (by decide +kernel), ⟨by decide +kernel, by decide +kernel⟩, rfl, Nat.le_of_ble_eq_true rfl, Nat.le_of_ble_eq_true rfl, fun h => nomatch h⟩
theorem mp_124 : (parseMethodDescriptor ym_124.desc).map (fun d => d.parameters.length) = some 1 := by decide +kernel
theorem mi_124 : Cond.instanceMethod ym_124 ∈ im_g := im_gm (List.mem_of_getElem? (i := 889) (by decide +kernel)) (by decide +kernel)
theorem ms_124 : Cond.selects ym_124.cls ym_124 ym_124 ∈ im_g := im_gm (List.mem_of_getElem? (i := 35) (by decide +kernel)) (by decide +kernel)
def ym_125 : MethodName := ⟨"FencedModulesModel", "ask", "(II)I"⟩
def fm_125 : im_F := (8, false, false, some .int, cm_125, 9)
set_option maxRecDepth 30000 in
theorem mf_125 : im_mf ym_125 3 fm_125 := ⟨by decide +kernel, im_gm (List.mem_of_getElem? (i := 894) rfl) rfl, im_gm (List.mem_of_getElem? (i := 48) (by decide +kernel)) (by decide +kernel), ⟨by decide +kernel, by decide +kernel⟩, rfl, Nat.le_of_ble_eq_true rfl, Nat.le_of_ble_eq_true rfl, fun h => nomatch h⟩
theorem mp_125 : (parseMethodDescriptor ym_125.desc).map (fun d => d.parameters.length) = some 2 := by decide +kernel
theorem mi_125 : Cond.instanceMethod ym_125 ∈ im_g := im_gm (List.mem_of_getElem? (i := 893) (by decide +kernel)) (by decide +kernel)
theorem ms_125 : Cond.selects ym_125.cls ym_125 ym_125 ∈ im_g := im_gm (List.mem_of_getElem? (i := 36) (by decide +kernel)) (by decide +kernel)
def ym_126 : MethodName := ⟨"FencedModulesModel", "state", "(I)I"⟩
def fm_126 : im_F := (8, false, false, some .int, cm_126, 2)
set_option maxRecDepth 30000 in
theorem mf_126 : im_mf ym_126 2 fm_126 := ⟨by decide +kernel, im_gm (List.mem_of_getElem? (i := 902) rfl) rfl, im_gm (List.mem_of_getElem? (i := 48) (by decide +kernel)) (by decide +kernel), ⟨by decide +kernel, by decide +kernel⟩, rfl, Nat.le_of_ble_eq_true rfl, Nat.le_of_ble_eq_true rfl, fun h => nomatch h⟩
theorem mp_126 : (parseMethodDescriptor ym_126.desc).map (fun d => d.parameters.length) = some 1 := by decide +kernel
theorem mi_126 : Cond.instanceMethod ym_126 ∈ im_g := im_gm (List.mem_of_getElem? (i := 900) (by decide +kernel)) (by decide +kernel)
theorem ms_126 : Cond.selects ym_126.cls ym_126 ym_126 ∈ im_g := im_gm (List.mem_of_getElem? (i := 901) (by decide +kernel)) (by decide +kernel)
def ym_127 : MethodName := ⟨"FencedModulesModel", "pc", "(I)I"⟩
def fm_127 : im_F := (8, false, false, some .int, cm_127, 2)
set_option maxRecDepth 30000 in
theorem mf_127 : im_mf ym_127 2 fm_127 := ⟨by decide +kernel, im_gm (List.mem_of_getElem? (i := 906) rfl) rfl, im_gm (List.mem_of_getElem? (i := 48) (by decide +kernel)) (by decide +kernel), ⟨by decide +kernel, by decide +kernel⟩, rfl, Nat.le_of_ble_eq_true rfl, Nat.le_of_ble_eq_true rfl, fun h => nomatch h⟩
theorem mp_127 : (parseMethodDescriptor ym_127.desc).map (fun d => d.parameters.length) = some 1 := by decide +kernel
theorem mi_127 : Cond.instanceMethod ym_127 ∈ im_g := im_gm (List.mem_of_getElem? (i := 904) (by decide +kernel)) (by decide +kernel)
theorem ms_127 : Cond.selects ym_127.cls ym_127 ym_127 ∈ im_g := im_gm (List.mem_of_getElem? (i := 905) (by decide +kernel)) (by decide +kernel)
def ym_128 : MethodName := ⟨"FencedModulesModel", "register", "(II)I"⟩
def fm_128 : im_F := (8, false, false, some .int, cm_128, 3)
set_option maxRecDepth 30000 in
theorem mf_128 : im_mf ym_128 3 fm_128 := ⟨by decide +kernel, im_gm (List.mem_of_getElem? (i := 910) rfl) rfl, im_gm (List.mem_of_getElem? (i := 48) (by decide +kernel)) (by decide +kernel), ⟨by decide +kernel, by decide +kernel⟩, rfl, Nat.le_of_ble_eq_true rfl, Nat.le_of_ble_eq_true rfl, fun h => nomatch h⟩
theorem mp_128 : (parseMethodDescriptor ym_128.desc).map (fun d => d.parameters.length) = some 2 := by decide +kernel
theorem mi_128 : Cond.instanceMethod ym_128 ∈ im_g := im_gm (List.mem_of_getElem? (i := 908) (by decide +kernel)) (by decide +kernel)
theorem ms_128 : Cond.selects ym_128.cls ym_128 ym_128 ∈ im_g := im_gm (List.mem_of_getElem? (i := 909) (by decide +kernel)) (by decide +kernel)
def ym_129 : MethodName := ⟨"FencedModulesModel", "peek", "(I)I"⟩
def fm_129 : im_F := (8, false, false, some .int, cm_129, 2)
set_option maxRecDepth 30000 in
theorem mf_129 : im_mf ym_129 2 fm_129 := ⟨by decide +kernel, im_gm (List.mem_of_getElem? (i := 914) rfl) rfl, im_gm (List.mem_of_getElem? (i := 48) (by decide +kernel)) (by decide +kernel), ⟨by decide +kernel, by decide +kernel⟩, rfl, Nat.le_of_ble_eq_true rfl, Nat.le_of_ble_eq_true rfl, fun h => nomatch h⟩
theorem mp_129 : (parseMethodDescriptor ym_129.desc).map (fun d => d.parameters.length) = some 1 := by decide +kernel
theorem mi_129 : Cond.instanceMethod ym_129 ∈ im_g := im_gm (List.mem_of_getElem? (i := 912) (by decide +kernel)) (by decide +kernel)
theorem ms_129 : Cond.selects ym_129.cls ym_129 ym_129 ∈ im_g := im_gm (List.mem_of_getElem? (i := 913) (by decide +kernel)) (by decide +kernel)
def ym_130 : MethodName := ⟨"FencedModulesModel", "output", "(II)I"⟩
def fm_130 : im_F := (8, false, false, some .int, cm_130, 3)
set_option maxRecDepth 30000 in
theorem mf_130 : im_mf ym_130 3 fm_130 := ⟨by decide +kernel, im_gm (List.mem_of_getElem? (i := 918) rfl) rfl, im_gm (List.mem_of_getElem? (i := 48) (by decide +kernel)) (by decide +kernel), ⟨by decide +kernel, by decide +kernel⟩, rfl, Nat.le_of_ble_eq_true rfl, Nat.le_of_ble_eq_true rfl, fun h => nomatch h⟩
theorem mp_130 : (parseMethodDescriptor ym_130.desc).map (fun d => d.parameters.length) = some 2 := by decide +kernel
theorem mi_130 : Cond.instanceMethod ym_130 ∈ im_g := im_gm (List.mem_of_getElem? (i := 916) (by decide +kernel)) (by decide +kernel)
theorem ms_130 : Cond.selects ym_130.cls ym_130 ym_130 ∈ im_g := im_gm (List.mem_of_getElem? (i := 917) (by decide +kernel)) (by decide +kernel)
def ym_131 : MethodName := ⟨"FencedModulesModel", "call", "(III)I"⟩
def fm_131 : im_F := (8, false, false, some .int, cm_131, 4)
set_option maxRecDepth 30000 in
theorem mf_131 : im_mf ym_131 4 fm_131 := ⟨by decide +kernel, im_gm (List.mem_of_getElem? (i := 922) rfl) rfl, im_gm (List.mem_of_getElem? (i := 48) (by decide +kernel)) (by decide +kernel), ⟨by decide +kernel, by decide +kernel⟩, rfl, Nat.le_of_ble_eq_true rfl, Nat.le_of_ble_eq_true rfl, fun h => nomatch h⟩
theorem mp_131 : (parseMethodDescriptor ym_131.desc).map (fun d => d.parameters.length) = some 3 := by decide +kernel
theorem mi_131 : Cond.instanceMethod ym_131 ∈ im_g := im_gm (List.mem_of_getElem? (i := 920) (by decide +kernel)) (by decide +kernel)
theorem ms_131 : Cond.selects ym_131.cls ym_131 ym_131 ∈ im_g := im_gm (List.mem_of_getElem? (i := 921) (by decide +kernel)) (by decide +kernel)
def ym_132 : MethodName := ⟨"FencedModulesModel", "trace", "(II)I"⟩
def fm_132 : im_F := (8, false, false, some .int, cm_132, 3)
set_option maxRecDepth 30000 in
theorem mf_132 : im_mf ym_132 3 fm_132 := ⟨by decide +kernel, im_gm (List.mem_of_getElem? (i := 926) rfl) rfl, im_gm (List.mem_of_getElem? (i := 48) (by decide +kernel)) (by decide +kernel), ⟨by decide +kernel, by decide +kernel⟩, rfl, Nat.le_of_ble_eq_true rfl, Nat.le_of_ble_eq_true rfl, fun h => nomatch h⟩
theorem mp_132 : (parseMethodDescriptor ym_132.desc).map (fun d => d.parameters.length) = some 2 := by decide +kernel
theorem mi_132 : Cond.instanceMethod ym_132 ∈ im_g := im_gm (List.mem_of_getElem? (i := 924) (by decide +kernel)) (by decide +kernel)
theorem ms_132 : Cond.selects ym_132.cls ym_132 ym_132 ∈ im_g := im_gm (List.mem_of_getElem? (i := 925) (by decide +kernel)) (by decide +kernel)
def ym_133 : MethodName := ⟨"FencedModules$Rewriter", "translate", "(LFencedModules$Source;ILFencedModules$Code;)V"⟩
def fm_133 : im_F := (9, false, false, none, cm_133, 4)
set_option maxRecDepth 30000 in
theorem mf_133 : im_mf ym_133 3 fm_133 := ⟨by decide +kernel, im_gm (List.mem_of_getElem? (i := 329) rfl) rfl, im_gm (List.mem_of_getElem? (i := 49) (by decide +kernel)) (by decide +kernel), ⟨by decide +kernel, by decide +kernel⟩, rfl, Nat.le_of_ble_eq_true rfl, Nat.le_of_ble_eq_true rfl, fun h => nomatch h⟩
theorem mp_133 : (parseMethodDescriptor ym_133.desc).map (fun d => d.parameters.length) = some 3 := by decide +kernel
theorem mi_133 : Cond.static ym_133 ∈ im_g := im_gm (List.mem_of_getElem? (i := 328) (by decide +kernel)) (by decide +kernel)
def ym_134 : MethodName := ⟨"FencedModules$Rewriter", "translateLine", "(LFencedModules$Source;IILFencedModules$Code;)V"⟩
def fm_134 : im_F := (9, false, false, none, cm_134, 8)
set_option maxRecDepth 30000 in
theorem mf_134 : im_mf ym_134 4 fm_134 := ⟨by decide +kernel, im_gm (List.mem_of_getElem? (i := 337) rfl) rfl, im_gm (List.mem_of_getElem? (i := 49) (by decide +kernel)) (by decide +kernel), ⟨by decide +kernel, by decide +kernel⟩, rfl, Nat.le_of_ble_eq_true rfl, Nat.le_of_ble_eq_true rfl, fun h => nomatch h⟩
theorem mp_134 : (parseMethodDescriptor ym_134.desc).map (fun d => d.parameters.length) = some 4 := by decide +kernel
theorem mi_134 : Cond.static ym_134 ∈ im_g := im_gm (List.mem_of_getElem? (i := 336) (by decide +kernel)) (by decide +kernel)
def ym_135 : MethodName := ⟨"FencedModules$Rewriter", "addFence", "(LFencedModules$Code;IIII)V"⟩
def fm_135 : im_F := (9, false, false, none, cm_135, 5)
set_option maxRecDepth 30000 in
theorem mf_135 : im_mf ym_135 5 fm_135 := ⟨by decide +kernel, im_gm (List.mem_of_getElem? (i := 354) rfl) rfl, im_gm (List.mem_of_getElem? (i := 49) (by decide +kernel)) (by decide +kernel), ⟨by decide +kernel, by decide +kernel⟩, rfl, Nat.le_of_ble_eq_true rfl, Nat.le_of_ble_eq_true rfl, fun h => nomatch h⟩
theorem mp_135 : (parseMethodDescriptor ym_135.desc).map (fun d => d.parameters.length) = some 5 := by decide +kernel
theorem mi_135 : Cond.static ym_135 ∈ im_g := im_gm (List.mem_of_getElem? (i := 353) (by decide +kernel)) (by decide +kernel)
def ym_136 : MethodName := ⟨"FencedModules$Rewriter", "targetOf", "(LFencedModules$Source;I)I"⟩
def fm_136 : im_F := (9, false, false, some .int, cm_136, 2)
set_option maxRecDepth 30000 in
theorem mf_136 : im_mf ym_136 2 fm_136 := ⟨by decide +kernel, im_gm (List.mem_of_getElem? (i := 360) rfl) rfl, im_gm (List.mem_of_getElem? (i := 49) (by decide +kernel)) (by decide +kernel), ⟨by decide +kernel, by decide +kernel⟩, rfl, Nat.le_of_ble_eq_true rfl, Nat.le_of_ble_eq_true rfl, fun h => nomatch h⟩
theorem mp_136 : (parseMethodDescriptor ym_136.desc).map (fun d => d.parameters.length) = some 2 := by decide +kernel
theorem mi_136 : Cond.static ym_136 ∈ im_g := im_gm (List.mem_of_getElem? (i := 359) (by decide +kernel)) (by decide +kernel)
def ym_137 : MethodName := ⟨"FencedModules$Rewriter", "distance", "(LFencedModules$Source;ILFencedModules$Code;)I"⟩
def fm_137 : im_F := (9, false, false, some .int, cm_137, 3)
set_option maxRecDepth 30000 in
theorem mf_137 : im_mf ym_137 3 fm_137 := ⟨by decide +kernel, im_gm (List.mem_of_getElem? (i := 368) rfl) rfl, im_gm (List.mem_of_getElem? (i := 49) (by decide +kernel)) (by decide +kernel), ⟨by decide +kernel, by decide +kernel⟩, rfl, Nat.le_of_ble_eq_true rfl, Nat.le_of_ble_eq_true rfl, fun h => nomatch h⟩
theorem mp_137 : (parseMethodDescriptor ym_137.desc).map (fun d => d.parameters.length) = some 3 := by decide +kernel
theorem mi_137 : Cond.static ym_137 ∈ im_g := im_gm (List.mem_of_getElem? (i := 367) (by decide +kernel)) (by decide +kernel)
def ym_138 : MethodName := ⟨"FencedModules$Rewriter", "withoutUnusedFields", "(IIII)I"⟩
def fm_138 : im_F := (9, false, false, some .int, cm_138, 4)
set_option maxRecDepth 30000 in
theorem mf_138 : im_mf ym_138 4 fm_138 := ⟨by decide +kernel, im_gm (List.mem_of_getElem? (i := 375) rfl) rfl, im_gm (List.mem_of_getElem? (i := 49) (by decide +kernel)) (by decide +kernel), ⟨by decide +kernel, by decide +kernel⟩, rfl, Nat.le_of_ble_eq_true rfl, Nat.le_of_ble_eq_true rfl, fun h => nomatch h⟩
theorem mp_138 : (parseMethodDescriptor ym_138.desc).map (fun d => d.parameters.length) = some 4 := by decide +kernel
theorem mi_138 : Cond.static ym_138 ∈ im_g := im_gm (List.mem_of_getElem? (i := 374) (by decide +kernel)) (by decide +kernel)
def ym_139 : MethodName := ⟨"FencedModules$Verifier", "firstUnsafe", "(LFencedModules$Code;I)I"⟩
def fm_139 : im_F := (10, false, false, some .int, cm_139, 3)
set_option maxRecDepth 30000 in
theorem mf_139 : im_mf ym_139 2 fm_139 := ⟨by decide +kernel, im_gm (List.mem_of_getElem? (i := 396) rfl) rfl, im_gm (List.mem_of_getElem? (i := 51) (by decide +kernel)) (by decide +kernel), ⟨by decide +kernel, by decide +kernel⟩, rfl, Nat.le_of_ble_eq_true rfl, Nat.le_of_ble_eq_true rfl, fun h => nomatch h⟩
theorem mp_139 : (parseMethodDescriptor ym_139.desc).map (fun d => d.parameters.length) = some 2 := by decide +kernel
theorem mi_139 : Cond.static ym_139 ∈ im_g := im_gm (List.mem_of_getElem? (i := 395) (by decide +kernel)) (by decide +kernel)
def ym_140 : MethodName := ⟨"FencedModules$Verifier", "isSafe", "(LFencedModules$Code;I)Z"⟩
def fm_140 : im_F := (10, false, false, some .boolean, cm_140, 4)
set_option maxRecDepth 30000 in
theorem mf_140 : im_mf ym_140 2 fm_140 := ⟨by decide +kernel, im_gm (List.mem_of_getElem? (i := 400) rfl) rfl, im_gm (List.mem_of_getElem? (i := 51) (by decide +kernel)) (by decide +kernel), ⟨by decide +kernel, by decide +kernel⟩, rfl, Nat.le_of_ble_eq_true rfl, Nat.le_of_ble_eq_true rfl, fun h => nomatch h⟩
theorem mp_140 : (parseMethodDescriptor ym_140.desc).map (fun d => d.parameters.length) = some 2 := by decide +kernel
theorem mi_140 : Cond.static ym_140 ∈ im_g := im_gm (List.mem_of_getElem? (i := 399) (by decide +kernel)) (by decide +kernel)
def ym_141 : MethodName := ⟨"FencedModules$Verifier", "keepsFences", "(LFencedModules$Code;II)Z"⟩
def fm_141 : im_F := (10, false, false, some .boolean, cm_141, 5)
set_option maxRecDepth 30000 in
theorem mf_141 : im_mf ym_141 3 fm_141 := ⟨by decide +kernel, im_gm (List.mem_of_getElem? (i := 417) rfl) rfl, im_gm (List.mem_of_getElem? (i := 51) (by decide +kernel)) (by decide +kernel), ⟨by decide +kernel, by decide +kernel⟩, rfl, Nat.le_of_ble_eq_true rfl, Nat.le_of_ble_eq_true rfl, fun h => nomatch h⟩
theorem mp_141 : (parseMethodDescriptor ym_141.desc).map (fun d => d.parameters.length) = some 3 := by decide +kernel
theorem mi_141 : Cond.static ym_141 ∈ im_g := im_gm (List.mem_of_getElem? (i := 416) (by decide +kernel)) (by decide +kernel)
def ym_142 : MethodName := ⟨"FencedModules$Verifier", "isFenced", "(LFencedModules$Code;III)Z"⟩
def fm_142 : im_F := (10, false, false, some .boolean, cm_142, 7)
set_option maxRecDepth 30000 in
theorem mf_142 : im_mf ym_142 4 fm_142 := ⟨by decide +kernel, im_gm (List.mem_of_getElem? (i := 421) rfl) rfl, im_gm (List.mem_of_getElem? (i := 51) (by decide +kernel)) (by decide +kernel), ⟨by decide +kernel, by decide +kernel⟩, rfl, Nat.le_of_ble_eq_true rfl, Nat.le_of_ble_eq_true rfl, fun h => nomatch h⟩
theorem mp_142 : (parseMethodDescriptor ym_142.desc).map (fun d => d.parameters.length) = some 4 := by decide +kernel
theorem mi_142 : Cond.static ym_142 ∈ im_g := im_gm (List.mem_of_getElem? (i := 420) (by decide +kernel)) (by decide +kernel)
def ym_143 : MethodName := ⟨"FencedModules$Words", "opOf", "(I)I"⟩
def fm_143 : im_F := (11, false, false, some .int, cm_143, 1)
set_option maxRecDepth 30000 in
theorem mf_143 : im_mf ym_143 1 fm_143 := ⟨by decide +kernel, im_gm (List.mem_of_getElem? (i := 407) rfl) rfl, im_gm (List.mem_of_getElem? (i := 50) (by decide +kernel)) (by decide +kernel), ⟨by decide +kernel, by decide +kernel⟩, rfl, Nat.le_of_ble_eq_true rfl, Nat.le_of_ble_eq_true rfl, fun h => nomatch h⟩
theorem mp_143 : (parseMethodDescriptor ym_143.desc).map (fun d => d.parameters.length) = some 1 := by decide +kernel
theorem mi_143 : Cond.static ym_143 ∈ im_g := im_gm (List.mem_of_getElem? (i := 406) (by decide +kernel)) (by decide +kernel)
def ym_144 : MethodName := ⟨"FencedModules$Words", "aOf", "(I)I"⟩
def fm_144 : im_F := (11, false, false, some .int, cm_144, 1)
set_option maxRecDepth 30000 in
theorem mf_144 : im_mf ym_144 1 fm_144 := ⟨by decide +kernel, im_gm (List.mem_of_getElem? (i := 413) rfl) rfl, im_gm (List.mem_of_getElem? (i := 50) (by decide +kernel)) (by decide +kernel), ⟨by decide +kernel, by decide +kernel⟩, rfl, Nat.le_of_ble_eq_true rfl, Nat.le_of_ble_eq_true rfl, fun h => nomatch h⟩
theorem mp_144 : (parseMethodDescriptor ym_144.desc).map (fun d => d.parameters.length) = some 1 := by decide +kernel
theorem mi_144 : Cond.static ym_144 ∈ im_g := im_gm (List.mem_of_getElem? (i := 412) (by decide +kernel)) (by decide +kernel)
def ym_145 : MethodName := ⟨"FencedModules$Words", "bOf", "(I)I"⟩
def fm_145 : im_F := (11, false, false, some .int, cm_145, 1)
set_option maxRecDepth 30000 in
theorem mf_145 : im_mf ym_145 1 fm_145 := ⟨by decide +kernel, im_gm (List.mem_of_getElem? (i := 410) rfl) rfl, im_gm (List.mem_of_getElem? (i := 50) (by decide +kernel)) (by decide +kernel), ⟨by decide +kernel, by decide +kernel⟩, rfl, Nat.le_of_ble_eq_true rfl, Nat.le_of_ble_eq_true rfl, fun h => nomatch h⟩
theorem mp_145 : (parseMethodDescriptor ym_145.desc).map (fun d => d.parameters.length) = some 1 := by decide +kernel
theorem mi_145 : Cond.static ym_145 ∈ im_g := im_gm (List.mem_of_getElem? (i := 409) (by decide +kernel)) (by decide +kernel)
def ym_146 : MethodName := ⟨"FencedModules$Words", "iOf", "(I)I"⟩
def fm_146 : im_F := (11, false, false, some .int, cm_146, 1)
set_option maxRecDepth 30000 in
theorem mf_146 : im_mf ym_146 1 fm_146 := ⟨by decide +kernel, im_gm (List.mem_of_getElem? (i := 404) rfl) rfl, im_gm (List.mem_of_getElem? (i := 50) (by decide +kernel)) (by decide +kernel), ⟨by decide +kernel, by decide +kernel⟩, rfl, Nat.le_of_ble_eq_true rfl, Nat.le_of_ble_eq_true rfl, fun h => nomatch h⟩
theorem mp_146 : (parseMethodDescriptor ym_146.desc).map (fun d => d.parameters.length) = some 1 := by decide +kernel
theorem mi_146 : Cond.static ym_146 ∈ im_g := im_gm (List.mem_of_getElem? (i := 403) (by decide +kernel)) (by decide +kernel)
def ym_147 : MethodName := ⟨"FencedModules$Words", "join", "(IIII)I"⟩
def fm_147 : im_F := (11, false, false, some .int, cm_147, 4)
set_option maxRecDepth 30000 in
theorem mf_147 : im_mf ym_147 4 fm_147 := ⟨by decide +kernel, im_gm (List.mem_of_getElem? (i := 344) rfl) rfl, im_gm (List.mem_of_getElem? (i := 50) (by decide +kernel)) (by decide +kernel), ⟨by decide +kernel, by decide +kernel⟩, rfl, Nat.le_of_ble_eq_true rfl, Nat.le_of_ble_eq_true rfl, fun h => nomatch h⟩
theorem mp_147 : (parseMethodDescriptor ym_147.desc).map (fun d => d.parameters.length) = some 4 := by decide +kernel
theorem mi_147 : Cond.static ym_147 ∈ im_g := im_gm (List.mem_of_getElem? (i := 343) (by decide +kernel)) (by decide +kernel)
def ym_148 : MethodName := ⟨"FencedModules$Words", "result", "(IIII)I"⟩
def fm_148 : im_F := (11, false, false, some .int, cm_148, 4)
set_option maxRecDepth 30000 in
theorem mf_148 : im_mf ym_148 4 fm_148 := ⟨by decide +kernel, im_gm (List.mem_of_getElem? (i := 554) rfl) rfl, im_gm (List.mem_of_getElem? (i := 50) (by decide +kernel)) (by decide +kernel), ⟨by decide +kernel, by decide +kernel⟩, rfl, Nat.le_of_ble_eq_true rfl, Nat.le_of_ble_eq_true rfl, fun h => nomatch h⟩
theorem mp_148 : (parseMethodDescriptor ym_148.desc).map (fun d => d.parameters.length) = some 4 := by decide +kernel
theorem mi_148 : Cond.static ym_148 ∈ im_g := im_gm (List.mem_of_getElem? (i := 553) (by decide +kernel)) (by decide +kernel)
def ym_149 : MethodName := ⟨"FencedModules$Words", "branches", "(III)Z"⟩
def fm_149 : im_F := (11, false, false, some .boolean, cm_149, 3)
set_option maxRecDepth 30000 in
theorem mf_149 : im_mf ym_149 3 fm_149 := ⟨by decide +kernel, im_gm (List.mem_of_getElem? (i := 501) rfl) rfl, im_gm (List.mem_of_getElem? (i := 50) (by decide +kernel)) (by decide +kernel), ⟨by decide +kernel, by decide +kernel⟩, rfl, Nat.le_of_ble_eq_true rfl, Nat.le_of_ble_eq_true rfl, fun h => nomatch h⟩
theorem mp_149 : (parseMethodDescriptor ym_149.desc).map (fun d => d.parameters.length) = some 3 := by decide +kernel
theorem mi_149 : Cond.static ym_149 ∈ im_g := im_gm (List.mem_of_getElem? (i := 500) (by decide +kernel)) (by decide +kernel)
def ym_150 : MethodName := ⟨"java/util/Arrays", "fill", "([II)V"⟩
def fm_150 : im_F := (12, false, false, none, cm_150, 4)
set_option maxRecDepth 30000 in
theorem mf_150 : im_mf ym_150 2 fm_150 := ⟨by decide +kernel, im_gm (List.mem_of_getElem? (i := 68) rfl) rfl, im_gm (List.mem_of_getElem? (i := 41) (by decide +kernel)) (by decide +kernel), ⟨by decide +kernel, by decide +kernel⟩, rfl, Nat.le_of_ble_eq_true rfl, Nat.le_of_ble_eq_true rfl, fun h => nomatch h⟩
theorem mp_150 : (parseMethodDescriptor ym_150.desc).map (fun d => d.parameters.length) = some 2 := by decide +kernel
theorem mi_150 : Cond.static ym_150 ∈ im_g := im_gm (List.mem_of_getElem? (i := 67) (by decide +kernel)) (by decide +kernel)
theorem mo_i : Cond.instanceMethod objectInit ∈ im_g := im_gm (List.mem_of_getElem? (i := 58) (by decide +kernel)) (by decide +kernel)
set_option maxRecDepth 30000 in
theorem mo_c : Cond.code objectInit ⟨#[0xb1]⟩ 1 none ∈ im_g := im_gm (List.mem_of_getElem? (i := 59) rfl) rfl
theorem ma_I : Cond.arrayClass .int ∈ im_g := im_gm (List.mem_of_getElem? (i := 88) (by decide +kernel)) (by decide +kernel)
theorem ma_Z : Cond.arrayClass .boolean ∈ im_g := im_gm (List.mem_of_getElem? (i := 764) (by decide +kernel)) (by decide +kernel)
theorem ml_0_1 : Cond.methodLink (nm_R 0) 1 objectInit ∈ im_g := im_gm (List.mem_of_getElem? (i := 126) (by decide +kernel)) (by decide +kernel)
theorem ml_1_1 : Cond.methodLink (nm_R 1) 1 objectInit ∈ im_g := im_gm (List.mem_of_getElem? (i := 94) (by decide +kernel)) (by decide +kernel)
theorem ml_2_1 : Cond.methodLink (nm_R 2) 1 objectInit ∈ im_g := im_gm (List.mem_of_getElem? (i := 120) (by decide +kernel)) (by decide +kernel)
theorem ml_2_9 : Cond.methodLink (nm_R 2) 9 ym_0 ∈ im_g ∨ ∃ host, (nm_R 2, 9, ym_0, host) ∈ im_nest := Or.inr ⟨"FencedModules", by decide +kernel⟩
theorem ml_2_18 : Cond.methodLink (nm_R 2) 18 ym_1 ∈ im_g := im_gm (List.mem_of_getElem? (i := 455) (by decide +kernel)) (by decide +kernel)
theorem ml_2_28 : Cond.methodLink (nm_R 2) 28 ym_11 ∈ im_g := im_gm (List.mem_of_getElem? (i := 510) (by decide +kernel)) (by decide +kernel)
theorem ml_2_32 : Cond.methodLink (nm_R 2) 32 ym_2 ∈ im_g := im_gm (List.mem_of_getElem? (i := 513) (by decide +kernel)) (by decide +kernel)
theorem ml_3_7 : Cond.methodLink (nm_R 3) 7 objectInit ∈ im_g := im_gm (List.mem_of_getElem? (i := 214) (by decide +kernel)) (by decide +kernel)
theorem ml_3_15 : Cond.methodLink (nm_R 3) 15 ym_9 ∈ im_g ∨ ∃ host, (nm_R 3, 15, ym_9, host) ∈ im_nest := Or.inr ⟨"FencedModules", by decide +kernel⟩
theorem ml_3_27 : Cond.methodLink (nm_R 3) 27 ym_13 ∈ im_g := im_gm (List.mem_of_getElem? (i := 600) (by decide +kernel)) (by decide +kernel)
theorem ml_3_30 : Cond.methodLink (nm_R 3) 30 ym_150 ∈ im_g := im_gm (List.mem_of_getElem? (i := 601) (by decide +kernel)) (by decide +kernel)
theorem ml_3_40 : Cond.methodLink (nm_R 3) 40 ym_19 ∈ im_g := im_gm (List.mem_of_getElem? (i := 602) (by decide +kernel)) (by decide +kernel)
theorem ml_3_44 : Cond.methodLink (nm_R 3) 44 ym_25 ∈ im_g := im_gm (List.mem_of_getElem? (i := 631) (by decide +kernel)) (by decide +kernel)
theorem ml_3_48 : Cond.methodLink (nm_R 3) 48 ym_61 ∈ im_g := im_gm (List.mem_of_getElem? (i := 606) (by decide +kernel)) (by decide +kernel)
theorem ml_3_52 : Cond.methodLink (nm_R 3) 52 ym_62 ∈ im_g := im_gm (List.mem_of_getElem? (i := 607) (by decide +kernel)) (by decide +kernel)
theorem ml_3_55 : Cond.methodLink (nm_R 3) 55 ym_63 ∈ im_g := im_gm (List.mem_of_getElem? (i := 608) (by decide +kernel)) (by decide +kernel)
theorem ml_3_58 : Cond.methodLink (nm_R 3) 58 ym_64 ∈ im_g := im_gm (List.mem_of_getElem? (i := 609) (by decide +kernel)) (by decide +kernel)
theorem ml_3_61 : Cond.methodLink (nm_R 3) 61 ym_20 ∈ im_g := im_gm (List.mem_of_getElem? (i := 610) (by decide +kernel)) (by decide +kernel)
theorem ml_3_67 : Cond.methodLink (nm_R 3) 67 ym_23 ∈ im_g := im_gm (List.mem_of_getElem? (i := 614) (by decide +kernel)) (by decide +kernel)
theorem ml_3_71 : Cond.methodLink (nm_R 3) 71 ym_24 ∈ im_g := im_gm (List.mem_of_getElem? (i := 628) (by decide +kernel)) (by decide +kernel)
theorem ml_3_74 : Cond.methodLink (nm_R 3) 74 ym_21 ∈ im_g := im_gm (List.mem_of_getElem? (i := 618) (by decide +kernel)) (by decide +kernel)
theorem ml_3_77 : Cond.methodLink (nm_R 3) 77 ym_11 ∈ im_g := im_gm (List.mem_of_getElem? (i := 622) (by decide +kernel)) (by decide +kernel)
theorem ml_3_80 : Cond.methodLink (nm_R 3) 80 ym_22 ∈ im_g := im_gm (List.mem_of_getElem? (i := 623) (by decide +kernel)) (by decide +kernel)
theorem ml_3_84 : Cond.methodLink (nm_R 3) 84 ym_12 ∈ im_g := im_gm (List.mem_of_getElem? (i := 627) (by decide +kernel)) (by decide +kernel)
theorem ml_3_87 : Cond.methodLink (nm_R 3) 87 ym_26 ∈ im_g := im_gm (List.mem_of_getElem? (i := 635) (by decide +kernel)) (by decide +kernel)
theorem ml_3_91 : Cond.methodLink (nm_R 3) 91 ym_149 ∈ im_g := im_gm (List.mem_of_getElem? (i := 639) (by decide +kernel)) (by decide +kernel)
theorem ml_3_95 : Cond.methodLink (nm_R 3) 95 ym_66 ∈ im_g := im_gm (List.mem_of_getElem? (i := 640) (by decide +kernel)) (by decide +kernel)
theorem ml_3_98 : Cond.methodLink (nm_R 3) 98 ym_29 ∈ im_g := im_gm (List.mem_of_getElem? (i := 641) (by decide +kernel)) (by decide +kernel)
theorem ml_3_102 : Cond.methodLink (nm_R 3) 102 ym_28 ∈ im_g := im_gm (List.mem_of_getElem? (i := 652) (by decide +kernel)) (by decide +kernel)
theorem ml_3_106 : Cond.methodLink (nm_R 3) 106 ym_148 ∈ im_g := im_gm (List.mem_of_getElem? (i := 656) (by decide +kernel)) (by decide +kernel)
theorem ml_3_110 : Cond.methodLink (nm_R 3) 110 ym_27 ∈ im_g := im_gm (List.mem_of_getElem? (i := 646) (by decide +kernel)) (by decide +kernel)
theorem ml_3_113 : Cond.methodLink (nm_R 3) 113 ym_14 ∈ im_g := im_gm (List.mem_of_getElem? (i := 645) (by decide +kernel)) (by decide +kernel)
theorem ml_3_117 : Cond.methodLink (nm_R 3) 117 ym_16 ∈ im_g := im_gm (List.mem_of_getElem? (i := 650) (by decide +kernel)) (by decide +kernel)
theorem ml_3_121 : Cond.methodLink (nm_R 3) 121 ym_15 ∈ im_g := im_gm (List.mem_of_getElem? (i := 651) (by decide +kernel)) (by decide +kernel)
theorem ml_4_1 : Cond.methodLink (nm_R 4) 1 objectInit ∈ im_g := im_gm (List.mem_of_getElem? (i := 107) (by decide +kernel)) (by decide +kernel)
theorem ml_4_19 : Cond.methodLink (nm_R 4) 19 ym_44 ∈ im_g ∨ ∃ host, (nm_R 4, 19, ym_44, host) ∈ im_nest := Or.inl (im_gm (List.mem_of_getElem? (i := 111) (by decide +kernel)) (by decide +kernel))
theorem ml_4_22 : Cond.methodLink (nm_R 4) 22 ym_45 ∈ im_g := im_gm (List.mem_of_getElem? (i := 436) (by decide +kernel)) (by decide +kernel)
theorem ml_4_26 : Cond.methodLink (nm_R 4) 26 ym_31 ∈ im_g := im_gm (List.mem_of_getElem? (i := 432) (by decide +kernel)) (by decide +kernel)
theorem ml_4_30 : Cond.methodLink (nm_R 4) 30 ym_47 ∈ im_g := im_gm (List.mem_of_getElem? (i := 437) (by decide +kernel)) (by decide +kernel)
theorem ml_4_34 : Cond.methodLink (nm_R 4) 34 ym_8 ∈ im_g := im_gm (List.mem_of_getElem? (i := 438) (by decide +kernel)) (by decide +kernel)
theorem ml_4_39 : Cond.methodLink (nm_R 4) 39 ym_33 ∈ im_g := im_gm (List.mem_of_getElem? (i := 439) (by decide +kernel)) (by decide +kernel)
theorem ml_4_43 : Cond.methodLink (nm_R 4) 43 ym_46 ∈ im_g := im_gm (List.mem_of_getElem? (i := 443) (by decide +kernel)) (by decide +kernel)
theorem ml_4_46 : Cond.methodLink (nm_R 4) 46 ym_48 ∈ im_g := im_gm (List.mem_of_getElem? (i := 444) (by decide +kernel)) (by decide +kernel)
theorem ml_4_56 : Cond.methodLink (nm_R 4) 56 ym_36 ∈ im_g := im_gm (List.mem_of_getElem? (i := 476) (by decide +kernel)) (by decide +kernel)
theorem ml_4_60 : Cond.methodLink (nm_R 4) 60 ym_40 ∈ im_g := im_gm (List.mem_of_getElem? (i := 487) (by decide +kernel)) (by decide +kernel)
theorem ml_4_64 : Cond.methodLink (nm_R 4) 64 ym_37 ∈ im_g := im_gm (List.mem_of_getElem? (i := 555) (by decide +kernel)) (by decide +kernel)
theorem ml_4_70 : Cond.methodLink (nm_R 4) 70 ym_38 ∈ im_g := im_gm (List.mem_of_getElem? (i := 480) (by decide +kernel)) (by decide +kernel)
theorem ml_4_73 : Cond.methodLink (nm_R 4) 73 ym_39 ∈ im_g := im_gm (List.mem_of_getElem? (i := 484) (by decide +kernel)) (by decide +kernel)
theorem ml_4_79 : Cond.methodLink (nm_R 4) 79 ym_32 ∈ im_g := im_gm (List.mem_of_getElem? (i := 491) (by decide +kernel)) (by decide +kernel)
theorem ml_4_82 : Cond.methodLink (nm_R 4) 82 ym_143 ∈ im_g := im_gm (List.mem_of_getElem? (i := 495) (by decide +kernel)) (by decide +kernel)
theorem ml_4_87 : Cond.methodLink (nm_R 4) 87 ym_144 ∈ im_g := im_gm (List.mem_of_getElem? (i := 496) (by decide +kernel)) (by decide +kernel)
theorem ml_4_90 : Cond.methodLink (nm_R 4) 90 ym_145 ∈ im_g := im_gm (List.mem_of_getElem? (i := 497) (by decide +kernel)) (by decide +kernel)
theorem ml_4_93 : Cond.methodLink (nm_R 4) 93 ym_146 ∈ im_g := im_gm (List.mem_of_getElem? (i := 498) (by decide +kernel)) (by decide +kernel)
theorem ml_4_99 : Cond.methodLink (nm_R 4) 99 ym_149 ∈ im_g := im_gm (List.mem_of_getElem? (i := 499) (by decide +kernel)) (by decide +kernel)
theorem ml_4_103 : Cond.methodLink (nm_R 4) 103 ym_41 ∈ im_g := im_gm (List.mem_of_getElem? (i := 502) (by decide +kernel)) (by decide +kernel)
theorem ml_4_107 : Cond.methodLink (nm_R 4) 107 ym_49 ∈ im_g := im_gm (List.mem_of_getElem? (i := 517) (by decide +kernel)) (by decide +kernel)
theorem ml_4_110 : Cond.methodLink (nm_R 4) 110 ym_148 ∈ im_g := im_gm (List.mem_of_getElem? (i := 552) (by decide +kernel)) (by decide +kernel)
theorem ml_4_118 : Cond.methodLink (nm_R 4) 118 ym_14 ∈ im_g := im_gm (List.mem_of_getElem? (i := 506) (by decide +kernel)) (by decide +kernel)
theorem ml_4_124 : Cond.methodLink (nm_R 4) 124 ym_53 ∈ im_g := im_gm (List.mem_of_getElem? (i := 521) (by decide +kernel)) (by decide +kernel)
theorem ml_4_127 : Cond.methodLink (nm_R 4) 127 ym_16 ∈ im_g := im_gm (List.mem_of_getElem? (i := 525) (by decide +kernel)) (by decide +kernel)
theorem ml_4_131 : Cond.methodLink (nm_R 4) 131 ym_15 ∈ im_g := im_gm (List.mem_of_getElem? (i := 529) (by decide +kernel)) (by decide +kernel)
theorem ml_4_134 : Cond.methodLink (nm_R 4) 134 ym_42 ∈ im_g := im_gm (List.mem_of_getElem? (i := 533) (by decide +kernel)) (by decide +kernel)
theorem ml_4_138 : Cond.methodLink (nm_R 4) 138 ym_43 ∈ im_g := im_gm (List.mem_of_getElem? (i := 540) (by decide +kernel)) (by decide +kernel)
theorem ml_4_142 : Cond.methodLink (nm_R 4) 142 ym_52 ∈ im_g := im_gm (List.mem_of_getElem? (i := 548) (by decide +kernel)) (by decide +kernel)
theorem ml_4_146 : Cond.methodLink (nm_R 4) 146 ym_12 ∈ im_g := im_gm (List.mem_of_getElem? (i := 537) (by decide +kernel)) (by decide +kernel)
theorem ml_4_153 : Cond.methodLink (nm_R 4) 153 ym_51 ∈ im_g := im_gm (List.mem_of_getElem? (i := 544) (by decide +kernel)) (by decide +kernel)
theorem ml_5_1 : Cond.methodLink (nm_R 5) 1 objectInit ∈ im_g := im_gm (List.mem_of_getElem? (i := 114) (by decide +kernel)) (by decide +kernel)
theorem ml_5_18 : Cond.methodLink (nm_R 5) 18 ym_9 ∈ im_g ∨ ∃ host, (nm_R 5, 18, ym_9, host) ∈ im_nest := Or.inr ⟨"FencedModules", by decide +kernel⟩
theorem ml_5_33 : Cond.methodLink (nm_R 5) 33 ym_150 ∈ im_g := im_gm (List.mem_of_getElem? (i := 448) (by decide +kernel)) (by decide +kernel)
theorem ml_5_39 : Cond.methodLink (nm_R 5) 39 ym_46 ∈ im_g := im_gm (List.mem_of_getElem? (i := 449) (by decide +kernel)) (by decide +kernel)
theorem ml_5_43 : Cond.methodLink (nm_R 5) 43 ym_47 ∈ im_g := im_gm (List.mem_of_getElem? (i := 450) (by decide +kernel)) (by decide +kernel)
theorem ml_5_61 : Cond.methodLink (nm_R 5) 61 ym_13 ∈ im_g := im_gm (List.mem_of_getElem? (i := 451) (by decide +kernel)) (by decide +kernel)
theorem ml_6_1 : Cond.methodLink (nm_R 6) 1 objectInit ∈ im_g := im_gm (List.mem_of_getElem? (i := 65) (by decide +kernel)) (by decide +kernel)
theorem ml_6_25 : Cond.methodLink (nm_R 6) 25 ym_150 ∈ im_g := im_gm (List.mem_of_getElem? (i := 66) (by decide +kernel)) (by decide +kernel)
theorem ml_6_39 : Cond.methodLink (nm_R 6) 39 ym_60 ∈ im_g := im_gm (List.mem_of_getElem? (i := 293) (by decide +kernel)) (by decide +kernel)
theorem ml_6_43 : Cond.methodLink (nm_R 6) 43 ym_65 ∈ im_g := im_gm (List.mem_of_getElem? (i := 313) (by decide +kernel)) (by decide +kernel)
theorem ml_6_46 : Cond.methodLink (nm_R 6) 46 ym_70 ∈ im_g := im_gm (List.mem_of_getElem? (i := 285) (by decide +kernel)) (by decide +kernel)
theorem ml_6_49 : Cond.methodLink (nm_R 6) 49 ym_71 ∈ im_g := im_gm (List.mem_of_getElem? (i := 305) (by decide +kernel)) (by decide +kernel)
theorem ml_6_52 : Cond.methodLink (nm_R 6) 52 ym_68 ∈ im_g := im_gm (List.mem_of_getElem? (i := 320) (by decide +kernel)) (by decide +kernel)
theorem ml_6_58 : Cond.methodLink (nm_R 6) 58 ym_69 ∈ im_g := im_gm (List.mem_of_getElem? (i := 324) (by decide +kernel)) (by decide +kernel)
theorem ml_6_61 : Cond.methodLink (nm_R 6) 61 ym_61 ∈ im_g := im_gm (List.mem_of_getElem? (i := 289) (by decide +kernel)) (by decide +kernel)
theorem ml_6_64 : Cond.methodLink (nm_R 6) 64 ym_62 ∈ im_g := im_gm (List.mem_of_getElem? (i := 297) (by decide +kernel)) (by decide +kernel)
theorem ml_6_67 : Cond.methodLink (nm_R 6) 67 ym_63 ∈ im_g := im_gm (List.mem_of_getElem? (i := 301) (by decide +kernel)) (by decide +kernel)
theorem ml_6_70 : Cond.methodLink (nm_R 6) 70 ym_64 ∈ im_g := im_gm (List.mem_of_getElem? (i := 309) (by decide +kernel)) (by decide +kernel)
theorem ml_6_73 : Cond.methodLink (nm_R 6) 73 ym_10 ∈ im_g := im_gm (List.mem_of_getElem? (i := 317) (by decide +kernel)) (by decide +kernel)
theorem ml_7_1 : Cond.methodLink (nm_R 7) 1 objectInit ∈ im_g := im_gm (List.mem_of_getElem? (i := 57) (by decide +kernel)) (by decide +kernel)
theorem ml_7_9 : Cond.methodLink (nm_R 7) 9 ym_55 ∈ im_g ∨ ∃ host, (nm_R 7, 9, ym_55, host) ∈ im_nest := Or.inl (im_gm (List.mem_of_getElem? (i := 62) (by decide +kernel)) (by decide +kernel))
theorem ml_7_18 : Cond.methodLink (nm_R 7) 18 ym_4 ∈ im_g ∨ ∃ host, (nm_R 7, 18, ym_4, host) ∈ im_nest := Or.inr ⟨"FencedModules", by decide +kernel⟩
theorem ml_7_25 : Cond.methodLink (nm_R 7) 25 ym_30 ∈ im_g ∨ ∃ host, (nm_R 7, 25, ym_30, host) ∈ im_nest := Or.inl (im_gm (List.mem_of_getElem? (i := 104) (by decide +kernel)) (by decide +kernel))
theorem ml_7_32 : Cond.methodLink (nm_R 7) 32 ym_17 ∈ im_g ∨ ∃ host, (nm_R 7, 32, ym_17, host) ∈ im_nest := Or.inr ⟨"FencedModules", by decide +kernel⟩
theorem ml_7_37 : Cond.methodLink (nm_R 7) 37 ym_57 ∈ im_g := im_gm (List.mem_of_getElem? (i := 248) (by decide +kernel)) (by decide +kernel)
theorem ml_7_41 : Cond.methodLink (nm_R 7) 41 ym_58 ∈ im_g := im_gm (List.mem_of_getElem? (i := 258) (by decide +kernel)) (by decide +kernel)
theorem ml_7_45 : Cond.methodLink (nm_R 7) 45 ym_56 ∈ im_g := im_gm (List.mem_of_getElem? (i := 266) (by decide +kernel)) (by decide +kernel)
theorem ml_7_48 : Cond.methodLink (nm_R 7) 48 ym_5 ∈ im_g := im_gm (List.mem_of_getElem? (i := 270) (by decide +kernel)) (by decide +kernel)
theorem ml_7_49 : Cond.methodLink (nm_R 7) 49 ym_45 ∈ im_g := im_gm (List.mem_of_getElem? (i := 278) (by decide +kernel)) (by decide +kernel)
theorem ml_7_54 : Cond.methodLink (nm_R 7) 54 ym_67 ∈ im_g := im_gm (List.mem_of_getElem? (i := 281) (by decide +kernel)) (by decide +kernel)
theorem ml_7_58 : Cond.methodLink (nm_R 7) 58 ym_133 ∈ im_g := im_gm (List.mem_of_getElem? (i := 327) (by decide +kernel)) (by decide +kernel)
theorem ml_7_64 : Cond.methodLink (nm_R 7) 64 ym_7 ∈ im_g := im_gm (List.mem_of_getElem? (i := 376) (by decide +kernel)) (by decide +kernel)
theorem ml_7_68 : Cond.methodLink (nm_R 7) 68 ym_6 ∈ im_g := im_gm (List.mem_of_getElem? (i := 381) (by decide +kernel)) (by decide +kernel)
theorem ml_7_71 : Cond.methodLink (nm_R 7) 71 ym_8 ∈ im_g := im_gm (List.mem_of_getElem? (i := 386) (by decide +kernel)) (by decide +kernel)
theorem ml_7_75 : Cond.methodLink (nm_R 7) 75 ym_139 ∈ im_g := im_gm (List.mem_of_getElem? (i := 394) (by decide +kernel)) (by decide +kernel)
theorem ml_7_81 : Cond.methodLink (nm_R 7) 81 ym_34 ∈ im_g := im_gm (List.mem_of_getElem? (i := 428) (by decide +kernel)) (by decide +kernel)
theorem ml_7_85 : Cond.methodLink (nm_R 7) 85 ym_31 ∈ im_g := im_gm (List.mem_of_getElem? (i := 463) (by decide +kernel)) (by decide +kernel)
theorem ml_7_93 : Cond.methodLink (nm_R 7) 93 ym_50 ∈ im_g := im_gm (List.mem_of_getElem? (i := 464) (by decide +kernel)) (by decide +kernel)
theorem ml_7_96 : Cond.methodLink (nm_R 7) 96 ym_35 ∈ im_g := im_gm (List.mem_of_getElem? (i := 472) (by decide +kernel)) (by decide +kernel)
theorem ml_7_106 : Cond.methodLink (nm_R 7) 106 ym_32 ∈ im_g := im_gm (List.mem_of_getElem? (i := 575) (by decide +kernel)) (by decide +kernel)
theorem ml_7_109 : Cond.methodLink (nm_R 7) 109 ym_54 ∈ im_g := im_gm (List.mem_of_getElem? (i := 580) (by decide +kernel)) (by decide +kernel)
theorem ml_7_122 : Cond.methodLink (nm_R 7) 122 ym_3 ∈ im_g := im_gm (List.mem_of_getElem? (i := 588) (by decide +kernel)) (by decide +kernel)
theorem ml_7_128 : Cond.methodLink (nm_R 7) 128 ym_18 ∈ im_g := im_gm (List.mem_of_getElem? (i := 596) (by decide +kernel)) (by decide +kernel)
theorem ml_8_1 : Cond.methodLink (nm_R 8) 1 objectInit ∈ im_g := im_gm (List.mem_of_getElem? (i := 666) (by decide +kernel)) (by decide +kernel)
theorem ml_8_83 : Cond.methodLink (nm_R 8) 83 ym_92 ∈ im_g := im_gm (List.mem_of_getElem? (i := 769) (by decide +kernel)) (by decide +kernel)
theorem ml_8_96 : Cond.methodLink (nm_R 8) 96 ym_97 ∈ im_g := im_gm (List.mem_of_getElem? (i := 790) (by decide +kernel)) (by decide +kernel)
theorem ml_8_100 : Cond.methodLink (nm_R 8) 100 ym_96 ∈ im_g := im_gm (List.mem_of_getElem? (i := 794) (by decide +kernel)) (by decide +kernel)
theorem ml_8_104 : Cond.methodLink (nm_R 8) 104 ym_98 ∈ im_g := im_gm (List.mem_of_getElem? (i := 786) (by decide +kernel)) (by decide +kernel)
theorem ml_8_108 : Cond.methodLink (nm_R 8) 108 ym_103 ∈ im_g := im_gm (List.mem_of_getElem? (i := 798) (by decide +kernel)) (by decide +kernel)
theorem ml_8_112 : Cond.methodLink (nm_R 8) 112 ym_100 ∈ im_g := im_gm (List.mem_of_getElem? (i := 805) (by decide +kernel)) (by decide +kernel)
theorem ml_8_116 : Cond.methodLink (nm_R 8) 116 ym_99 ∈ im_g := im_gm (List.mem_of_getElem? (i := 802) (by decide +kernel)) (by decide +kernel)
theorem ml_8_120 : Cond.methodLink (nm_R 8) 120 ym_101 ∈ im_g := im_gm (List.mem_of_getElem? (i := 809) (by decide +kernel)) (by decide +kernel)
theorem ml_8_123 : Cond.methodLink (nm_R 8) 123 ym_106 ∈ im_g := im_gm (List.mem_of_getElem? (i := 833) (by decide +kernel)) (by decide +kernel)
theorem ml_8_127 : Cond.methodLink (nm_R 8) 127 ym_107 ∈ im_g := im_gm (List.mem_of_getElem? (i := 829) (by decide +kernel)) (by decide +kernel)
theorem ml_8_131 : Cond.methodLink (nm_R 8) 131 ym_108 ∈ im_g := im_gm (List.mem_of_getElem? (i := 825) (by decide +kernel)) (by decide +kernel)
theorem ml_8_135 : Cond.methodLink (nm_R 8) 135 ym_109 ∈ im_g := im_gm (List.mem_of_getElem? (i := 841) (by decide +kernel)) (by decide +kernel)
theorem ml_8_144 : Cond.methodLink (nm_R 8) 144 ym_113 ∈ im_g := im_gm (List.mem_of_getElem? (i := 858) (by decide +kernel)) (by decide +kernel)
theorem ml_8_148 : Cond.methodLink (nm_R 8) 148 ym_112 ∈ im_g := im_gm (List.mem_of_getElem? (i := 866) (by decide +kernel)) (by decide +kernel)
theorem ml_8_151 : Cond.methodLink (nm_R 8) 151 ym_115 ∈ im_g := im_gm (List.mem_of_getElem? (i := 870) (by decide +kernel)) (by decide +kernel)
theorem ml_8_154 : Cond.methodLink (nm_R 8) 154 ym_114 ∈ im_g := im_gm (List.mem_of_getElem? (i := 862) (by decide +kernel)) (by decide +kernel)
theorem ml_8_157 : Cond.methodLink (nm_R 8) 157 ym_117 ∈ im_g := im_gm (List.mem_of_getElem? (i := 873) (by decide +kernel)) (by decide +kernel)
theorem ml_8_160 : Cond.methodLink (nm_R 8) 160 ym_118 ∈ im_g := im_gm (List.mem_of_getElem? (i := 876) (by decide +kernel)) (by decide +kernel)
theorem ml_8_163 : Cond.methodLink (nm_R 8) 163 ym_119 ∈ im_g := im_gm (List.mem_of_getElem? (i := 850) (by decide +kernel)) (by decide +kernel)
theorem ml_8_166 : Cond.methodLink (nm_R 8) 166 ym_116 ∈ im_g := im_gm (List.mem_of_getElem? (i := 854) (by decide +kernel)) (by decide +kernel)
theorem ml_8_169 : Cond.methodLink (nm_R 8) 169 ym_122 ∈ im_g := im_gm (List.mem_of_getElem? (i := 883) (by decide +kernel)) (by decide +kernel)
theorem ml_8_185 : Cond.methodLink (nm_R 8) 185 ym_124 ∈ im_g := im_gm (List.mem_of_getElem? (i := 887) (by decide +kernel)) (by decide +kernel)
theorem ml_8_188 : Cond.methodLink (nm_R 8) 188 ym_125 ∈ im_g := im_gm (List.mem_of_getElem? (i := 891) (by decide +kernel)) (by decide +kernel)
theorem ml_8_192 : Cond.methodLink (nm_R 8) 192 ym_121 ∈ im_g := im_gm (List.mem_of_getElem? (i := 895) (by decide +kernel)) (by decide +kernel)
theorem ml_9_7 : Cond.methodLink (nm_R 9) 7 ym_5 ∈ im_g := im_gm (List.mem_of_getElem? (i := 330) (by decide +kernel)) (by decide +kernel)
theorem ml_9_12 : Cond.methodLink (nm_R 9) 12 ym_59 ∈ im_g := im_gm (List.mem_of_getElem? (i := 331) (by decide +kernel)) (by decide +kernel)
theorem ml_9_18 : Cond.methodLink (nm_R 9) 18 ym_134 ∈ im_g := im_gm (List.mem_of_getElem? (i := 335) (by decide +kernel)) (by decide +kernel)
theorem ml_9_26 : Cond.methodLink (nm_R 9) 26 ym_147 ∈ im_g := im_gm (List.mem_of_getElem? (i := 342) (by decide +kernel)) (by decide +kernel)
theorem ml_9_30 : Cond.methodLink (nm_R 9) 30 ym_6 ∈ im_g := im_gm (List.mem_of_getElem? (i := 345) (by decide +kernel)) (by decide +kernel)
theorem ml_9_34 : Cond.methodLink (nm_R 9) 34 ym_61 ∈ im_g := im_gm (List.mem_of_getElem? (i := 338) (by decide +kernel)) (by decide +kernel)
theorem ml_9_38 : Cond.methodLink (nm_R 9) 38 ym_62 ∈ im_g := im_gm (List.mem_of_getElem? (i := 339) (by decide +kernel)) (by decide +kernel)
theorem ml_9_41 : Cond.methodLink (nm_R 9) 41 ym_63 ∈ im_g := im_gm (List.mem_of_getElem? (i := 340) (by decide +kernel)) (by decide +kernel)
theorem ml_9_44 : Cond.methodLink (nm_R 9) 44 ym_64 ∈ im_g := im_gm (List.mem_of_getElem? (i := 341) (by decide +kernel)) (by decide +kernel)
theorem ml_9_49 : Cond.methodLink (nm_R 9) 49 ym_46 ∈ im_g := im_gm (List.mem_of_getElem? (i := 349) (by decide +kernel)) (by decide +kernel)
theorem ml_9_52 : Cond.methodLink (nm_R 9) 52 ym_135 ∈ im_g := im_gm (List.mem_of_getElem? (i := 352) (by decide +kernel)) (by decide +kernel)
theorem ml_9_56 : Cond.methodLink (nm_R 9) 56 ym_47 ∈ im_g := im_gm (List.mem_of_getElem? (i := 355) (by decide +kernel)) (by decide +kernel)
theorem ml_9_59 : Cond.methodLink (nm_R 9) 59 ym_136 ∈ im_g := im_gm (List.mem_of_getElem? (i := 358) (by decide +kernel)) (by decide +kernel)
theorem ml_9_63 : Cond.methodLink (nm_R 9) 63 ym_137 ∈ im_g := im_gm (List.mem_of_getElem? (i := 366) (by decide +kernel)) (by decide +kernel)
theorem ml_9_67 : Cond.methodLink (nm_R 9) 67 ym_138 ∈ im_g := im_gm (List.mem_of_getElem? (i := 373) (by decide +kernel)) (by decide +kernel)
theorem ml_9_70 : Cond.methodLink (nm_R 9) 70 ym_66 ∈ im_g := im_gm (List.mem_of_getElem? (i := 361) (by decide +kernel)) (by decide +kernel)
theorem ml_9_73 : Cond.methodLink (nm_R 9) 73 ym_68 ∈ im_g := im_gm (List.mem_of_getElem? (i := 365) (by decide +kernel)) (by decide +kernel)
theorem ml_9_76 : Cond.methodLink (nm_R 9) 76 ym_7 ∈ im_g := im_gm (List.mem_of_getElem? (i := 369) (by decide +kernel)) (by decide +kernel)
theorem ml_10_7 : Cond.methodLink (nm_R 10) 7 ym_7 ∈ im_g := im_gm (List.mem_of_getElem? (i := 397) (by decide +kernel)) (by decide +kernel)
theorem ml_10_13 : Cond.methodLink (nm_R 10) 13 ym_140 ∈ im_g := im_gm (List.mem_of_getElem? (i := 398) (by decide +kernel)) (by decide +kernel)
theorem ml_10_19 : Cond.methodLink (nm_R 10) 19 ym_141 ∈ im_g := im_gm (List.mem_of_getElem? (i := 415) (by decide +kernel)) (by decide +kernel)
theorem ml_10_23 : Cond.methodLink (nm_R 10) 23 ym_8 ∈ im_g := im_gm (List.mem_of_getElem? (i := 401) (by decide +kernel)) (by decide +kernel)
theorem ml_10_27 : Cond.methodLink (nm_R 10) 27 ym_146 ∈ im_g := im_gm (List.mem_of_getElem? (i := 402) (by decide +kernel)) (by decide +kernel)
theorem ml_10_32 : Cond.methodLink (nm_R 10) 32 ym_143 ∈ im_g := im_gm (List.mem_of_getElem? (i := 405) (by decide +kernel)) (by decide +kernel)
theorem ml_10_35 : Cond.methodLink (nm_R 10) 35 ym_145 ∈ im_g := im_gm (List.mem_of_getElem? (i := 408) (by decide +kernel)) (by decide +kernel)
theorem ml_10_40 : Cond.methodLink (nm_R 10) 40 ym_144 ∈ im_g := im_gm (List.mem_of_getElem? (i := 411) (by decide +kernel)) (by decide +kernel)
theorem ml_10_43 : Cond.methodLink (nm_R 10) 43 ym_10 ∈ im_g := im_gm (List.mem_of_getElem? (i := 414) (by decide +kernel)) (by decide +kernel)
theorem ml_10_49 : Cond.methodLink (nm_R 10) 49 ym_46 ∈ im_g := im_gm (List.mem_of_getElem? (i := 418) (by decide +kernel)) (by decide +kernel)
theorem ml_10_52 : Cond.methodLink (nm_R 10) 52 ym_142 ∈ im_g := im_gm (List.mem_of_getElem? (i := 419) (by decide +kernel)) (by decide +kernel)
theorem ml_10_56 : Cond.methodLink (nm_R 10) 56 ym_47 ∈ im_g := im_gm (List.mem_of_getElem? (i := 423) (by decide +kernel)) (by decide +kernel)
theorem ml_10_59 : Cond.methodLink (nm_R 10) 59 ym_147 ∈ im_g := im_gm (List.mem_of_getElem? (i := 422) (by decide +kernel)) (by decide +kernel)
theorem cl_2_7 : Cond.classLink (nm_R 2) 7 (nm_R 0) ∈ im_g := im_gm (List.mem_of_getElem? (i := 121) (by decide +kernel)) (by decide +kernel)
theorem cl_3_13 : Cond.classLink (nm_R 3) 13 (nm_R 2) ∈ im_g := im_gm (List.mem_of_getElem? (i := 215) (by decide +kernel)) (by decide +kernel)
theorem cl_4_13 : Cond.classLink (nm_R 4) 13 (nm_R 5) ∈ im_g := im_gm (List.mem_of_getElem? (i := 108) (by decide +kernel)) (by decide +kernel)
theorem cl_5_16 : Cond.classLink (nm_R 5) 16 (nm_R 2) ∈ im_g := im_gm (List.mem_of_getElem? (i := 115) (by decide +kernel)) (by decide +kernel)
theorem cl_7_7 : Cond.classLink (nm_R 7) 7 (nm_R 6) ∈ im_g := im_gm (List.mem_of_getElem? (i := 60) (by decide +kernel)) (by decide +kernel)
theorem cl_7_16 : Cond.classLink (nm_R 7) 16 (nm_R 1) ∈ im_g := im_gm (List.mem_of_getElem? (i := 89) (by decide +kernel)) (by decide +kernel)
theorem cl_7_23 : Cond.classLink (nm_R 7) 23 (nm_R 4) ∈ im_g := im_gm (List.mem_of_getElem? (i := 102) (by decide +kernel)) (by decide +kernel)
theorem cl_7_30 : Cond.classLink (nm_R 7) 30 (nm_R 3) ∈ im_g := im_gm (List.mem_of_getElem? (i := 209) (by decide +kernel)) (by decide +kernel)
theorem cn_0 : Cond.instantiable (nm_R 0) 4 ∈ im_g := im_gm (List.mem_of_getElem? (i := 122) (by decide +kernel)) (by decide +kernel)
theorem ci_0 : Cond.initialized (nm_R 0) ∈ im_g := im_gm (List.mem_of_getElem? (i := 46) (by decide +kernel)) (by decide +kernel)
theorem ct_0 : ∀ j, j < 4 → im_i 0 j = true ∨ im_r 0 j = true := by decide +kernel
theorem cn_1 : Cond.instantiable (nm_R 1) 2 ∈ im_g := im_gm (List.mem_of_getElem? (i := 90) (by decide +kernel)) (by decide +kernel)
theorem ci_1 : Cond.initialized (nm_R 1) ∈ im_g := im_gm (List.mem_of_getElem? (i := 42) (by decide +kernel)) (by decide +kernel)
theorem ct_1 : ∀ j, j < 2 → im_i 1 j = true ∨ im_r 1 j = true := by decide +kernel
theorem cn_2 : Cond.instantiable (nm_R 2) 3 ∈ im_g := im_gm (List.mem_of_getElem? (i := 116) (by decide +kernel)) (by decide +kernel)
theorem ci_2 : Cond.initialized (nm_R 2) ∈ im_g := im_gm (List.mem_of_getElem? (i := 45) (by decide +kernel)) (by decide +kernel)
theorem ct_2 : ∀ j, j < 3 → im_i 2 j = true ∨ im_r 2 j = true := by decide +kernel
theorem cn_3 : Cond.instantiable (nm_R 3) 4 ∈ im_g := im_gm (List.mem_of_getElem? (i := 210) (by decide +kernel)) (by decide +kernel)
theorem ci_3 : Cond.initialized (nm_R 3) ∈ im_g := im_gm (List.mem_of_getElem? (i := 47) (by decide +kernel)) (by decide +kernel)
theorem ct_3 : ∀ j, j < 4 → im_i 3 j = true ∨ im_r 3 j = true := by decide +kernel
theorem cn_4 : Cond.instantiable (nm_R 4) 4 ∈ im_g := im_gm (List.mem_of_getElem? (i := 103) (by decide +kernel)) (by decide +kernel)
theorem ci_4 : Cond.initialized (nm_R 4) ∈ im_g := im_gm (List.mem_of_getElem? (i := 43) (by decide +kernel)) (by decide +kernel)
theorem ct_4 : ∀ j, j < 4 → im_i 4 j = true ∨ im_r 4 j = true := by decide +kernel
theorem cn_5 : Cond.instantiable (nm_R 5) 11 ∈ im_g := im_gm (List.mem_of_getElem? (i := 110) (by decide +kernel)) (by decide +kernel)
theorem ci_5 : Cond.initialized (nm_R 5) ∈ im_g := im_gm (List.mem_of_getElem? (i := 44) (by decide +kernel)) (by decide +kernel)
theorem ct_5 : ∀ j, j < 11 → im_i 5 j = true ∨ im_r 5 j = true := by decide +kernel
theorem cn_6 : Cond.instantiable (nm_R 6) 6 ∈ im_g := im_gm (List.mem_of_getElem? (i := 61) (by decide +kernel)) (by decide +kernel)
theorem ci_6 : Cond.initialized (nm_R 6) ∈ im_g := im_gm (List.mem_of_getElem? (i := 40) (by decide +kernel)) (by decide +kernel)
theorem ct_6 : ∀ j, j < 6 → im_i 6 j = true ∨ im_r 6 j = true := by decide +kernel
theorem cn_7 : Cond.instantiable (nm_R 7) 4 ∈ im_g := im_gm (List.mem_of_getElem? (i := 53) (by decide +kernel)) (by decide +kernel)
theorem ci_7 : Cond.initialized (nm_R 7) ∈ im_g := im_gm (List.mem_of_getElem? (i := 39) (by decide +kernel)) (by decide +kernel)
theorem ct_7 : ∀ j, j < 4 → im_i 7 j = true ∨ im_r 7 j = true := by decide +kernel
theorem cn_8 : Cond.instantiable (nm_R 8) 32 ∈ im_g := im_gm (List.mem_of_getElem? (i := 662) (by decide +kernel)) (by decide +kernel)
theorem ci_8 : Cond.initialized (nm_R 8) ∈ im_g := im_gm (List.mem_of_getElem? (i := 48) (by decide +kernel)) (by decide +kernel)
theorem ct_8 : ∀ j, j < 32 → im_i 8 j = true ∨ im_r 8 j = true := by decide +kernel
theorem kc_6_37 : Cond.constant (nm_R 6) 37 (-2097152) ∈ im_g := im_gm (List.mem_of_getElem? (i := 252) (by decide +kernel)) (by decide +kernel)
theorem kc_6_38 : Cond.constant (nm_R 6) 38 (2097151) ∈ im_g := im_gm (List.mem_of_getElem? (i := 253) (by decide +kernel)) (by decide +kernel)
theorem kc_8_87 : Cond.constant (nm_R 8) 87 (-2097152) ∈ im_g := im_gm (List.mem_of_getElem? (i := 772) (by decide +kernel)) (by decide +kernel)
theorem kc_8_88 : Cond.constant (nm_R 8) 88 (2097151) ∈ im_g := im_gm (List.mem_of_getElem? (i := 773) (by decide +kernel)) (by decide +kernel)
end
section
theorem im_sb_n {lv : im_L} : im_sb lv [] := trivial
theorem im_sb_c {lv L : im_L} {i : Nat} {v : im_V} (h : lv.lookup i = some v) (k : im_sb lv L) : im_sb lv ((i, v) :: L) := ⟨h, k⟩
theorem im_lk3 {x : Int32} {a b c d : Int} (h1 : ¬ x = 8) (h2 : ¬ x = 9) (h3 : ¬ x = 13) : Op.lookupswitch.offset [(8, a), (9, b), (13, c)] d x.toInt = d := by
  have e1 : ¬ (8 : Int) = x.toInt := fun h => h1 (Int32.toInt_inj.mp h.symm)
  have e2 : ¬ (9 : Int) = x.toInt := fun h => h2 (Int32.toInt_inj.mp h.symm)
  have e3 : ¬ (13 : Int) = x.toInt := fun h => h3 (Int32.toInt_inj.mp h.symm)
  simp [Op.lookupswitch.offset, e1, e2, e3]
/-- FencedModules$CallList.empty()V -/
def fn_1 (j : Nat) (h : im_H) : Option (im_H) :=
  if h.2.1 j = (0, 0) then (let h2 : im_H := im_pI h j 3 (0 : Int32); some h2) else none
set_option maxRecDepth 100000 in
set_option maxHeartbeats 4000000 in
theorem tn_1 (j : Nat) (h : im_H) : im_Go im_zV 0 fm_1 0 (im_en 0 [.inr (some j)]) [] h (fn_1 j h) := by
  unfold fn_1
  refine x_aload_n dm_1_0 rfl ?_
  refine x_iconst (0) dm_1_1 (by decide) ?_
  refine im_chk _ (fun hk1 => ?_)
  refine x_putI dm_1_2 fl_0_19 rfl rfl hk1 ?_
  exact x_return dm_1_5 rfl
def fn_2_46 (j : Nat) (h : im_H) : Option (im_H) :=
  if h.2.1 j = (0, 0) then (let h2 : im_H := im_pI h j 3 ((im_gI h j 3) + (1 : Int32)); some h2) else none
set_option maxRecDepth 100000 in
set_option maxHeartbeats 4000000 in
theorem tn_2_46 (j : Nat) (h : im_H) : im_Go im_zV 0 fm_2 46 [(0, .inr (some j))] [] h (fn_2_46 j h) := by
  unfold fn_2_46
  refine x_aload_n dm_2_46 rfl ?_
  refine x_dup dm_2_47 ?_
  refine im_chk _ (fun hk1 => ?_)
  refine x_getI dm_2_48 fl_0_19 rfl rfl hk1 ?_
  refine x_iconst (1) dm_2_51 (by decide) ?_
  refine x_iadd dm_2_52 ?_
  refine x_putI dm_2_53 fl_0_19 rfl rfl hk1 ?_
  exact x_return dm_2_56 rfl
/-- FencedModules$CallList.note(III)V -/
def fn_2 (j : Nat) (x1 : Int32) (x2 : Int32) (x3 : Int32) (h : im_H) : Option (im_H) :=
  if h.2.1 j = (0, 0) then (if (im_gI h j 3) < 0 then (fn_2_46 j h) else (if (16 : Int32) ≤ (im_gI h j 3) then (fn_2_46 j h) else (((im_gR h j 0)).bind fun q4 => if im_in h 1 q4 (im_gI h j 3) then (let h6 : im_H := im_pI h q4 ((im_gI h j 3)).toNatClampNeg x1; ((im_gR h j 1)).bind fun q7 => if im_in h 1 q7 (im_gI h6 j 3) then (let h9 : im_H := im_pI h6 q7 ((im_gI h6 j 3)).toNatClampNeg x2; ((im_gR h j 2)).bind fun q10 => if im_in h 1 q10 (im_gI h9 j 3) then (let h12 : im_H := im_pI h9 q10 ((im_gI h9 j 3)).toNatClampNeg x3; fn_2_46 j h12) else none) else none) else none))) else none
set_option maxRecDepth 100000 in
set_option maxHeartbeats 4000000 in
theorem tn_2 (j : Nat) (x1 : Int32) (x2 : Int32) (x3 : Int32) (h : im_H) : im_Go im_zV 0 fm_2 0 (im_en 0 [.inr (some j), .inl x1, .inl x2, .inl x3]) [] h (fn_2 j x1 x2 x3 h) := by
  unfold fn_2
  refine x_aload_n dm_2_0 rfl ?_
  refine im_chk _ (fun hk1 => ?_)
  refine x_getI dm_2_1 fl_0_19 rfl rfl hk1 ?_
  refine x_if_lt 46 dm_2_4 rfl (fun c2 => ?_) (fun c2 => ?_)
  · exact im_lsub [(0, .inr (some j))] (im_sb_c rfl im_sb_n) (tn_2_46 j h)
  · refine x_aload_n dm_2_7 rfl ?_
    refine x_getI dm_2_8 fl_0_19 rfl rfl hk1 ?_
    refine x_bipush (16) dm_2_11 (by decide) ?_
    refine x_icmp_ge 46 dm_2_13 rfl (fun c3 => ?_) (fun c3 => ?_)
    · exact im_lsub [(0, .inr (some j))] (im_sb_c rfl im_sb_n) (tn_2_46 j h)
    · refine x_aload_n dm_2_16 rfl ?_
      refine x_getR dm_2_17 fl_0_9 rfl rfl hk1 ?_
      refine x_aload_n dm_2_20 rfl ?_
      refine x_getI dm_2_21 fl_0_19 rfl rfl hk1 ?_
      refine x_iload_n dm_2_24 rfl ?_
      refine im_bind (fun q4 hq4 => ?_)
      refine im_chk _ (fun hi5 => ?_)
      refine x_iastore dm_2_25 hq4 hi5 ?_
      refine x_aload_n dm_2_26 rfl ?_
      refine x_getR dm_2_27 fl_0_13 rfl rfl hk1 ?_
      refine x_aload_n dm_2_30 rfl ?_
      refine x_getI dm_2_31 fl_0_19 rfl rfl hk1 ?_
      refine x_iload_n dm_2_34 rfl ?_
      refine im_bind (fun q7 hq7 => ?_)
      refine im_chk _ (fun hi8 => ?_)
      refine x_iastore dm_2_35 hq7 hi8 ?_
      refine x_aload_n dm_2_36 rfl ?_
      refine x_getR dm_2_37 fl_0_16 rfl rfl hk1 ?_
      refine x_aload_n dm_2_40 rfl ?_
      refine x_getI dm_2_41 fl_0_19 rfl rfl hk1 ?_
      refine x_iload_n dm_2_44 rfl ?_
      refine im_bind (fun q10 hq10 => ?_)
      refine im_chk _ (fun hi11 => ?_)
      refine x_iastore dm_2_45 hq10 hi11 ?_
      exact im_lsub [(0, .inr (some j))] (im_sb_c rfl im_sb_n) (tn_2_46 j _)
/-- FencedModules$CallList.tell(II)I -/
def fn_3 (j : Nat) (x1 : Int32) (x2 : Int32) (h : im_H) : Option (Int32 × im_H) :=
  if x1 = (-1 : Int32) then (if h.2.1 j = (0, 0) then (some ((im_gI h j 3), h)) else none) else (if x1 < 0 then (some ((0 : Int32), h)) else (if (16 : Int32) ≤ x1 then (some ((0 : Int32), h)) else (if h.2.1 j = (0, 0) then (if x1 < (im_gI h j 3) then (if x2 = 0 then (((im_gR h j 0)).bind fun q8 => if im_in h 1 q8 x1 then (some ((im_gI h q8 (x1).toNatClampNeg), h)) else none) else (if x2 = 1 then (((im_gR h j 1)).bind fun q11 => if im_in h 1 q11 x1 then (some ((im_gI h q11 (x1).toNatClampNeg), h)) else none) else (if x2 = 2 then (((im_gR h j 2)).bind fun q14 => if im_in h 1 q14 x1 then (some ((im_gI h q14 (x1).toNatClampNeg), h)) else none) else (some ((0 : Int32), h))))) else (some ((0 : Int32), h))) else none)))
set_option maxRecDepth 100000 in
set_option maxHeartbeats 4000000 in
theorem tn_3 (j : Nat) (x1 : Int32) (x2 : Int32) (h : im_H) : im_Go im_zI 0 fm_3 0 (im_en 0 [.inr (some j), .inl x1, .inl x2]) [] h (fn_3 j x1 x2 h) := by
  unfold fn_3
  refine x_iload_n dm_3_0 rfl ?_
  refine x_iconst (-1) dm_3_1 (by decide) ?_
  refine x_icmp_ne 10 dm_3_2 rfl (fun c1 => ?_) (fun c1 => ?_)
  · refine x_aload_n dm_3_5 rfl ?_
    refine im_chk _ (fun hk2 => ?_)
    refine x_getI dm_3_6 fl_0_19 rfl rfl hk2 ?_
    exact x_ireturn dm_3_9 rfl
  · refine x_iload_n dm_3_10 rfl ?_
    refine x_if_lt 28 dm_3_11 rfl (fun c3 => ?_) (fun c3 => ?_)
    · refine x_iconst (0) dm_3_28 (by decide) ?_
      exact x_ireturn dm_3_29 rfl
    · refine x_iload_n dm_3_14 rfl ?_
      refine x_bipush (16) dm_3_15 (by decide) ?_
      refine x_icmp_ge 28 dm_3_17 rfl (fun c4 => ?_) (fun c4 => ?_)
      · refine x_iconst (0) dm_3_28 (by decide) ?_
        exact x_ireturn dm_3_29 rfl
      · refine x_iload_n dm_3_20 rfl ?_
        refine x_aload_n dm_3_21 rfl ?_
        refine im_chk _ (fun hk5 => ?_)
        refine x_getI dm_3_22 fl_0_19 rfl rfl hk5 ?_
        refine x_icmp_lt 30 dm_3_25 rfl (fun c6 => ?_) (fun c6 => ?_)
        · refine x_iload_n dm_3_30 rfl ?_
          refine im_test _ (fun c7 => ?_) (fun c7 => ?_)
          · refine x_tabIn 0 56 dm_3_31 c7 (by decide) (by decide) rfl rfl ?_
            refine x_aload_n dm_3_56 rfl ?_
            refine x_getR dm_3_57 fl_0_9 rfl rfl hk5 ?_
            refine x_iload_n dm_3_60 rfl ?_
            refine im_bind (fun q8 hq8 => ?_)
            refine im_chk _ (fun hi9 => ?_)
            refine x_iaload dm_3_61 hq8 hi9 ?_
            exact x_ireturn dm_3_62 rfl
          refine im_test _ (fun c10 => ?_) (fun c10 => ?_)
          · refine x_tabIn 1 63 dm_3_31 c10 (by decide) (by decide) rfl rfl ?_
            refine x_aload_n dm_3_63 rfl ?_
            refine x_getR dm_3_64 fl_0_13 rfl rfl hk5 ?_
            refine x_iload_n dm_3_67 rfl ?_
            refine im_bind (fun q11 hq11 => ?_)
            refine im_chk _ (fun hi12 => ?_)
            refine x_iaload dm_3_68 hq11 hi12 ?_
            exact x_ireturn dm_3_69 rfl
          refine im_test _ (fun c13 => ?_) (fun c13 => ?_)
          · refine x_tabIn 2 70 dm_3_31 c13 (by decide) (by decide) rfl rfl ?_
            refine x_aload_n dm_3_70 rfl ?_
            refine x_getR dm_3_71 fl_0_16 rfl rfl hk5 ?_
            refine x_iload_n dm_3_74 rfl ?_
            refine im_bind (fun q14 hq14 => ?_)
            refine im_chk _ (fun hi15 => ?_)
            refine x_iaload dm_3_75 hq14 hi15 ?_
            exact x_ireturn dm_3_76 rfl
          refine x_tabOut 77 dm_3_31 (im_swout (0) 3 (by decide) (by decide) (fun i hi => match i, hi with | 0, _ => c7 | 1, _ => c10 | 2, _ => c13 | i + 3, hi => absurd hi (by omega))) rfl ?_
          refine x_iconst (0) dm_3_77 (by decide) ?_
          exact x_ireturn dm_3_78 rfl
        · refine x_iconst (0) dm_3_28 (by decide) ?_
          exact x_ireturn dm_3_29 rfl
/-- FencedModules$Code.empty()V -/
def fn_5 (j : Nat) (h : im_H) : Option (im_H) :=
  if h.2.1 j = (0, 1) then (let h2 : im_H := im_pI h j 1 (0 : Int32); some h2) else none
set_option maxRecDepth 100000 in
set_option maxHeartbeats 4000000 in
theorem tn_5 (j : Nat) (h : im_H) : im_Go im_zV 0 fm_5 0 (im_en 0 [.inr (some j)]) [] h (fn_5 j h) := by
  unfold fn_5
  refine x_aload_n dm_5_0 rfl ?_
  refine x_iconst (0) dm_5_1 (by decide) ?_
  refine im_chk _ (fun hk1 => ?_)
  refine x_putI dm_5_2 fl_1_13 rfl rfl hk1 ?_
  exact x_return dm_5_5 rfl
/-- FencedModules$Code.add(I)Z -/
def fn_6 (j : Nat) (x1 : Int32) (h : im_H) : Option (Int32 × im_H) :=
  if h.2.1 j = (0, 1) then (if (im_gI h j 1) < (31 : Int32) then (((im_gR h j 0)).bind fun q3 => if im_in h 1 q3 (im_gI h j 1) then (let h5 : im_H := im_pI h q3 ((im_gI h j 1)).toNatClampNeg x1; let h6 : im_H := im_pI h5 j 1 ((im_gI h5 j 1) + (1 : Int32)); some ((1 : Int32), h6)) else none) else (some ((0 : Int32), h))) else none
set_option maxRecDepth 100000 in
set_option maxHeartbeats 4000000 in
theorem tn_6 (j : Nat) (x1 : Int32) (h : im_H) : im_Go im_zI 0 fm_6 0 (im_en 0 [.inr (some j), .inl x1]) [] h (fn_6 j x1 h) := by
  unfold fn_6
  refine x_aload_n dm_6_0 rfl ?_
  refine im_chk _ (fun hk1 => ?_)
  refine x_getI dm_6_1 fl_1_13 rfl rfl hk1 ?_
  refine x_bipush (31) dm_6_4 (by decide) ?_
  refine x_icmp_lt 11 dm_6_6 rfl (fun c2 => ?_) (fun c2 => ?_)
  · refine x_aload_n dm_6_11 rfl ?_
    refine x_getR dm_6_12 fl_1_9 rfl rfl hk1 ?_
    refine x_aload_n dm_6_15 rfl ?_
    refine x_getI dm_6_16 fl_1_13 rfl rfl hk1 ?_
    refine x_iload_n dm_6_19 rfl ?_
    refine im_bind (fun q3 hq3 => ?_)
    refine im_chk _ (fun hi4 => ?_)
    refine x_iastore dm_6_20 hq3 hi4 ?_
    refine x_aload_n dm_6_21 rfl ?_
    refine x_dup dm_6_22 ?_
    refine x_getI dm_6_23 fl_1_13 rfl rfl hk1 ?_
    refine x_iconst (1) dm_6_26 (by decide) ?_
    refine x_iadd dm_6_27 ?_
    refine x_putI dm_6_28 fl_1_13 rfl rfl hk1 ?_
    refine x_iconst (1) dm_6_31 (by decide) ?_
    exact x_zreturn dm_6_32 rfl (by decide)
  · refine x_iconst (0) dm_6_9 (by decide) ?_
    exact x_zreturn dm_6_10 rfl (by decide)
/-- FencedModules$Code.count()I -/
def fn_7 (j : Nat) (h : im_H) : Option (Int32 × im_H) :=
  if h.2.1 j = (0, 1) then (some ((im_gI h j 1), h)) else none
set_option maxRecDepth 100000 in
set_option maxHeartbeats 4000000 in
theorem tn_7 (j : Nat) (h : im_H) : im_Go im_zI 0 fm_7 0 (im_en 0 [.inr (some j)]) [] h (fn_7 j h) := by
  unfold fn_7
  refine x_aload_n dm_7_0 rfl ?_
  refine im_chk _ (fun hk1 => ?_)
  refine x_getI dm_7_1 fl_1_13 rfl rfl hk1 ?_
  exact x_ireturn dm_7_4 rfl
/-- FencedModules$Code.at(I)I -/
def fn_8 (j : Nat) (x1 : Int32) (h : im_H) : Option (Int32 × im_H) :=
  if x1 < 0 then (some ((0 : Int32), h)) else (if h.2.1 j = (0, 1) then (if (im_gI h j 1) ≤ x1 then (some ((0 : Int32), h)) else (((im_gR h j 0)).bind fun q4 => if im_in h 1 q4 x1 then (some ((im_gI h q4 (x1).toNatClampNeg), h)) else none)) else none)
set_option maxRecDepth 100000 in
set_option maxHeartbeats 4000000 in
theorem tn_8 (j : Nat) (x1 : Int32) (h : im_H) : im_Go im_zI 0 fm_8 0 (im_en 0 [.inr (some j), .inl x1]) [] h (fn_8 j x1 h) := by
  unfold fn_8
  refine x_iload_n dm_8_0 rfl ?_
  refine x_if_lt 21 dm_8_1 rfl (fun c1 => ?_) (fun c1 => ?_)
  · refine x_iconst (0) dm_8_21 (by decide) ?_
    exact x_ireturn dm_8_22 rfl
  · refine x_iload_n dm_8_4 rfl ?_
    refine x_aload_n dm_8_5 rfl ?_
    refine im_chk _ (fun hk2 => ?_)
    refine x_getI dm_8_6 fl_1_13 rfl rfl hk2 ?_
    refine x_icmp_ge 21 dm_8_9 rfl (fun c3 => ?_) (fun c3 => ?_)
    · refine x_iconst (0) dm_8_21 (by decide) ?_
      exact x_ireturn dm_8_22 rfl
    · refine x_aload_n dm_8_12 rfl ?_
      refine x_getR dm_8_13 fl_1_9 rfl rfl hk2 ?_
      refine x_iload_n dm_8_16 rfl ?_
      refine im_bind (fun q4 hq4 => ?_)
      refine im_chk _ (fun hi5 => ?_)
      refine x_iaload dm_8_17 hq4 hi5 ?_
      refine x_goto 22 dm_8_18 rfl ?_
      exact x_ireturn dm_8_22 rfl
/-- FencedModules$Desk.answers(I)Z -/
def fn_10 (x0 : Int32) (h : im_H) : Option (Int32 × im_H) :=
  if x0 < 0 then (some ((0 : Int32), h)) else (if (6 : Int32) < x0 then (some ((0 : Int32), h)) else (some ((1 : Int32), h)))
set_option maxRecDepth 100000 in
set_option maxHeartbeats 4000000 in
theorem tn_10 (x0 : Int32) (h : im_H) : im_Go im_zI 0 fm_10 0 (im_en 0 [.inl x0]) [] h (fn_10 x0 h) := by
  unfold fn_10
  refine x_iload_n dm_10_0 rfl ?_
  refine x_if_lt 14 dm_10_1 rfl (fun c1 => ?_) (fun c1 => ?_)
  · refine x_iconst (0) dm_10_14 (by decide) ?_
    exact x_zreturn dm_10_15 rfl (by decide)
  · refine x_iload_n dm_10_4 rfl ?_
    refine x_bipush (6) dm_10_5 (by decide) ?_
    refine x_icmp_gt 14 dm_10_7 rfl (fun c2 => ?_) (fun c2 => ?_)
    · refine x_iconst (0) dm_10_14 (by decide) ?_
      exact x_zreturn dm_10_15 rfl (by decide)
    · refine x_iconst (1) dm_10_10 (by decide) ?_
      refine x_goto 15 dm_10_11 rfl ?_
      exact x_zreturn dm_10_15 rfl (by decide)
/-- FencedModules$Desk.argumentsOf(I)I -/
def fn_11 (x0 : Int32) (h : im_H) : Option (Int32 × im_H) :=
  if x0 = 1 then (some ((1 : Int32), h)) else (if x0 = 2 then (some ((0 : Int32), h)) else (if x0 = 3 then (some ((1 : Int32), h)) else (if x0 = 4 then (some ((2 : Int32), h)) else (if x0 = 5 then (some ((2 : Int32), h)) else (some ((0 : Int32), h))))))
set_option maxRecDepth 100000 in
set_option maxHeartbeats 4000000 in
theorem tn_11 (x0 : Int32) (h : im_H) : im_Go im_zI 0 fm_11 0 (im_en 0 [.inl x0]) [] h (fn_11 x0 h) := by
  unfold fn_11
  refine x_iload_n dm_11_0 rfl ?_
  refine im_test _ (fun c1 => ?_) (fun c1 => ?_)
  · refine x_tabIn 1 36 dm_11_1 c1 (by decide) (by decide) rfl rfl ?_
    refine x_iconst (1) dm_11_36 (by decide) ?_
    exact x_ireturn dm_11_37 rfl
  refine im_test _ (fun c2 => ?_) (fun c2 => ?_)
  · refine x_tabIn 2 40 dm_11_1 c2 (by decide) (by decide) rfl rfl ?_
    refine x_iconst (0) dm_11_40 (by decide) ?_
    exact x_ireturn dm_11_41 rfl
  refine im_test _ (fun c3 => ?_) (fun c3 => ?_)
  · refine x_tabIn 3 36 dm_11_1 c3 (by decide) (by decide) rfl rfl ?_
    refine x_iconst (1) dm_11_36 (by decide) ?_
    exact x_ireturn dm_11_37 rfl
  refine im_test _ (fun c4 => ?_) (fun c4 => ?_)
  · refine x_tabIn 4 38 dm_11_1 c4 (by decide) (by decide) rfl rfl ?_
    refine x_iconst (2) dm_11_38 (by decide) ?_
    exact x_ireturn dm_11_39 rfl
  refine im_test _ (fun c5 => ?_) (fun c5 => ?_)
  · refine x_tabIn 5 38 dm_11_1 c5 (by decide) (by decide) rfl rfl ?_
    refine x_iconst (2) dm_11_38 (by decide) ?_
    exact x_ireturn dm_11_39 rfl
  refine x_tabOut 40 dm_11_1 (im_swout (1) 5 (by decide) (by decide) (fun i hi => match i, hi with | 0, _ => c1 | 1, _ => c2 | 2, _ => c3 | 3, _ => c4 | 4, _ => c5 | i + 5, hi => absurd hi (by omega))) rfl ?_
  refine x_iconst (0) dm_11_40 (by decide) ?_
  exact x_ireturn dm_11_41 rfl
/-- FencedModules$Desk.canPrint(II)Z -/
def fn_12 (x0 : Int32) (x1 : Int32) (h : im_H) : Option (Int32 × im_H) :=
  if x0 < 0 then (some ((0 : Int32), h)) else (if (16 : Int32) < x0 then (some ((0 : Int32), h)) else (if x1 < 0 then (some ((0 : Int32), h)) else (if ((16 : Int32) - x0) < x1 then (some ((0 : Int32), h)) else (some ((1 : Int32), h)))))
set_option maxRecDepth 100000 in
set_option maxHeartbeats 4000000 in
theorem tn_12 (x0 : Int32) (x1 : Int32) (h : im_H) : im_Go im_zI 0 fm_12 0 (im_en 0 [.inl x0, .inl x1]) [] h (fn_12 x0 x1 h) := by
  unfold fn_12
  refine x_iload_n dm_12_0 rfl ?_
  refine x_if_lt 26 dm_12_1 rfl (fun c1 => ?_) (fun c1 => ?_)
  · refine x_iconst (0) dm_12_26 (by decide) ?_
    exact x_zreturn dm_12_27 rfl (by decide)
  · refine x_iload_n dm_12_4 rfl ?_
    refine x_bipush (16) dm_12_5 (by decide) ?_
    refine x_icmp_gt 26 dm_12_7 rfl (fun c2 => ?_) (fun c2 => ?_)
    · refine x_iconst (0) dm_12_26 (by decide) ?_
      exact x_zreturn dm_12_27 rfl (by decide)
    · refine x_iload_n dm_12_10 rfl ?_
      refine x_if_lt 26 dm_12_11 rfl (fun c3 => ?_) (fun c3 => ?_)
      · refine x_iconst (0) dm_12_26 (by decide) ?_
        exact x_zreturn dm_12_27 rfl (by decide)
      · refine x_iload_n dm_12_14 rfl ?_
        refine x_bipush (16) dm_12_15 (by decide) ?_
        refine x_iload_n dm_12_17 rfl ?_
        refine x_isub dm_12_18 ?_
        refine x_icmp_gt 26 dm_12_19 rfl (fun c4 => ?_) (fun c4 => ?_)
        · refine x_iconst (0) dm_12_26 (by decide) ?_
          exact x_zreturn dm_12_27 rfl (by decide)
        · refine x_iconst (1) dm_12_22 (by decide) ?_
          refine x_goto 27 dm_12_23 rfl ?_
          exact x_zreturn dm_12_27 rfl (by decide)
/-- FencedModules$Desk.allocate(I)I -/
def fn_15 (j : Nat) (x1 : Int32) (h : im_H) : Option (Int32 × im_H) :=
  if x1 < (1 : Int32) then (some ((-1 : Int32), h)) else (if h.2.1 j = (0, 2) then (if x1 ≤ ((16 : Int32) - (im_gI h j 1)) then (let v4 : Int32 := (im_gI h j 1); let h5 : im_H := im_pI h j 1 ((im_gI h j 1) + x1); some (v4, h5)) else (some ((-1 : Int32), h))) else none)
set_option maxRecDepth 100000 in
set_option maxHeartbeats 4000000 in
theorem tn_15 (j : Nat) (x1 : Int32) (h : im_H) : im_Go im_zI 0 fm_15 0 (im_en 0 [.inr (some j), .inl x1]) [] h (fn_15 j x1 h) := by
  unfold fn_15
  refine x_iload_n dm_15_0 rfl ?_
  refine x_iconst (1) dm_15_1 (by decide) ?_
  refine x_icmp_lt 16 dm_15_2 rfl (fun c1 => ?_) (fun c1 => ?_)
  · refine x_iconst (-1) dm_15_16 (by decide) ?_
    exact x_ireturn dm_15_17 rfl
  · refine x_iload_n dm_15_5 rfl ?_
    refine x_bipush (16) dm_15_6 (by decide) ?_
    refine x_aload_n dm_15_8 rfl ?_
    refine im_chk _ (fun hk2 => ?_)
    refine x_getI dm_15_9 fl_2_21 rfl rfl hk2 ?_
    refine x_isub dm_15_12 ?_
    refine x_icmp_le 18 dm_15_13 rfl (fun c3 => ?_) (fun c3 => ?_)
    · refine x_aload_n dm_15_18 rfl ?_
      refine x_getI dm_15_19 fl_2_21 rfl rfl hk2 ?_
      refine x_istore_n dm_15_22 (Nat.le_of_ble_eq_true rfl) ?_
      refine x_aload_n dm_15_23 rfl ?_
      refine x_dup dm_15_24 ?_
      refine x_getI dm_15_25 fl_2_21 rfl rfl hk2 ?_
      refine x_iload_n dm_15_28 rfl ?_
      refine x_iadd dm_15_29 ?_
      refine x_putI dm_15_30 fl_2_21 rfl rfl hk2 ?_
      refine x_iload_n dm_15_33 rfl ?_
      exact x_ireturn dm_15_34 rfl
    · refine x_iconst (-1) dm_15_16 (by decide) ?_
      exact x_ireturn dm_15_17 rfl
/-- FencedModules$Desk.takeInput(LFencedModules$Sandbox;)I -/
def fn_16 (j : Nat) (x1 : Option Nat) (h : im_H) : Option (Int32 × im_H) :=
  if h.2.1 j = (0, 2) then (if (im_gI h j 2) < 0 then (some ((-1 : Int32), h)) else ((x1).bind fun q3 => if h.2.1 q3 = (0, 5) then (if (im_gI h j 2) < (im_gI h q3 4) then (((im_gR h q3 2)).bind fun q6 => if im_in h 1 q6 (im_gI h j 2) then (let v8 : Int32 := (im_gI h q6 ((im_gI h j 2)).toNatClampNeg); let h9 : im_H := im_pI h j 2 ((im_gI h j 2) + (1 : Int32)); some (v8, h9)) else none) else (some ((-1 : Int32), h))) else none)) else none
set_option maxRecDepth 100000 in
set_option maxHeartbeats 4000000 in
theorem tn_16 (j : Nat) (x1 : Option Nat) (h : im_H) : im_Go im_zI 0 fm_16 0 (im_en 0 [.inr (some j), .inr x1]) [] h (fn_16 j x1 h) := by
  unfold fn_16
  refine x_aload_n dm_16_0 rfl ?_
  refine im_chk _ (fun hk1 => ?_)
  refine x_getI dm_16_1 fl_2_25 rfl rfl hk1 ?_
  refine x_if_lt 18 dm_16_4 rfl (fun c2 => ?_) (fun c2 => ?_)
  · refine x_iconst (-1) dm_16_18 (by decide) ?_
    exact x_ireturn dm_16_19 rfl
  · refine x_aload_n dm_16_7 rfl ?_
    refine x_getI dm_16_8 fl_2_25 rfl rfl hk1 ?_
    refine x_aload_n dm_16_11 rfl ?_
    refine im_bind (fun q3 hq3 => ?_)
    refine im_chk _ (fun hk4 => ?_)
    refine x_getI dm_16_12 fl_2_36 rfl hq3 hk4 ?_
    refine x_icmp_lt 20 dm_16_15 rfl (fun c5 => ?_) (fun c5 => ?_)
    · refine x_aload_n dm_16_20 rfl ?_
      refine x_getR dm_16_21 fl_2_39 rfl hq3 hk4 ?_
      refine x_aload_n dm_16_24 rfl ?_
      refine x_getI dm_16_25 fl_2_25 rfl rfl hk1 ?_
      refine im_bind (fun q6 hq6 => ?_)
      refine im_chk _ (fun hi7 => ?_)
      refine x_iaload dm_16_28 hq6 hi7 ?_
      refine x_istore_n dm_16_29 (Nat.le_of_ble_eq_true rfl) ?_
      refine x_aload_n dm_16_30 rfl ?_
      refine x_dup dm_16_31 ?_
      refine x_getI dm_16_32 fl_2_25 rfl rfl hk1 ?_
      refine x_iconst (1) dm_16_35 (by decide) ?_
      refine x_iadd dm_16_36 ?_
      refine x_putI dm_16_37 fl_2_25 rfl rfl hk1 ?_
      refine x_iload_n dm_16_40 rfl ?_
      exact x_ireturn dm_16_41 rfl
    · refine x_iconst (-1) dm_16_18 (by decide) ?_
      exact x_ireturn dm_16_19 rfl
/-- FencedModules$Follower.holdsLabel(I)Z -/
def fn_23 (j : Nat) (x1 : Int32) (h : im_H) : Option (Int32 × im_H) :=
  if h.2.1 j = (0, 3) then (((im_gR h j 2)).bind fun q2 => if im_in h 1 q2 x1 then (if (im_gI h q2 (x1).toNatClampNeg) = (-1 : Int32) then (some ((0 : Int32), h)) else (some ((1 : Int32), h))) else none) else none
set_option maxRecDepth 100000 in
set_option maxHeartbeats 4000000 in
theorem tn_23 (j : Nat) (x1 : Int32) (h : im_H) : im_Go im_zI 0 fm_23 0 (im_en 0 [.inr (some j), .inl x1]) [] h (fn_23 j x1 h) := by
  unfold fn_23
  refine x_aload_n dm_23_0 rfl ?_
  refine im_chk _ (fun hk1 => ?_)
  refine x_getR dm_23_1 fl_3_24 rfl rfl hk1 ?_
  refine x_iload_n dm_23_4 rfl ?_
  refine im_bind (fun q2 hq2 => ?_)
  refine im_chk _ (fun hi3 => ?_)
  refine x_iaload dm_23_5 hq2 hi3 ?_
  refine x_iconst (-1) dm_23_6 (by decide) ?_
  refine x_icmp_eq 14 dm_23_7 rfl (fun c4 => ?_) (fun c4 => ?_)
  · refine x_iconst (0) dm_23_14 (by decide) ?_
    exact x_zreturn dm_23_15 rfl (by decide)
  · refine x_iconst (1) dm_23_10 (by decide) ?_
    refine x_goto 15 dm_23_11 rfl ?_
    exact x_zreturn dm_23_15 rfl (by decide)
/-- FencedModules$Follower.isAddress(I)Z -/
def fn_24 (x0 : Int32) (h : im_H) : Option (Int32 × im_H) :=
  if x0 < 0 then (some ((0 : Int32), h)) else (if (16 : Int32) ≤ x0 then (some ((0 : Int32), h)) else (some ((1 : Int32), h)))
set_option maxRecDepth 100000 in
set_option maxHeartbeats 4000000 in
theorem tn_24 (x0 : Int32) (h : im_H) : im_Go im_zI 0 fm_24 0 (im_en 0 [.inl x0]) [] h (fn_24 x0 h) := by
  unfold fn_24
  refine x_iload_n dm_24_0 rfl ?_
  refine x_if_lt 14 dm_24_1 rfl (fun c1 => ?_) (fun c1 => ?_)
  · refine x_iconst (0) dm_24_14 (by decide) ?_
    exact x_zreturn dm_24_15 rfl (by decide)
  · refine x_iload_n dm_24_4 rfl ?_
    refine x_bipush (16) dm_24_5 (by decide) ?_
    refine x_icmp_ge 14 dm_24_7 rfl (fun c2 => ?_) (fun c2 => ?_)
    · refine x_iconst (0) dm_24_14 (by decide) ?_
      exact x_zreturn dm_24_15 rfl (by decide)
    · refine x_iconst (1) dm_24_10 (by decide) ?_
      refine x_goto 15 dm_24_11 rfl ?_
      exact x_zreturn dm_24_15 rfl (by decide)
/-- FencedModules$Follower.copyCell(II)V -/
def fn_26 (j : Nat) (x1 : Int32) (x2 : Int32) (h : im_H) : Option (im_H) :=
  if h.2.1 j = (0, 3) then (((im_gR h j 1)).bind fun q2 => if im_in h 1 q2 x1 then (if im_in h 1 q2 x2 then (let h5 : im_H := im_pI h q2 (x2).toNatClampNeg (im_gI h q2 (x1).toNatClampNeg); ((im_gR h j 2)).bind fun q6 => if im_in h 1 q6 x1 then (if im_in h 1 q6 x2 then (let h9 : im_H := im_pI h5 q6 (x2).toNatClampNeg (im_gI h5 q6 (x1).toNatClampNeg); some h9) else none) else none) else none) else none) else none
set_option maxRecDepth 100000 in
set_option maxHeartbeats 4000000 in
theorem tn_26 (j : Nat) (x1 : Int32) (x2 : Int32) (h : im_H) : im_Go im_zV 0 fm_26 0 (im_en 0 [.inr (some j), .inl x1, .inl x2]) [] h (fn_26 j x1 x2 h) := by
  unfold fn_26
  refine x_aload_n dm_26_0 rfl ?_
  refine im_chk _ (fun hk1 => ?_)
  refine x_getR dm_26_1 fl_3_20 rfl rfl hk1 ?_
  refine x_iload_n dm_26_4 rfl ?_
  refine x_aload_n dm_26_5 rfl ?_
  refine x_getR dm_26_6 fl_3_20 rfl rfl hk1 ?_
  refine x_iload_n dm_26_9 rfl ?_
  refine im_bind (fun q2 hq2 => ?_)
  refine im_chk _ (fun hi3 => ?_)
  refine x_iaload dm_26_10 hq2 hi3 ?_
  refine im_chk _ (fun hi4 => ?_)
  refine x_iastore dm_26_11 hq2 hi4 ?_
  refine x_aload_n dm_26_12 rfl ?_
  refine x_getR dm_26_13 fl_3_24 rfl rfl hk1 ?_
  refine x_iload_n dm_26_16 rfl ?_
  refine x_aload_n dm_26_17 rfl ?_
  refine x_getR dm_26_18 fl_3_24 rfl rfl hk1 ?_
  refine x_iload_n dm_26_21 rfl ?_
  refine im_bind (fun q6 hq6 => ?_)
  refine im_chk _ (fun hi7 => ?_)
  refine x_iaload dm_26_22 hq6 hi7 ?_
  refine im_chk _ (fun hi8 => ?_)
  refine x_iastore dm_26_23 hq6 hi8 ?_
  exact x_return dm_26_24 rfl
/-- FencedModules$Follower.putInt(II)V -/
def fn_27 (j : Nat) (x1 : Int32) (x2 : Int32) (h : im_H) : Option (im_H) :=
  if h.2.1 j = (0, 3) then (((im_gR h j 1)).bind fun q2 => if im_in h 1 q2 x1 then (let h4 : im_H := im_pI h q2 (x1).toNatClampNeg x2; ((im_gR h j 2)).bind fun q5 => if im_in h 1 q5 x1 then (let h7 : im_H := im_pI h4 q5 (x1).toNatClampNeg (-1 : Int32); some h7) else none) else none) else none
set_option maxRecDepth 100000 in
set_option maxHeartbeats 4000000 in
theorem tn_27 (j : Nat) (x1 : Int32) (x2 : Int32) (h : im_H) : im_Go im_zV 0 fm_27 0 (im_en 0 [.inr (some j), .inl x1, .inl x2]) [] h (fn_27 j x1 x2 h) := by
  unfold fn_27
  refine x_aload_n dm_27_0 rfl ?_
  refine im_chk _ (fun hk1 => ?_)
  refine x_getR dm_27_1 fl_3_20 rfl rfl hk1 ?_
  refine x_iload_n dm_27_4 rfl ?_
  refine x_iload_n dm_27_5 rfl ?_
  refine im_bind (fun q2 hq2 => ?_)
  refine im_chk _ (fun hi3 => ?_)
  refine x_iastore dm_27_6 hq2 hi3 ?_
  refine x_aload_n dm_27_7 rfl ?_
  refine x_getR dm_27_8 fl_3_24 rfl rfl hk1 ?_
  refine x_iload_n dm_27_11 rfl ?_
  refine x_iconst (-1) dm_27_12 (by decide) ?_
  refine im_bind (fun q5 hq5 => ?_)
  refine im_chk _ (fun hi6 => ?_)
  refine x_iastore dm_27_13 hq5 hi6 ?_
  exact x_return dm_27_14 rfl
/-- FencedModules$Machine.read(I)I -/
def fn_32 (j : Nat) (x1 : Int32) (h : im_H) : Option (Int32 × im_H) :=
  if x1 < 0 then (some ((0 : Int32), h)) else (if (256 : Int32) ≤ x1 then (some ((0 : Int32), h)) else (if h.2.1 j = (0, 4) then (((im_gR h j 0)).bind fun q4 => if im_in h 1 q4 x1 then (some ((im_gI h q4 (x1).toNatClampNeg), h)) else none) else none))
set_option maxRecDepth 100000 in
set_option maxHeartbeats 4000000 in
theorem tn_32 (j : Nat) (x1 : Int32) (h : im_H) : im_Go im_zI 0 fm_32 0 (im_en 0 [.inr (some j), .inl x1]) [] h (fn_32 j x1 h) := by
  unfold fn_32
  refine x_iload_n dm_32_0 rfl ?_
  refine x_if_lt 20 dm_32_1 rfl (fun c1 => ?_) (fun c1 => ?_)
  · refine x_iconst (0) dm_32_20 (by decide) ?_
    exact x_ireturn dm_32_21 rfl
  · refine x_iload_n dm_32_4 rfl ?_
    refine x_sipush (256) dm_32_5 (by decide) ?_
    refine x_icmp_ge 20 dm_32_8 rfl (fun c2 => ?_) (fun c2 => ?_)
    · refine x_iconst (0) dm_32_20 (by decide) ?_
      exact x_ireturn dm_32_21 rfl
    · refine x_aload_n dm_32_11 rfl ?_
      refine im_chk _ (fun hk3 => ?_)
      refine x_getR dm_32_12 fl_4_9 rfl rfl hk3 ?_
      refine x_iload_n dm_32_15 rfl ?_
      refine im_bind (fun q4 hq4 => ?_)
      refine im_chk _ (fun hi5 => ?_)
      refine x_iaload dm_32_16 hq4 hi5 ?_
      refine x_goto 21 dm_32_17 rfl ?_
      exact x_ireturn dm_32_21 rfl
/-- FencedModules$Machine.write(II)V -/
def fn_33 (j : Nat) (x1 : Int32) (x2 : Int32) (h : im_H) : Option (im_H) :=
  if x1 < 0 then (some h) else (if (256 : Int32) ≤ x1 then (some h) else (if h.2.1 j = (0, 4) then (((im_gR h j 0)).bind fun q4 => if im_in h 1 q4 x1 then (let h6 : im_H := im_pI h q4 (x1).toNatClampNeg x2; some h6) else none) else none))
set_option maxRecDepth 100000 in
set_option maxHeartbeats 4000000 in
theorem tn_33 (j : Nat) (x1 : Int32) (x2 : Int32) (h : im_H) : im_Go im_zV 0 fm_33 0 (im_en 0 [.inr (some j), .inl x1, .inl x2]) [] h (fn_33 j x1 x2 h) := by
  unfold fn_33
  refine x_iload_n dm_33_0 rfl ?_
  refine x_if_lt 18 dm_33_1 rfl (fun c1 => ?_) (fun c1 => ?_)
  · exact x_return dm_33_18 rfl
  · refine x_iload_n dm_33_4 rfl ?_
    refine x_sipush (256) dm_33_5 (by decide) ?_
    refine x_icmp_ge 18 dm_33_8 rfl (fun c2 => ?_) (fun c2 => ?_)
    · exact x_return dm_33_18 rfl
    · refine x_aload_n dm_33_11 rfl ?_
      refine im_chk _ (fun hk3 => ?_)
      refine x_getR dm_33_12 fl_4_9 rfl rfl hk3 ?_
      refine x_iload_n dm_33_15 rfl ?_
      refine x_iload_n dm_33_16 rfl ?_
      refine im_bind (fun q4 hq4 => ?_)
      refine im_chk _ (fun hi5 => ?_)
      refine x_iastore dm_33_17 hq4 hi5 ?_
      exact x_return dm_33_18 rfl
/-- FencedModules$Machine.giveTurn(I)V -/
def fn_38 (j : Nat) (x1 : Int32) (h : im_H) : Option (im_H) :=
  if h.2.1 j = (0, 4) then (let h2 : im_H := im_pI h j 2 x1; let h3 : im_H := im_pI h2 j 3 (0 : Int32); some h3) else none
set_option maxRecDepth 100000 in
set_option maxHeartbeats 4000000 in
theorem tn_38 (j : Nat) (x1 : Int32) (h : im_H) : im_Go im_zV 0 fm_38 0 (im_en 0 [.inr (some j), .inl x1]) [] h (fn_38 j x1 h) := by
  unfold fn_38
  refine x_aload_n dm_38_0 rfl ?_
  refine x_iload_n dm_38_1 rfl ?_
  refine im_chk _ (fun hk1 => ?_)
  refine x_putI dm_38_2 fl_4_49 rfl rfl hk1 ?_
  refine x_aload_n dm_38_5 rfl ?_
  refine x_iconst (0) dm_38_6 (by decide) ?_
  refine x_putI dm_38_7 fl_4_53 rfl rfl hk1 ?_
  exact x_return dm_38_10 rfl
/-- FencedModules$Machine.behind(I)I -/
def fn_39 (x0 : Int32) (h : im_H) : Option (Int32 × im_H) :=
  if (3 : Int32) ≤ (x0 + (1 : Int32)) then (some ((0 : Int32), h)) else (some ((x0 + (1 : Int32)), h))
set_option maxRecDepth 100000 in
set_option maxHeartbeats 4000000 in
theorem tn_39 (x0 : Int32) (h : im_H) : im_Go im_zI 0 fm_39 0 (im_en 0 [.inl x0]) [] h (fn_39 x0 h) := by
  unfold fn_39
  refine x_iload_n dm_39_0 rfl ?_
  refine x_iconst (1) dm_39_1 (by decide) ?_
  refine x_iadd dm_39_2 ?_
  refine x_iconst (3) dm_39_3 (by decide) ?_
  refine x_icmp_ge 13 dm_39_4 rfl (fun c1 => ?_) (fun c1 => ?_)
  · refine x_iconst (0) dm_39_13 (by decide) ?_
    exact x_ireturn dm_39_14 rfl
  · refine x_iload_n dm_39_7 rfl ?_
    refine x_iconst (1) dm_39_8 (by decide) ?_
    refine x_iadd dm_39_9 ?_
    refine x_goto 14 dm_39_10 rfl ?_
    exact x_ireturn dm_39_14 rfl
/-- FencedModules$Sandbox.exists(I)Z -/
def fn_45 (x0 : Int32) (h : im_H) : Option (Int32 × im_H) :=
  if x0 < 0 then (some ((0 : Int32), h)) else (if (3 : Int32) ≤ x0 then (some ((0 : Int32), h)) else (some ((1 : Int32), h)))
set_option maxRecDepth 100000 in
set_option maxHeartbeats 4000000 in
theorem tn_45 (x0 : Int32) (h : im_H) : im_Go im_zI 0 fm_45 0 (im_en 0 [.inl x0]) [] h (fn_45 x0 h) := by
  unfold fn_45
  refine x_iload_n dm_45_0 rfl ?_
  refine x_if_lt 13 dm_45_1 rfl (fun c1 => ?_) (fun c1 => ?_)
  · refine x_iconst (0) dm_45_13 (by decide) ?_
    exact x_zreturn dm_45_14 rfl (by decide)
  · refine x_iload_n dm_45_4 rfl ?_
    refine x_iconst (3) dm_45_5 (by decide) ?_
    refine x_icmp_ge 13 dm_45_6 rfl (fun c2 => ?_) (fun c2 => ?_)
    · refine x_iconst (0) dm_45_13 (by decide) ?_
      exact x_zreturn dm_45_14 rfl (by decide)
    · refine x_iconst (1) dm_45_9 (by decide) ?_
      refine x_goto 14 dm_45_10 rfl ?_
      exact x_zreturn dm_45_14 rfl (by decide)
/-- FencedModules$Sandbox.dataStart(I)I -/
def fn_46 (x0 : Int32) (h : im_H) : Option (Int32 × im_H) :=
  some (((16 : Int32) * x0), h)
set_option maxRecDepth 100000 in
set_option maxHeartbeats 4000000 in
theorem tn_46 (x0 : Int32) (h : im_H) : im_Go im_zI 0 fm_46 0 (im_en 0 [.inl x0]) [] h (fn_46 x0 h) := by
  unfold fn_46
  refine x_bipush (16) dm_46_0 (by decide) ?_
  refine x_iload_n dm_46_2 rfl ?_
  refine x_imul dm_46_3 ?_
  exact x_ireturn dm_46_4 rfl
/-- FencedModules$Sandbox.codeStart(I)I -/
def fn_47 (x0 : Int32) (h : im_H) : Option (Int32 × im_H) :=
  some (((64 : Int32) + ((32 : Int32) * x0)), h)
set_option maxRecDepth 100000 in
set_option maxHeartbeats 4000000 in
theorem tn_47 (x0 : Int32) (h : im_H) : im_Go im_zI 0 fm_47 0 (im_en 0 [.inl x0]) [] h (fn_47 x0 h) := by
  unfold fn_47
  refine x_bipush (64) dm_47_0 (by decide) ?_
  refine x_bipush (32) dm_47_2 (by decide) ?_
  refine x_iload_n dm_47_4 rfl ?_
  refine x_imul dm_47_5 ?_
  refine x_iadd dm_47_6 ?_
  exact x_ireturn dm_47_7 rfl
/-- FencedModules$Sandbox.stop(II)V -/
def fn_49 (j : Nat) (x1 : Int32) (x2 : Int32) (h : im_H) : Option (im_H) :=
  if h.2.1 j = (0, 5) then (let h2 : im_H := im_pI h j 6 x1; let h3 : im_H := im_pI h2 j 5 x2; some h3) else none
set_option maxRecDepth 100000 in
set_option maxHeartbeats 4000000 in
theorem tn_49 (j : Nat) (x1 : Int32) (x2 : Int32) (h : im_H) : im_Go im_zV 0 fm_49 0 (im_en 0 [.inr (some j), .inl x1, .inl x2]) [] h (fn_49 j x1 x2 h) := by
  unfold fn_49
  refine x_aload_n dm_49_0 rfl ?_
  refine x_iload_n dm_49_1 rfl ?_
  refine im_chk _ (fun hk1 => ?_)
  refine x_putI dm_49_2 fl_5_49 rfl rfl hk1 ?_
  refine x_aload_n dm_49_5 rfl ?_
  refine x_iload_n dm_49_6 rfl ?_
  refine x_putI dm_49_7 fl_5_46 rfl rfl hk1 ?_
  exact x_return dm_49_10 rfl
/-- FencedModules$Sandbox.addInput(I)Z -/
def fn_50 (j : Nat) (x1 : Int32) (h : im_H) : Option (Int32 × im_H) :=
  if h.2.1 j = (0, 5) then (if (im_gI h j 4) < (12 : Int32) then (((im_gR h j 2)).bind fun q3 => if im_in h 1 q3 (im_gI h j 4) then (let h5 : im_H := im_pI h q3 ((im_gI h j 4)).toNatClampNeg x1; let h6 : im_H := im_pI h5 j 4 ((im_gI h5 j 4) + (1 : Int32)); some ((1 : Int32), h6)) else none) else (some ((0 : Int32), h))) else none
set_option maxRecDepth 100000 in
set_option maxHeartbeats 4000000 in
theorem tn_50 (j : Nat) (x1 : Int32) (h : im_H) : im_Go im_zI 0 fm_50 0 (im_en 0 [.inr (some j), .inl x1]) [] h (fn_50 j x1 h) := by
  unfold fn_50
  refine x_aload_n dm_50_0 rfl ?_
  refine im_chk _ (fun hk1 => ?_)
  refine x_getI dm_50_1 fl_5_52 rfl rfl hk1 ?_
  refine x_bipush (12) dm_50_4 (by decide) ?_
  refine x_icmp_lt 11 dm_50_6 rfl (fun c2 => ?_) (fun c2 => ?_)
  · refine x_aload_n dm_50_11 rfl ?_
    refine x_getR dm_50_12 fl_5_13 rfl rfl hk1 ?_
    refine x_aload_n dm_50_15 rfl ?_
    refine x_getI dm_50_16 fl_5_52 rfl rfl hk1 ?_
    refine x_iload_n dm_50_19 rfl ?_
    refine im_bind (fun q3 hq3 => ?_)
    refine im_chk _ (fun hi4 => ?_)
    refine x_iastore dm_50_20 hq3 hi4 ?_
    refine x_aload_n dm_50_21 rfl ?_
    refine x_dup dm_50_22 ?_
    refine x_getI dm_50_23 fl_5_52 rfl rfl hk1 ?_
    refine x_iconst (1) dm_50_26 (by decide) ?_
    refine x_iadd dm_50_27 ?_
    refine x_putI dm_50_28 fl_5_52 rfl rfl hk1 ?_
    refine x_iconst (1) dm_50_31 (by decide) ?_
    exact x_zreturn dm_50_32 rfl (by decide)
  · refine x_iconst (0) dm_50_9 (by decide) ?_
    exact x_zreturn dm_50_10 rfl (by decide)
/-- FencedModules$Sandbox.addMail(I)Z -/
def fn_51 (j : Nat) (x1 : Int32) (h : im_H) : Option (Int32 × im_H) :=
  if h.2.1 j = (0, 5) then (if (im_gI h j 9) < (4 : Int32) then (((im_gR h j 7)).bind fun q3 => if im_in h 1 q3 (im_gI h j 9) then (let h5 : im_H := im_pI h q3 ((im_gI h j 9)).toNatClampNeg x1; let h6 : im_H := im_pI h5 j 9 ((im_gI h5 j 9) + (1 : Int32)); some ((1 : Int32), h6)) else none) else (some ((0 : Int32), h))) else none
set_option maxRecDepth 100000 in
set_option maxHeartbeats 4000000 in
theorem tn_51 (j : Nat) (x1 : Int32) (h : im_H) : im_Go im_zI 0 fm_51 0 (im_en 0 [.inr (some j), .inl x1]) [] h (fn_51 j x1 h) := by
  unfold fn_51
  refine x_aload_n dm_51_0 rfl ?_
  refine im_chk _ (fun hk1 => ?_)
  refine x_getI dm_51_1 fl_5_55 rfl rfl hk1 ?_
  refine x_iconst (4) dm_51_4 (by decide) ?_
  refine x_icmp_lt 10 dm_51_5 rfl (fun c2 => ?_) (fun c2 => ?_)
  · refine x_aload_n dm_51_10 rfl ?_
    refine x_getR dm_51_11 fl_5_23 rfl rfl hk1 ?_
    refine x_aload_n dm_51_14 rfl ?_
    refine x_getI dm_51_15 fl_5_55 rfl rfl hk1 ?_
    refine x_iload_n dm_51_18 rfl ?_
    refine im_bind (fun q3 hq3 => ?_)
    refine im_chk _ (fun hi4 => ?_)
    refine x_iastore dm_51_19 hq3 hi4 ?_
    refine x_aload_n dm_51_20 rfl ?_
    refine x_dup dm_51_21 ?_
    refine x_getI dm_51_22 fl_5_55 rfl rfl hk1 ?_
    refine x_iconst (1) dm_51_25 (by decide) ?_
    refine x_iadd dm_51_26 ?_
    refine x_putI dm_51_27 fl_5_55 rfl rfl hk1 ?_
    refine x_iconst (1) dm_51_30 (by decide) ?_
    exact x_zreturn dm_51_31 rfl (by decide)
  · refine x_iconst (0) dm_51_8 (by decide) ?_
    exact x_zreturn dm_51_9 rfl (by decide)
end
