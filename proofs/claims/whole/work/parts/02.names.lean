/-! names: classes, fields, methods (by wip/whole/gen_names.py) -/
def nm_R : Nat → String := fun k => match k with
  | 0 => "FencedModules$CallList"
  | 1 => "FencedModules$Code"
  | 2 => "FencedModules$Desk"
  | 3 => "FencedModules$Follower"
  | 4 => "FencedModules$Machine"
  | 5 => "FencedModules$Sandbox"
  | 6 => "FencedModules$Source"
  | 7 => "FencedModules"
  | 8 => "FencedModulesModel"
  | 9 => "FencedModules$Rewriter"
  | 10 => "FencedModules$Verifier"
  | 11 => "FencedModules$Words"
  | 12 => "java/util/Arrays"
  | _ => "FencedModulesLaw"
def nm_T0 : u_T := fun k => match k with
  | 0 => ("FencedModules$CallList", "numbers", "[I", true)
  | 1 => ("FencedModules$CallList", "firsts", "[I", true)
  | 2 => ("FencedModules$CallList", "seconds", "[I", true)
  | _ => ("FencedModules$CallList", "count", "I", false)
def nm_t0 : Nat → FieldType := fun k => match k with
  | 0 => .array .int
  | 1 => .array .int
  | 2 => .array .int
  | _ => .int
theorem nm_n0 : ∀ a, a < 4 → ∀ b, b < 4 → a ≠ b → (nm_T0 a).2.1 ≠ (nm_T0 b).2.1 := by decide +kernel
theorem nm_o0 : ∀ k, k < 4 → parseFieldDescriptor (nm_T0 k).2.2.1 = some (nm_t0 k) := by decide +kernel
set_option maxRecDepth 20000 in
theorem nm_i0 : ∀ w ∈ u_ws (nm_R 0) nm_T0 4, w ∈ lw_tbl := by decide +kernel
def nm_T1 : u_T := fun k => match k with
  | 0 => ("FencedModules$Code", "words", "[I", true)
  | _ => ("FencedModules$Code", "count", "I", false)
def nm_t1 : Nat → FieldType := fun k => match k with
  | 0 => .array .int
  | _ => .int
theorem nm_n1 : ∀ a, a < 2 → ∀ b, b < 2 → a ≠ b → (nm_T1 a).2.1 ≠ (nm_T1 b).2.1 := by decide +kernel
theorem nm_o1 : ∀ k, k < 2 → parseFieldDescriptor (nm_T1 k).2.2.1 = some (nm_t1 k) := by decide +kernel
set_option maxRecDepth 20000 in
theorem nm_i1 : ∀ w ∈ u_ws (nm_R 1) nm_T1 2, w ∈ lw_tbl := by decide +kernel
def nm_T2 : u_T := fun k => match k with
  | 0 => ("FencedModules$Desk", "calls", "LFencedModules$CallList;", true)
  | 1 => ("FencedModules$Desk", "allocated", "I", false)
  | _ => ("FencedModules$Desk", "taken", "I", false)
def nm_t2 : Nat → FieldType := fun k => match k with
  | 0 => .object "FencedModules$CallList"
  | 1 => .int
  | _ => .int
theorem nm_n2 : ∀ a, a < 3 → ∀ b, b < 3 → a ≠ b → (nm_T2 a).2.1 ≠ (nm_T2 b).2.1 := by decide +kernel
theorem nm_o2 : ∀ k, k < 3 → parseFieldDescriptor (nm_T2 k).2.2.1 = some (nm_t2 k) := by decide +kernel
set_option maxRecDepth 20000 in
theorem nm_i2 : ∀ w ∈ u_ws (nm_R 2) nm_T2 3, w ∈ lw_tbl := by decide +kernel
def nm_T3 : u_T := fun k => match k with
  | 0 => ("FencedModules$Follower", "desk", "LFencedModules$Desk;", true)
  | 1 => ("FencedModules$Follower", "ints", "[I", true)
  | 2 => ("FencedModules$Follower", "labels", "[I", true)
  | _ => ("FencedModules$Follower", "place", "I", false)
def nm_t3 : Nat → FieldType := fun k => match k with
  | 0 => .object "FencedModules$Desk"
  | 1 => .array .int
  | 2 => .array .int
  | _ => .int
theorem nm_n3 : ∀ a, a < 4 → ∀ b, b < 4 → a ≠ b → (nm_T3 a).2.1 ≠ (nm_T3 b).2.1 := by decide +kernel
theorem nm_o3 : ∀ k, k < 4 → parseFieldDescriptor (nm_T3 k).2.2.1 = some (nm_t3 k) := by decide +kernel
set_option maxRecDepth 20000 in
theorem nm_i3 : ∀ w ∈ u_ws (nm_R 3) nm_T3 4, w ∈ lw_tbl := by decide +kernel
def nm_T4 : u_T := fun k => match k with
  | 0 => ("FencedModules$Machine", "memory", "[I", true)
  | 1 => ("FencedModules$Machine", "sandboxes", "[LFencedModules$Sandbox;", true)
  | 2 => ("FencedModules$Machine", "turn", "I", false)
  | _ => ("FencedModules$Machine", "stepsInTurn", "I", false)
def nm_t4 : Nat → FieldType := fun k => match k with
  | 0 => .array .int
  | 1 => .array (.object "FencedModules$Sandbox")
  | 2 => .int
  | _ => .int
theorem nm_n4 : ∀ a, a < 4 → ∀ b, b < 4 → a ≠ b → (nm_T4 a).2.1 ≠ (nm_T4 b).2.1 := by decide +kernel
theorem nm_o4 : ∀ k, k < 4 → parseFieldDescriptor (nm_T4 k).2.2.1 = some (nm_t4 k) := by decide +kernel
set_option maxRecDepth 20000 in
theorem nm_i4 : ∀ w ∈ u_ws (nm_R 4) nm_T4 4, w ∈ lw_tbl := by decide +kernel
def nm_T5 : u_T := fun k => match k with
  | 0 => ("FencedModules$Sandbox", "number", "I", true)
  | 1 => ("FencedModules$Sandbox", "registers", "[I", true)
  | 2 => ("FencedModules$Sandbox", "inputs", "[I", true)
  | 3 => ("FencedModules$Sandbox", "desk", "LFencedModules$Desk;", true)
  | 4 => ("FencedModules$Sandbox", "inputCount", "I", false)
  | 5 => ("FencedModules$Sandbox", "pc", "I", false)
  | 6 => ("FencedModules$Sandbox", "state", "I", false)
  | 7 => ("FencedModules$Sandbox", "mailbox", "[I", true)
  | 8 => ("FencedModules$Sandbox", "outputs", "[I", true)
  | 9 => ("FencedModules$Sandbox", "mailCount", "I", false)
  | _ => ("FencedModules$Sandbox", "outputCount", "I", false)
def nm_t5 : Nat → FieldType := fun k => match k with
  | 0 => .int
  | 1 => .array .int
  | 2 => .array .int
  | 3 => .object "FencedModules$Desk"
  | 4 => .int
  | 5 => .int
  | 6 => .int
  | 7 => .array .int
  | 8 => .array .int
  | 9 => .int
  | _ => .int
theorem nm_n5 : ∀ a, a < 11 → ∀ b, b < 11 → a ≠ b → (nm_T5 a).2.1 ≠ (nm_T5 b).2.1 := by decide +kernel
theorem nm_o5 : ∀ k, k < 11 → parseFieldDescriptor (nm_T5 k).2.2.1 = some (nm_t5 k) := by decide +kernel
set_option maxRecDepth 20000 in
theorem nm_i5 : ∀ w ∈ u_ws (nm_R 5) nm_T5 11, w ∈ lw_tbl := by decide +kernel
def nm_T6 : u_T := fun k => match k with
  | 0 => ("FencedModules$Source", "ops", "[I", true)
  | 1 => ("FencedModules$Source", "as", "[I", true)
  | 2 => ("FencedModules$Source", "bs", "[I", true)
  | 3 => ("FencedModules$Source", "is", "[I", true)
  | 4 => ("FencedModules$Source", "places", "[I", true)
  | _ => ("FencedModules$Source", "count", "I", false)
def nm_t6 : Nat → FieldType := fun k => match k with
  | 0 => .array .int
  | 1 => .array .int
  | 2 => .array .int
  | 3 => .array .int
  | 4 => .array .int
  | _ => .int
theorem nm_n6 : ∀ a, a < 6 → ∀ b, b < 6 → a ≠ b → (nm_T6 a).2.1 ≠ (nm_T6 b).2.1 := by decide +kernel
theorem nm_o6 : ∀ k, k < 6 → parseFieldDescriptor (nm_T6 k).2.2.1 = some (nm_t6 k) := by decide +kernel
set_option maxRecDepth 20000 in
theorem nm_i6 : ∀ w ∈ u_ws (nm_R 6) nm_T6 6, w ∈ lw_tbl := by decide +kernel
def nm_T7 : u_T := fun k => match k with
  | 0 => ("FencedModules", "source", "LFencedModules$Source;", true)
  | 1 => ("FencedModules", "code", "LFencedModules$Code;", true)
  | 2 => ("FencedModules", "machine", "LFencedModules$Machine;", true)
  | _ => ("FencedModules", "follower", "LFencedModules$Follower;", true)
def nm_t7 : Nat → FieldType := fun k => match k with
  | 0 => .object "FencedModules$Source"
  | 1 => .object "FencedModules$Code"
  | 2 => .object "FencedModules$Machine"
  | _ => .object "FencedModules$Follower"
theorem nm_n7 : ∀ a, a < 4 → ∀ b, b < 4 → a ≠ b → (nm_T7 a).2.1 ≠ (nm_T7 b).2.1 := by decide +kernel
theorem nm_o7 : ∀ k, k < 4 → parseFieldDescriptor (nm_T7 k).2.2.1 = some (nm_t7 k) := by decide +kernel
set_option maxRecDepth 20000 in
theorem nm_i7 : ∀ w ∈ u_ws (nm_R 7) nm_T7 4, w ∈ lw_tbl := by decide +kernel
def nm_T8 : u_T := fun k => match k with
  | 0 => ("FencedModulesModel", "memory", "[I", true)
  | 1 => ("FencedModulesModel", "state", "[I", true)
  | 2 => ("FencedModulesModel", "register", "[I", true)
  | 3 => ("FencedModulesModel", "pc", "[I", true)
  | 4 => ("FencedModulesModel", "grown", "[I", true)
  | 5 => ("FencedModulesModel", "mail", "[I", true)
  | 6 => ("FencedModulesModel", "mails", "[I", true)
  | 7 => ("FencedModulesModel", "input", "[I", true)
  | 8 => ("FencedModulesModel", "fed", "[I", true)
  | 9 => ("FencedModulesModel", "taken", "[I", true)
  | 10 => ("FencedModulesModel", "out", "[I", true)
  | 11 => ("FencedModulesModel", "outs", "[I", true)
  | 12 => ("FencedModulesModel", "calls", "[I", true)
  | 13 => ("FencedModulesModel", "called", "[I", true)
  | 14 => ("FencedModulesModel", "turn", "I", false)
  | 15 => ("FencedModulesModel", "inTurn", "I", false)
  | 16 => ("FencedModulesModel", "lines", "I", false)
  | 17 => ("FencedModulesModel", "lineOp", "[I", true)
  | 18 => ("FencedModulesModel", "lineA", "[I", true)
  | 19 => ("FencedModulesModel", "lineB", "[I", true)
  | 20 => ("FencedModulesModel", "lineI", "[I", true)
  | 21 => ("FencedModulesModel", "isSet", "[Z", true)
  | 22 => ("FencedModulesModel", "label", "[I", true)
  | 23 => ("FencedModulesModel", "words", "I", false)
  | 24 => ("FencedModulesModel", "module", "[I", true)
  | 25 => ("FencedModulesModel", "cell", "[I", true)
  | 26 => ("FencedModulesModel", "named", "[Z", true)
  | 27 => ("FencedModulesModel", "place", "I", false)
  | 28 => ("FencedModulesModel", "followBreak", "I", false)
  | 29 => ("FencedModulesModel", "followTaken", "I", false)
  | 30 => ("FencedModulesModel", "traces", "I", false)
  | _ => ("FencedModulesModel", "traced", "[I", true)
def nm_t8 : Nat → FieldType := fun k => match k with
  | 0 => .array .int
  | 1 => .array .int
  | 2 => .array .int
  | 3 => .array .int
  | 4 => .array .int
  | 5 => .array .int
  | 6 => .array .int
  | 7 => .array .int
  | 8 => .array .int
  | 9 => .array .int
  | 10 => .array .int
  | 11 => .array .int
  | 12 => .array .int
  | 13 => .array .int
  | 14 => .int
  | 15 => .int
  | 16 => .int
  | 17 => .array .int
  | 18 => .array .int
  | 19 => .array .int
  | 20 => .array .int
  | 21 => .array .boolean
  | 22 => .array .int
  | 23 => .int
  | 24 => .array .int
  | 25 => .array .int
  | 26 => .array .boolean
  | 27 => .int
  | 28 => .int
  | 29 => .int
  | 30 => .int
  | _ => .array .int
theorem nm_n8 : ∀ a, a < 32 → ∀ b, b < 32 → a ≠ b → (nm_T8 a).2.1 ≠ (nm_T8 b).2.1 := by decide +kernel
theorem nm_o8 : ∀ k, k < 32 → parseFieldDescriptor (nm_T8 k).2.2.1 = some (nm_t8 k) := by decide +kernel
set_option maxRecDepth 20000 in
theorem nm_i8 : ∀ w ∈ u_ws (nm_R 8) nm_T8 32, w ∈ lw_tbl := by decide +kernel
abbrev nm_cl : List vw_C := [(nm_R 0, nm_T0, 4), (nm_R 1, nm_T1, 2), (nm_R 2, nm_T2, 3), (nm_R 3, nm_T3, 4), (nm_R 4, nm_T4, 4), (nm_R 5, nm_T5, 11), (nm_R 6, nm_T6, 6), (nm_R 7, nm_T7, 4), (nm_R 8, nm_T8, 32)]
def nm_ty : Nat → Nat → FieldType := fun c => match c with
  | 0 => nm_t0
  | 1 => nm_t1
  | 2 => nm_t2
  | 3 => nm_t3
  | 4 => nm_t4
  | 5 => nm_t5
  | 6 => nm_t6
  | 7 => nm_t7
  | _ => nm_t8
abbrev cm_0 : ByteArray := prog_2_method_1_code
abbrev cm_1 : ByteArray := prog_2_method_2_code
abbrev cm_2 : ByteArray := prog_2_method_3_code
abbrev cm_3 : ByteArray := prog_2_method_4_code
abbrev cm_4 : ByteArray := prog_3_method_1_code
abbrev cm_5 : ByteArray := prog_3_method_2_code
abbrev cm_6 : ByteArray := prog_3_method_3_code
abbrev cm_7 : ByteArray := prog_3_method_4_code
abbrev cm_8 : ByteArray := prog_3_method_5_code
abbrev cm_9 : ByteArray := prog_4_method_1_code
abbrev cm_10 : ByteArray := prog_4_method_2_code
abbrev cm_11 : ByteArray := prog_4_method_3_code
abbrev cm_12 : ByteArray := prog_4_method_4_code
abbrev cm_13 : ByteArray := prog_4_method_5_code
abbrev cm_14 : ByteArray := prog_4_method_6_code
abbrev cm_15 : ByteArray := prog_4_method_7_code
abbrev cm_16 : ByteArray := prog_4_method_8_code
abbrev cm_17 : ByteArray := prog_5_method_1_code
abbrev cm_18 : ByteArray := prog_5_method_2_code
abbrev cm_19 : ByteArray := prog_5_method_3_code
abbrev cm_20 : ByteArray := prog_5_method_4_code
abbrev cm_21 : ByteArray := prog_5_method_5_code
abbrev cm_22 : ByteArray := prog_5_method_6_code
abbrev cm_23 : ByteArray := prog_5_method_7_code
abbrev cm_24 : ByteArray := prog_5_method_8_code
abbrev cm_25 : ByteArray := prog_5_method_9_code
abbrev cm_26 : ByteArray := prog_5_method_10_code
abbrev cm_27 : ByteArray := prog_5_method_11_code
abbrev cm_28 : ByteArray := prog_5_method_12_code
abbrev cm_29 : ByteArray := prog_5_method_13_code
abbrev cm_30 : ByteArray := prog_6_method_1_code
abbrev cm_31 : ByteArray := prog_6_method_2_code
abbrev cm_32 : ByteArray := prog_6_method_3_code
abbrev cm_33 : ByteArray := prog_6_method_4_code
abbrev cm_34 : ByteArray := prog_6_method_5_code
abbrev cm_35 : ByteArray := prog_6_method_6_code
abbrev cm_36 : ByteArray := prog_6_method_7_code
abbrev cm_37 : ByteArray := prog_6_method_8_code
abbrev cm_38 : ByteArray := prog_6_method_9_code
abbrev cm_39 : ByteArray := prog_6_method_10_code
abbrev cm_40 : ByteArray := prog_6_method_11_code
abbrev cm_41 : ByteArray := prog_6_method_12_code
abbrev cm_42 : ByteArray := prog_6_method_13_code
abbrev cm_43 : ByteArray := prog_6_method_14_code
abbrev cm_44 : ByteArray := prog_8_method_1_code
abbrev cm_45 : ByteArray := prog_8_method_2_code
abbrev cm_46 : ByteArray := prog_8_method_3_code
abbrev cm_47 : ByteArray := prog_8_method_4_code
abbrev cm_48 : ByteArray := prog_8_method_5_code
abbrev cm_49 : ByteArray := prog_8_method_6_code
abbrev cm_50 : ByteArray := prog_8_method_7_code
abbrev cm_51 : ByteArray := prog_8_method_8_code
abbrev cm_52 : ByteArray := prog_8_method_9_code
abbrev cm_53 : ByteArray := prog_8_method_10_code
abbrev cm_54 : ByteArray := prog_8_method_11_code
abbrev cm_55 : ByteArray := prog_9_method_1_code
abbrev cm_56 : ByteArray := prog_9_method_2_code
abbrev cm_57 : ByteArray := prog_9_method_3_code
abbrev cm_58 : ByteArray := prog_9_method_4_code
abbrev cm_59 : ByteArray := prog_9_method_5_code
abbrev cm_60 : ByteArray := prog_9_method_6_code
abbrev cm_61 : ByteArray := prog_9_method_7_code
abbrev cm_62 : ByteArray := prog_9_method_8_code
abbrev cm_63 : ByteArray := prog_9_method_9_code
abbrev cm_64 : ByteArray := prog_9_method_10_code
abbrev cm_65 : ByteArray := prog_9_method_11_code
abbrev cm_66 : ByteArray := prog_9_method_12_code
abbrev cm_67 : ByteArray := prog_9_method_13_code
abbrev cm_68 : ByteArray := prog_9_method_14_code
abbrev cm_69 : ByteArray := prog_9_method_15_code
abbrev cm_70 : ByteArray := prog_9_method_16_code
abbrev cm_71 : ByteArray := prog_9_method_17_code
abbrev cm_72 : ByteArray := prog_1_method_1_code
abbrev cm_73 : ByteArray := prog_1_method_2_code
abbrev cm_74 : ByteArray := prog_1_method_3_code
abbrev cm_75 : ByteArray := prog_1_method_4_code
abbrev cm_76 : ByteArray := prog_1_method_5_code
abbrev cm_77 : ByteArray := prog_1_method_6_code
abbrev cm_78 : ByteArray := prog_1_method_7_code
abbrev cm_79 : ByteArray := prog_1_method_8_code
abbrev cm_80 : ByteArray := prog_1_method_9_code
abbrev cm_81 : ByteArray := prog_1_method_10_code
abbrev cm_82 : ByteArray := prog_1_method_11_code
abbrev cm_83 : ByteArray := prog_1_method_12_code
abbrev cm_84 : ByteArray := prog_1_method_13_code
abbrev cm_85 : ByteArray := prog_1_method_14_code
abbrev cm_86 : ByteArray := prog_1_method_15_code
abbrev cm_87 : ByteArray := prog_1_method_16_code
abbrev cm_88 : ByteArray := prog_1_method_17_code
abbrev cm_89 : ByteArray := prog_1_method_18_code
abbrev cm_90 : ByteArray := prog_1_method_19_code
abbrev cm_91 : ByteArray := prog_13_method_1_code
abbrev cm_92 : ByteArray := prog_13_method_2_code
abbrev cm_93 : ByteArray := prog_13_method_3_code
abbrev cm_94 : ByteArray := prog_13_method_4_code
abbrev cm_95 : ByteArray := prog_13_method_5_code
abbrev cm_96 : ByteArray := prog_13_method_6_code
abbrev cm_97 : ByteArray := prog_13_method_7_code
abbrev cm_98 : ByteArray := prog_13_method_8_code
abbrev cm_99 : ByteArray := prog_13_method_9_code
abbrev cm_100 : ByteArray := prog_13_method_10_code
abbrev cm_101 : ByteArray := prog_13_method_11_code
abbrev cm_102 : ByteArray := prog_13_method_12_code
abbrev cm_103 : ByteArray := prog_13_method_13_code
abbrev cm_104 : ByteArray := prog_13_method_14_code
abbrev cm_105 : ByteArray := prog_13_method_15_code
abbrev cm_106 : ByteArray := prog_13_method_16_code
abbrev cm_107 : ByteArray := prog_13_method_17_code
abbrev cm_108 : ByteArray := prog_13_method_18_code
abbrev cm_109 : ByteArray := prog_13_method_19_code
abbrev cm_110 : ByteArray := prog_13_method_20_code
abbrev cm_111 : ByteArray := prog_13_method_21_code
abbrev cm_112 : ByteArray := prog_13_method_22_code
abbrev cm_113 : ByteArray := prog_13_method_23_code
abbrev cm_114 : ByteArray := prog_13_method_24_code
abbrev cm_115 : ByteArray := prog_13_method_25_code
abbrev cm_116 : ByteArray := prog_13_method_26_code
abbrev cm_117 : ByteArray := prog_13_method_27_code
abbrev cm_118 : ByteArray := prog_13_method_28_code
abbrev cm_119 : ByteArray := prog_13_method_29_code
abbrev cm_120 : ByteArray := prog_13_method_30_code
abbrev cm_121 : ByteArray := prog_13_method_31_code
abbrev cm_122 : ByteArray := prog_13_method_32_code
abbrev cm_123 : ByteArray := prog_13_method_33_code
abbrev cm_124 : ByteArray := prog_13_method_34_code
abbrev cm_125 : ByteArray := prog_13_method_35_code
abbrev cm_126 : ByteArray := prog_13_method_36_code
abbrev cm_127 : ByteArray := prog_13_method_37_code
abbrev cm_128 : ByteArray := prog_13_method_38_code
abbrev cm_129 : ByteArray := prog_13_method_39_code
abbrev cm_130 : ByteArray := prog_13_method_40_code
abbrev cm_131 : ByteArray := prog_13_method_41_code
abbrev cm_132 : ByteArray := prog_13_method_42_code
abbrev cm_133 : ByteArray := prog_7_method_2_code
abbrev cm_134 : ByteArray := prog_7_method_3_code
abbrev cm_135 : ByteArray := prog_7_method_4_code
abbrev cm_136 : ByteArray := prog_7_method_5_code
abbrev cm_137 : ByteArray := prog_7_method_6_code
abbrev cm_138 : ByteArray := prog_7_method_7_code
abbrev cm_139 : ByteArray := prog_10_method_2_code
abbrev cm_140 : ByteArray := prog_10_method_3_code
abbrev cm_141 : ByteArray := prog_10_method_4_code
abbrev cm_142 : ByteArray := prog_10_method_5_code
abbrev cm_143 : ByteArray := prog_11_method_2_code
abbrev cm_144 : ByteArray := prog_11_method_3_code
abbrev cm_145 : ByteArray := prog_11_method_4_code
abbrev cm_146 : ByteArray := prog_11_method_5_code
abbrev cm_147 : ByteArray := prog_11_method_6_code
abbrev cm_148 : ByteArray := prog_11_method_7_code
abbrev cm_149 : ByteArray := prog_11_method_8_code
abbrev cm_150 : ByteArray := prog_14_method_103_code
