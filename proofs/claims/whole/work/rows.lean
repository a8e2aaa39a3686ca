section
-- ===== PART A: goes FIRST, ahead of the names: the tables' words, and 'selects' of the private methods out of them =====
/-- a private method of a class that the tables say can be made, by its rows of tables_1 -/
def lw_okq (q : MethodName × Nat) : Prop := (q.1.cls ≠ "java/lang/invoke/MethodHandle" ∧ q.1.cls ≠ "java/lang/invoke/VarHandle") ∧ Cond.instantiable q.1.cls q.2 ∈ tables_1 ∧ Cond.privateMethod q.1 ∈ tables_1 ∧ Cond.instanceMethod q.1 ∈ tables_1
theorem lw_p0 : lw_okq (⟨"CellSettling", "kindAt", "(I)LCellSettling$Kind;"⟩, 11) := ⟨⟨by decide +kernel, by decide +kernel⟩, List.mem_of_getElem? (i := 10) (by decide +kernel), List.mem_of_getElem? (i := 152) (by decide +kernel), List.mem_of_getElem? (i := 153) (by decide +kernel)⟩
theorem lw_p1 : lw_okq (⟨"CellSettling", "tell", "(IIIJJ)V"⟩, 11) := ⟨⟨by decide +kernel, by decide +kernel⟩, List.mem_of_getElem? (i := 10) (by decide +kernel), List.mem_of_getElem? (i := 173) (by decide +kernel), List.mem_of_getElem? (i := 174) (by decide +kernel)⟩
theorem lw_p2 : lw_okq (⟨"CellSettling", "carryOut", "(I)V"⟩, 11) := ⟨⟨by decide +kernel, by decide +kernel⟩, List.mem_of_getElem? (i := 10) (by decide +kernel), List.mem_of_getElem? (i := 182) (by decide +kernel), List.mem_of_getElem? (i := 183) (by decide +kernel)⟩
theorem lw_p3 : lw_okq (⟨"CellSettling", "passYears", "(I)V"⟩, 11) := ⟨⟨by decide +kernel, by decide +kernel⟩, List.mem_of_getElem? (i := 10) (by decide +kernel), List.mem_of_getElem? (i := 202) (by decide +kernel), List.mem_of_getElem? (i := 203) (by decide +kernel)⟩
theorem lw_p4 : lw_okq (⟨"CellSettling", "compare", "(LCellSettling$Column;J)V"⟩, 11) := ⟨⟨by decide +kernel, by decide +kernel⟩, List.mem_of_getElem? (i := 10) (by decide +kernel), List.mem_of_getElem? (i := 218) (by decide +kernel), List.mem_of_getElem? (i := 219) (by decide +kernel)⟩
theorem lw_p5 : lw_okq (⟨"CellSettling", "columnAt", "(I)LCellSettling$Column;"⟩, 11) := ⟨⟨by decide +kernel, by decide +kernel⟩, List.mem_of_getElem? (i := 10) (by decide +kernel), List.mem_of_getElem? (i := 240) (by decide +kernel), List.mem_of_getElem? (i := 241) (by decide +kernel)⟩
theorem lw_p6 : lw_okq (⟨"CellSettling", "firstThickness", "(LCellSettling$Kind;J)J"⟩, 11) := ⟨⟨by decide +kernel, by decide +kernel⟩, List.mem_of_getElem? (i := 10) (by decide +kernel), List.mem_of_getElem? (i := 245) (by decide +kernel), List.mem_of_getElem? (i := 246) (by decide +kernel)⟩
theorem lw_p7 : lw_okq (⟨"CellSettling", "surfaceAt", "(I)LCellSettling$Surface;"⟩, 11) := ⟨⟨by decide +kernel, by decide +kernel⟩, List.mem_of_getElem? (i := 10) (by decide +kernel), List.mem_of_getElem? (i := 311) (by decide +kernel), List.mem_of_getElem? (i := 312) (by decide +kernel)⟩
theorem lw_p8 : lw_okq (⟨"CellSettling$Surface", "sixfoldOfSquare", "(LCellSettling$Surface;I)J"⟩, 2) := ⟨⟨by decide +kernel, by decide +kernel⟩, List.mem_of_getElem? (i := 293) (by decide +kernel), List.mem_of_getElem? (i := 335) (by decide +kernel), List.mem_of_getElem? (i := 336) (by decide +kernel)⟩
theorem lw_p9 : lw_okq (⟨"CellSettling$Surface", "inBoth", "(LCellSettling$Surface;I)Z"⟩, 2) := ⟨⟨by decide +kernel, by decide +kernel⟩, List.mem_of_getElem? (i := 293) (by decide +kernel), List.mem_of_getElem? (i := 339) (by decide +kernel), List.mem_of_getElem? (i := 340) (by decide +kernel)⟩
theorem lw_p10 : lw_okq (⟨"CellSettling$Surface", "rise", "(LCellSettling$Surface;I)J"⟩, 2) := ⟨⟨by decide +kernel, by decide +kernel⟩, List.mem_of_getElem? (i := 293) (by decide +kernel), List.mem_of_getElem? (i := 344) (by decide +kernel), List.mem_of_getElem? (i := 345) (by decide +kernel)⟩
theorem lw_p11 : lw_okq (⟨"CellSettling", "phaseAt", "(I)LCellSettling$Phase;"⟩, 11) := ⟨⟨by decide +kernel, by decide +kernel⟩, List.mem_of_getElem? (i := 10) (by decide +kernel), List.mem_of_getElem? (i := 379) (by decide +kernel), List.mem_of_getElem? (i := 380) (by decide +kernel)⟩
theorem lw_p12 : lw_okq (⟨"CellSettling", "stepBehind", "(I)J"⟩, 11) := ⟨⟨by decide +kernel, by decide +kernel⟩, List.mem_of_getElem? (i := 10) (by decide +kernel), List.mem_of_getElem? (i := 383) (by decide +kernel), List.mem_of_getElem? (i := 384) (by decide +kernel)⟩
theorem lw_p13 : lw_okq (⟨"CellSettling", "leastByKind", "(LCellSettling$Kind;J)J"⟩, 11) := ⟨⟨by decide +kernel, by decide +kernel⟩, List.mem_of_getElem? (i := 10) (by decide +kernel), List.mem_of_getElem? (i := 407) (by decide +kernel), List.mem_of_getElem? (i := 408) (by decide +kernel)⟩
theorem lw_p14 : lw_okq (⟨"CellSettling", "doAllAnew", "()V"⟩, 11) := ⟨⟨by decide +kernel, by decide +kernel⟩, List.mem_of_getElem? (i := 10) (by decide +kernel), List.mem_of_getElem? (i := 411) (by decide +kernel), List.mem_of_getElem? (i := 412) (by decide +kernel)⟩
theorem lw_p15 : lw_okq (⟨"CellSettlingModel", "tell", "(IIIJJ)V"⟩, 29) := ⟨⟨by decide +kernel, by decide +kernel⟩, List.mem_of_getElem? (i := 426) (by decide +kernel), List.mem_of_getElem? (i := 539) (by decide +kernel), List.mem_of_getElem? (i := 540) (by decide +kernel)⟩
def lw_privs_1 : List (MethodName × Nat) := [(⟨"CellSettling", "kindAt", "(I)LCellSettling$Kind;"⟩, 11), (⟨"CellSettling", "tell", "(IIIJJ)V"⟩, 11), (⟨"CellSettling", "carryOut", "(I)V"⟩, 11), (⟨"CellSettling", "passYears", "(I)V"⟩, 11), (⟨"CellSettling", "compare", "(LCellSettling$Column;J)V"⟩, 11), (⟨"CellSettling", "columnAt", "(I)LCellSettling$Column;"⟩, 11), (⟨"CellSettling", "firstThickness", "(LCellSettling$Kind;J)J"⟩, 11), (⟨"CellSettling", "surfaceAt", "(I)LCellSettling$Surface;"⟩, 11), (⟨"CellSettling$Surface", "sixfoldOfSquare", "(LCellSettling$Surface;I)J"⟩, 2), (⟨"CellSettling$Surface", "inBoth", "(LCellSettling$Surface;I)Z"⟩, 2), (⟨"CellSettling$Surface", "rise", "(LCellSettling$Surface;I)J"⟩, 2), (⟨"CellSettling", "phaseAt", "(I)LCellSettling$Phase;"⟩, 11), (⟨"CellSettling", "stepBehind", "(I)J"⟩, 11), (⟨"CellSettling", "leastByKind", "(LCellSettling$Kind;J)J"⟩, 11), (⟨"CellSettling", "doAllAnew", "()V"⟩, 11), (⟨"CellSettlingModel", "tell", "(IIIJJ)V"⟩, 29)]
theorem lw_r1 : ∀ q ∈ lw_privs_1, lw_okq q := List.forall_mem_cons.mpr ⟨lw_p0, List.forall_mem_cons.mpr ⟨lw_p1, List.forall_mem_cons.mpr ⟨lw_p2, List.forall_mem_cons.mpr ⟨lw_p3, List.forall_mem_cons.mpr ⟨lw_p4, List.forall_mem_cons.mpr ⟨lw_p5, List.forall_mem_cons.mpr ⟨lw_p6, List.forall_mem_cons.mpr ⟨lw_p7, List.forall_mem_cons.mpr ⟨lw_p8, List.forall_mem_cons.mpr ⟨lw_p9, List.forall_mem_cons.mpr ⟨lw_p10, List.forall_mem_cons.mpr ⟨lw_p11, List.forall_mem_cons.mpr ⟨lw_p12, List.forall_mem_cons.mpr ⟨lw_p13, List.forall_mem_cons.mpr ⟨lw_p14, List.forall_mem_cons.mpr ⟨lw_p15, fun _ h => absurd h List.not_mem_nil⟩⟩⟩⟩⟩⟩⟩⟩⟩⟩⟩⟩⟩⟩⟩⟩
theorem lw_p16 : lw_okq (⟨"CellSettlingModel", "doAnew", "()V"⟩, 29) := ⟨⟨by decide +kernel, by decide +kernel⟩, List.mem_of_getElem? (i := 426) (by decide +kernel), List.mem_of_getElem? (i := 543) (by decide +kernel), List.mem_of_getElem? (i := 544) (by decide +kernel)⟩
theorem lw_p17 : lw_okq (⟨"CellSettlingModel", "act", "(I)V"⟩, 29) := ⟨⟨by decide +kernel, by decide +kernel⟩, List.mem_of_getElem? (i := 426) (by decide +kernel), List.mem_of_getElem? (i := 547) (by decide +kernel), List.mem_of_getElem? (i := 548) (by decide +kernel)⟩
theorem lw_p18 : lw_okq (⟨"CellSettlingModel", "onePass", "(I)V"⟩, 29) := ⟨⟨by decide +kernel, by decide +kernel⟩, List.mem_of_getElem? (i := 426) (by decide +kernel), List.mem_of_getElem? (i := 551) (by decide +kernel), List.mem_of_getElem? (i := 552) (by decide +kernel)⟩
theorem lw_p19 : lw_okq (⟨"CellSettlingModel", "oneYear", "()V"⟩, 29) := ⟨⟨by decide +kernel, by decide +kernel⟩, List.mem_of_getElem? (i := 426) (by decide +kernel), List.mem_of_getElem? (i := 555) (by decide +kernel), List.mem_of_getElem? (i := 556) (by decide +kernel)⟩
theorem lw_p20 : lw_okq (⟨"CellSettlingModel", "heightOf", "(I)J"⟩, 29) := ⟨⟨by decide +kernel, by decide +kernel⟩, List.mem_of_getElem? (i := 426) (by decide +kernel), List.mem_of_getElem? (i := 560) (by decide +kernel), List.mem_of_getElem? (i := 561) (by decide +kernel)⟩
theorem lw_p21 : lw_okq (⟨"CellSettlingModel", "isColumn", "(I)Z"⟩, 29) := ⟨⟨by decide +kernel, by decide +kernel⟩, List.mem_of_getElem? (i := 426) (by decide +kernel), List.mem_of_getElem? (i := 570) (by decide +kernel), List.mem_of_getElem? (i := 571) (by decide +kernel)⟩
theorem lw_p22 : lw_okq (⟨"CellSettlingModel", "isSurface", "(I)Z"⟩, 29) := ⟨⟨by decide +kernel, by decide +kernel⟩, List.mem_of_getElem? (i := 426) (by decide +kernel), List.mem_of_getElem? (i := 619) (by decide +kernel), List.mem_of_getElem? (i := 620) (by decide +kernel)⟩
theorem lw_p23 : lw_okq (⟨"CellSettlingModel", "isTold", "(III)Z"⟩, 29) := ⟨⟨by decide +kernel, by decide +kernel⟩, List.mem_of_getElem? (i := 426) (by decide +kernel), List.mem_of_getElem? (i := 631) (by decide +kernel), List.mem_of_getElem? (i := 632) (by decide +kernel)⟩
theorem lw_p24 : lw_okq (⟨"CellSettlingModel", "apart", "(III)J"⟩, 29) := ⟨⟨by decide +kernel, by decide +kernel⟩, List.mem_of_getElem? (i := 426) (by decide +kernel), List.mem_of_getElem? (i := 636) (by decide +kernel), List.mem_of_getElem? (i := 637) (by decide +kernel)⟩
theorem lw_p25 : lw_okq (⟨"CellSettlingModel", "step", "(I)J"⟩, 29) := ⟨⟨by decide +kernel, by decide +kernel⟩, List.mem_of_getElem? (i := 426) (by decide +kernel), List.mem_of_getElem? (i := 652) (by decide +kernel), List.mem_of_getElem? (i := 653) (by decide +kernel)⟩
theorem lw_p26 : lw_okq (⟨"CellSettlingModel", "isBetter", "(II)Z"⟩, 29) := ⟨⟨by decide +kernel, by decide +kernel⟩, List.mem_of_getElem? (i := 426) (by decide +kernel), List.mem_of_getElem? (i := 673) (by decide +kernel), List.mem_of_getElem? (i := 674) (by decide +kernel)⟩
def lw_privs_2 : List (MethodName × Nat) := [(⟨"CellSettlingModel", "doAnew", "()V"⟩, 29), (⟨"CellSettlingModel", "act", "(I)V"⟩, 29), (⟨"CellSettlingModel", "onePass", "(I)V"⟩, 29), (⟨"CellSettlingModel", "oneYear", "()V"⟩, 29), (⟨"CellSettlingModel", "heightOf", "(I)J"⟩, 29), (⟨"CellSettlingModel", "isColumn", "(I)Z"⟩, 29), (⟨"CellSettlingModel", "isSurface", "(I)Z"⟩, 29), (⟨"CellSettlingModel", "isTold", "(III)Z"⟩, 29), (⟨"CellSettlingModel", "apart", "(III)J"⟩, 29), (⟨"CellSettlingModel", "step", "(I)J"⟩, 29), (⟨"CellSettlingModel", "isBetter", "(II)Z"⟩, 29)]
theorem lw_r2 : ∀ q ∈ lw_privs_2, lw_okq q := List.forall_mem_cons.mpr ⟨lw_p16, List.forall_mem_cons.mpr ⟨lw_p17, List.forall_mem_cons.mpr ⟨lw_p18, List.forall_mem_cons.mpr ⟨lw_p19, List.forall_mem_cons.mpr ⟨lw_p20, List.forall_mem_cons.mpr ⟨lw_p21, List.forall_mem_cons.mpr ⟨lw_p22, List.forall_mem_cons.mpr ⟨lw_p23, List.forall_mem_cons.mpr ⟨lw_p24, List.forall_mem_cons.mpr ⟨lw_p25, List.forall_mem_cons.mpr ⟨lw_p26, fun _ h => absurd h List.not_mem_nil⟩⟩⟩⟩⟩⟩⟩⟩⟩⟩⟩
def lw_privs : List (MethodName × Nat) := lw_privs_1 ++ (lw_privs_2)
def lw_tbl : List Cond := k2_sels lw_privs ++ tables_1
theorem lw_privs_ok : ∀ q ∈ lw_privs, lw_okq q := by
  show ∀ q ∈ lw_privs_1 ++ (lw_privs_2), lw_okq q
  exact List.forall_mem_append.mpr ⟨lw_r1, lw_r2⟩
end
section
/-! NAMES: printed by wip/gen/names.py out of the tables and javap's listing -/
def R_Col : String := "CellSettling$Column"
def T_Col : u_T := fun k => match k with
  | 0 => ("CellSettling$Column", "kindNumbers", "[I", true)
  | 1 => ("CellSettling$Column", "passes", "[I", true)
  | 2 => ("CellSettling$Column", "kilograms", "[J", true)
  | 3 => ("CellSettling$Column", "thicknesses", "[J", true)
  | 4 => ("CellSettling$Column", "layerCount", "I", false)
  | _ => ("CellSettling$Column", "covers", "I", false)
def v_Col : Nat → FieldType := fun k => match k with
  | 0 => .array .int
  | 1 => .array .int
  | 2 => .array .long
  | 3 => .array .long
  | 4 => .int
  | _ => .int
theorem n_Col : ∀ a, a < 6 → ∀ b, b < 6 → a ≠ b → (T_Col a).2.1 ≠ (T_Col b).2.1 := by decide +kernel
theorem v_Col_ok : ∀ k, k < 6 → parseFieldDescriptor (T_Col k).2.2.1 = some (v_Col k) := by decide +kernel
def R_Kin : String := "CellSettling$Kind"
def T_Kin : u_T := fun k => match k with
  | 0 => ("CellSettling$Kind", "loads", "[J", true)
  | 1 => ("CellSettling$Kind", "thousandths", "[I", true)
  | 2 => ("CellSettling$Kind", "rowCount", "I", false)
  | 3 => ("CellSettling$Kind", "density", "I", false)
  | _ => ("CellSettling$Kind", "factor", "I", false)
def v_Kin : Nat → FieldType := fun k => match k with
  | 0 => .array .long
  | 1 => .array .int
  | 2 => .int
  | 3 => .int
  | _ => .int
theorem n_Kin : ∀ a, a < 5 → ∀ b, b < 5 → a ≠ b → (T_Kin a).2.1 ≠ (T_Kin b).2.1 := by decide +kernel
theorem v_Kin_ok : ∀ k, k < 5 → parseFieldDescriptor (T_Kin k).2.2.1 = some (v_Kin k) := by decide +kernel
def R_Pha : String := "CellSettling$Phase"
def T_Pha : u_T := fun k => match k with
  | 0 => ("CellSettling$Phase", "from", "I", true)
  | 1 => ("CellSettling$Phase", "to", "I", true)
  | _ => ("CellSettling$Phase", "slope", "J", true)
def v_Pha : Nat → FieldType := fun k => match k with
  | 0 => .int
  | 1 => .int
  | _ => .long
theorem n_Pha : ∀ a, a < 3 → ∀ b, b < 3 → a ≠ b → (T_Pha a).2.1 ≠ (T_Pha b).2.1 := by decide +kernel
theorem v_Pha_ok : ∀ k, k < 3 → parseFieldDescriptor (T_Pha k).2.2.1 = some (v_Pha k) := by decide +kernel
def R_Sur : String := "CellSettling$Surface"
def T_Sur : u_T := fun k => match k with
  | 0 => ("CellSettling$Surface", "heights", "[I", true)
  | _ => ("CellSettling$Surface", "isTold", "[Z", true)
def v_Sur : Nat → FieldType := fun k => match k with
  | 0 => .array .int
  | _ => .array .boolean
theorem n_Sur : ∀ a, a < 2 → ∀ b, b < 2 → a ≠ b → (T_Sur a).2.1 ≠ (T_Sur b).2.1 := by decide +kernel
theorem v_Sur_ok : ∀ k, k < 2 → parseFieldDescriptor (T_Sur k).2.2.1 = some (v_Sur k) := by decide +kernel
def R_Tol : String := "CellSettling$Told"
def T_Tol : u_T := fun k => match k with
  | 0 => ("CellSettling$Told", "whats", "[I", true)
  | 1 => ("CellSettling$Told", "places", "[I", true)
  | 2 => ("CellSettling$Told", "numbers", "[I", true)
  | 3 => ("CellSettling$Told", "amounts", "[J", true)
  | 4 => ("CellSettling$Told", "thicknesses", "[J", true)
  | _ => ("CellSettling$Told", "count", "I", false)
def v_Tol : Nat → FieldType := fun k => match k with
  | 0 => .array .int
  | 1 => .array .int
  | 2 => .array .int
  | 3 => .array .long
  | 4 => .array .long
  | _ => .int
theorem n_Tol : ∀ a, a < 6 → ∀ b, b < 6 → a ≠ b → (T_Tol a).2.1 ≠ (T_Tol b).2.1 := by decide +kernel
theorem v_Tol_ok : ∀ k, k < 6 → parseFieldDescriptor (T_Tol k).2.2.1 = some (v_Tol k) := by decide +kernel
def R_Cel : String := "CellSettling"
def T_Cel : u_T := fun k => match k with
  | 0 => ("CellSettling", "side", "I", true)
  | 1 => ("CellSettling", "columns", "[LCellSettling$Column;", true)
  | 2 => ("CellSettling", "kinds", "[LCellSettling$Kind;", true)
  | 3 => ("CellSettling", "told", "LCellSettling$Told;", true)
  | 4 => ("CellSettling", "surfaces", "[LCellSettling$Surface;", true)
  | 5 => ("CellSettling", "phases", "[LCellSettling$Phase;", true)
  | 6 => ("CellSettling", "surfaceCount", "I", false)
  | 7 => ("CellSettling", "phaseCount", "I", false)
  | 8 => ("CellSettling", "year", "I", false)
  | 9 => ("CellSettling", "surveyCount", "I", false)
  | _ => ("CellSettling", "squares", "J", false)
def v_Cel : Nat → FieldType := fun k => match k with
  | 0 => .int
  | 1 => .array (.object "CellSettling$Column")
  | 2 => .array (.object "CellSettling$Kind")
  | 3 => .object "CellSettling$Told"
  | 4 => .array (.object "CellSettling$Surface")
  | 5 => .array (.object "CellSettling$Phase")
  | 6 => .int
  | 7 => .int
  | 8 => .int
  | 9 => .int
  | _ => .long
theorem n_Cel : ∀ a, a < 11 → ∀ b, b < 11 → a ≠ b → (T_Cel a).2.1 ≠ (T_Cel b).2.1 := by decide +kernel
theorem v_Cel_ok : ∀ k, k < 11 → parseFieldDescriptor (T_Cel k).2.2.1 = some (v_Cel k) := by decide +kernel
def R_Mod : String := "CellSettlingModel"
def T_Mod : u_T := fun k => match k with
  | 0 => ("CellSettlingModel", "columns", "I", true)
  | 1 => ("CellSettlingModel", "side", "I", true)
  | 2 => ("CellSettlingModel", "densities", "[I", true)
  | 3 => ("CellSettlingModel", "factors", "[I", true)
  | 4 => ("CellSettlingModel", "told", "I", false)
  | 5 => ("CellSettlingModel", "kinds", "[I", true)
  | 6 => ("CellSettlingModel", "ones", "[I", true)
  | 7 => ("CellSettlingModel", "twos", "[I", true)
  | 8 => ("CellSettlingModel", "greats", "[J", true)
  | 9 => ("CellSettlingModel", "firsts", "[J", true)
  | 10 => ("CellSettlingModel", "layerCounts", "[I", true)
  | 11 => ("CellSettlingModel", "layerKinds", "[I", true)
  | 12 => ("CellSettlingModel", "masses", "[J", true)
  | 13 => ("CellSettlingModel", "thicks", "[J", true)
  | 14 => ("CellSettlingModel", "passes", "[I", true)
  | 15 => ("CellSettlingModel", "covers", "[I", true)
  | 16 => ("CellSettlingModel", "rowCounts", "[I", true)
  | 17 => ("CellSettlingModel", "loads", "[J", true)
  | 18 => ("CellSettlingModel", "thousandths", "[I", true)
  | 19 => ("CellSettlingModel", "year", "I", false)
  | 20 => ("CellSettlingModel", "surveys", "I", false)
  | 21 => ("CellSettlingModel", "squares", "J", false)
  | 22 => ("CellSettlingModel", "surfaceCount", "I", false)
  | 23 => ("CellSettlingModel", "points", "[I", true)
  | 24 => ("CellSettlingModel", "isPoint", "[Z", true)
  | 25 => ("CellSettlingModel", "phaseCount", "I", false)
  | 26 => ("CellSettlingModel", "froms", "[I", true)
  | 27 => ("CellSettlingModel", "tos", "[I", true)
  | _ => ("CellSettlingModel", "slopes", "[J", true)
def v_Mod : Nat → FieldType := fun k => match k with
  | 0 => .int
  | 1 => .int
  | 2 => .array .int
  | 3 => .array .int
  | 4 => .int
  | 5 => .array .int
  | 6 => .array .int
  | 7 => .array .int
  | 8 => .array .long
  | 9 => .array .long
  | 10 => .array .int
  | 11 => .array .int
  | 12 => .array .long
  | 13 => .array .long
  | 14 => .array .int
  | 15 => .array .int
  | 16 => .array .int
  | 17 => .array .long
  | 18 => .array .int
  | 19 => .int
  | 20 => .int
  | 21 => .long
  | 22 => .int
  | 23 => .array .int
  | 24 => .array .boolean
  | 25 => .int
  | 26 => .array .int
  | 27 => .array .int
  | _ => .array .long
theorem n_Mod : ∀ a, a < 29 → ∀ b, b < 29 → a ≠ b → (T_Mod a).2.1 ≠ (T_Mod b).2.1 := by decide +kernel
theorem v_Mod_ok : ∀ k, k < 29 → parseFieldDescriptor (T_Mod k).2.2.1 = some (v_Mod k) := by decide +kernel
abbrev classes : List vw_C := [(R_Col, T_Col, 6), (R_Kin, T_Kin, 5), (R_Pha, T_Pha, 3), (R_Sur, T_Sur, 2), (R_Tol, T_Tol, 6), (R_Cel, T_Cel, 11), (R_Mod, T_Mod, 29)]
abbrev b_Col_init : ByteArray := prog_2_method_1_code
def y_Col_init : MethodName := ⟨R_Col, "<init>", "()V"⟩
abbrev b_Col_isFull : ByteArray := prog_2_method_2_code
def y_Col_isFull : MethodName := ⟨R_Col, "isFull", "()Z"⟩
abbrev b_Col_empty : ByteArray := prog_2_method_3_code
def y_Col_empty : MethodName := ⟨R_Col, "empty", "()V"⟩
abbrev b_Col_lay : ByteArray := prog_2_method_4_code
def y_Col_lay : MethodName := ⟨R_Col, "lay", "(IJJ)V"⟩
abbrev b_Col_press : ByteArray := prog_2_method_5_code
def y_Col_press : MethodName := ⟨R_Col, "press", "(I)V"⟩
abbrev b_Col_settle : ByteArray := prog_2_method_6_code
def y_Col_settle : MethodName := ⟨R_Col, "settle", "(I[LCellSettling$Kind;)V"⟩
abbrev b_Col_settled : ByteArray := prog_2_method_7_code
def y_Col_settled : MethodName := ⟨R_Col, "settled", "(JJI)J"⟩
abbrev b_Col_top : ByteArray := prog_2_method_8_code
def y_Col_top : MethodName := ⟨R_Col, "top", "()J"⟩
abbrev b_Col_kilogramsOf : ByteArray := prog_2_method_9_code
def y_Col_kilogramsOf : MethodName := ⟨R_Col, "kilogramsOf", "(I)J"⟩
abbrev b_Kin_init : ByteArray := prog_3_method_1_code
def y_Kin_init : MethodName := ⟨R_Kin, "<init>", "()V"⟩
abbrev b_Kin_takesRow : ByteArray := prog_3_method_2_code
def y_Kin_takesRow : MethodName := ⟨R_Kin, "takesRow", "(JI)Z"⟩
abbrev b_Kin_addRow : ByteArray := prog_3_method_3_code
def y_Kin_addRow : MethodName := ⟨R_Kin, "addRow", "(JI)V"⟩
abbrev b_Kin_forgetRows : ByteArray := prog_3_method_4_code
def y_Kin_forgetRows : MethodName := ⟨R_Kin, "forgetRows", "()V"⟩
abbrev b_Kin_yearlyMillionths : ByteArray := prog_3_method_5_code
def y_Kin_yearlyMillionths : MethodName := ⟨R_Kin, "yearlyMillionths", "(J)J"⟩
abbrev b_Pha_init : ByteArray := prog_4_method_1_code
def y_Pha_init : MethodName := ⟨R_Pha, "<init>", "(IIJ)V"⟩
abbrev b_Sur_init : ByteArray := prog_5_method_1_code
def y_Sur_init : MethodName := ⟨R_Sur, "<init>", "()V"⟩
abbrev b_Sur_isPlace : ByteArray := prog_5_method_2_code
def y_Sur_isPlace : MethodName := ⟨R_Sur, "isPlace", "(II)Z"⟩
abbrev b_Sur_put : ByteArray := prog_5_method_3_code
def y_Sur_put : MethodName := ⟨R_Sur, "put", "(III)V"⟩
abbrev b_Sur_sixfoldTo : ByteArray := prog_5_method_4_code
def y_Sur_sixfoldTo : MethodName := ⟨R_Sur, "sixfoldTo", "(LCellSettling$Surface;)J"⟩
abbrev b_Sur_sixfoldOfSquare : ByteArray := prog_5_method_5_code
def y_Sur_sixfoldOfSquare : MethodName := ⟨R_Sur, "sixfoldOfSquare", "(LCellSettling$Surface;I)J"⟩
abbrev b_Sur_inBoth : ByteArray := prog_5_method_6_code
def y_Sur_inBoth : MethodName := ⟨R_Sur, "inBoth", "(LCellSettling$Surface;I)Z"⟩
abbrev b_Sur_rise : ByteArray := prog_5_method_7_code
def y_Sur_rise : MethodName := ⟨R_Sur, "rise", "(LCellSettling$Surface;I)J"⟩
abbrev b_Tol_init : ByteArray := prog_6_method_1_code
def y_Tol_init : MethodName := ⟨R_Tol, "<init>", "()V"⟩
abbrev b_Tol_isFull : ByteArray := prog_6_method_2_code
def y_Tol_isFull : MethodName := ⟨R_Tol, "isFull", "()Z"⟩
abbrev b_Tol_add : ByteArray := prog_6_method_3_code
def y_Tol_add : MethodName := ⟨R_Tol, "add", "(IIIJJ)V"⟩
abbrev b_Cel_init : ByteArray := prog_1_method_1_code
def y_Cel_init : MethodName := ⟨R_Cel, "<init>", "(II)V"⟩
abbrev b_Cel_density : ByteArray := prog_1_method_2_code
def y_Cel_density : MethodName := ⟨R_Cel, "density", "(II)Z"⟩
abbrev b_Cel_row : ByteArray := prog_1_method_3_code
def y_Cel_row : MethodName := ⟨R_Cel, "row", "(IJI)Z"⟩
abbrev b_Cel_layer : ByteArray := prog_1_method_4_code
def y_Cel_layer : MethodName := ⟨R_Cel, "layer", "(IIJ)I"⟩
abbrev b_Cel_roll : ByteArray := prog_1_method_5_code
def y_Cel_roll : MethodName := ⟨R_Cel, "roll", "(II)Z"⟩
abbrev b_Cel_run : ByteArray := prog_1_method_6_code
def y_Cel_run : MethodName := ⟨R_Cel, "run", "(I)I"⟩
abbrev b_Cel_cover : ByteArray := prog_1_method_7_code
def y_Cel_cover : MethodName := ⟨R_Cel, "cover", "(II)Z"⟩
abbrev b_Cel_survey : ByteArray := prog_1_method_8_code
def y_Cel_survey : MethodName := ⟨R_Cel, "survey", "(IJ)I"⟩
abbrev b_Cel_height : ByteArray := prog_1_method_9_code
def y_Cel_height : MethodName := ⟨R_Cel, "height", "(I)J"⟩
abbrev b_Cel_thickness : ByteArray := prog_1_method_10_code
def y_Cel_thickness : MethodName := ⟨R_Cel, "thickness", "(II)J"⟩
abbrev b_Cel_mass : ByteArray := prog_1_method_11_code
def y_Cel_mass : MethodName := ⟨R_Cel, "mass", "(II)J"⟩
abbrev b_Cel_covered : ByteArray := prog_1_method_12_code
def y_Cel_covered : MethodName := ⟨R_Cel, "covered", "(I)I"⟩
abbrev b_Cel_surface : ByteArray := prog_1_method_13_code
def y_Cel_surface : MethodName := ⟨R_Cel, "surface", "()I"⟩
abbrev b_Cel_point : ByteArray := prog_1_method_14_code
def y_Cel_point : MethodName := ⟨R_Cel, "point", "(IIII)Z"⟩
abbrev b_Cel_room : ByteArray := prog_1_method_15_code
def y_Cel_room : MethodName := ⟨R_Cel, "room", "(III)J"⟩
abbrev b_Cel_phase : ByteArray := prog_1_method_16_code
def y_Cel_phase : MethodName := ⟨R_Cel, "phase", "(IIJ)I"⟩
abbrev b_Cel_kept : ByteArray := prog_1_method_17_code
def y_Cel_kept : MethodName := ⟨R_Cel, "kept", "(I)Z"⟩
abbrev b_Cel_crack : ByteArray := prog_1_method_18_code
def y_Cel_crack : MethodName := ⟨R_Cel, "crack", "(IJ)I"⟩
abbrev b_Cel_factor : ByteArray := prog_1_method_19_code
def y_Cel_factor : MethodName := ⟨R_Cel, "factor", "(I)I"⟩
abbrev b_Cel_sum : ByteArray := prog_1_method_20_code
def y_Cel_sum : MethodName := ⟨R_Cel, "sum", "()J"⟩
abbrev b_Cel_fit : ByteArray := prog_1_method_21_code
def y_Cel_fit : MethodName := ⟨R_Cel, "fit", "(I)I"⟩
abbrev b_Cel_leastByKind : ByteArray := prog_1_method_22_code
def y_Cel_leastByKind : MethodName := ⟨R_Cel, "leastByKind", "(LCellSettling$Kind;J)J"⟩
abbrev b_Cel_doAllAnew : ByteArray := prog_1_method_23_code
def y_Cel_doAllAnew : MethodName := ⟨R_Cel, "doAllAnew", "()V"⟩
abbrev b_Cel_tell : ByteArray := prog_1_method_24_code
def y_Cel_tell : MethodName := ⟨R_Cel, "tell", "(IIIJJ)V"⟩
abbrev b_Cel_carryOut : ByteArray := prog_1_method_25_code
def y_Cel_carryOut : MethodName := ⟨R_Cel, "carryOut", "(I)V"⟩
abbrev b_Cel_passYears : ByteArray := prog_1_method_26_code
def y_Cel_passYears : MethodName := ⟨R_Cel, "passYears", "(I)V"⟩
abbrev b_Cel_compare : ByteArray := prog_1_method_27_code
def y_Cel_compare : MethodName := ⟨R_Cel, "compare", "(LCellSettling$Column;J)V"⟩
abbrev b_Cel_firstThickness : ByteArray := prog_1_method_28_code
def y_Cel_firstThickness : MethodName := ⟨R_Cel, "firstThickness", "(LCellSettling$Kind;J)J"⟩
abbrev b_Cel_stepBehind : ByteArray := prog_1_method_29_code
def y_Cel_stepBehind : MethodName := ⟨R_Cel, "stepBehind", "(I)J"⟩
abbrev b_Cel_columnAt : ByteArray := prog_1_method_30_code
def y_Cel_columnAt : MethodName := ⟨R_Cel, "columnAt", "(I)LCellSettling$Column;"⟩
abbrev b_Cel_kindAt : ByteArray := prog_1_method_31_code
def y_Cel_kindAt : MethodName := ⟨R_Cel, "kindAt", "(I)LCellSettling$Kind;"⟩
abbrev b_Cel_surfaceAt : ByteArray := prog_1_method_32_code
def y_Cel_surfaceAt : MethodName := ⟨R_Cel, "surfaceAt", "(I)LCellSettling$Surface;"⟩
abbrev b_Cel_phaseAt : ByteArray := prog_1_method_33_code
def y_Cel_phaseAt : MethodName := ⟨R_Cel, "phaseAt", "(I)LCellSettling$Phase;"⟩
abbrev b_Cel_isWithin : ByteArray := prog_1_method_34_code
def y_Cel_isWithin : MethodName := ⟨R_Cel, "isWithin", "(JJJ)Z"⟩
abbrev b_Cel_sharedWithSix : ByteArray := prog_1_method_35_code
def y_Cel_sharedWithSix : MethodName := ⟨R_Cel, "sharedWithSix", "(J)J"⟩
abbrev b_Mod_init : ByteArray := prog_8_method_1_code
def y_Mod_init : MethodName := ⟨R_Mod, "<init>", "(II)V"⟩
abbrev b_Mod_isIn : ByteArray := prog_8_method_3_code
def y_Mod_isIn : MethodName := ⟨R_Mod, "isIn", "(JJJ)Z"⟩
abbrev b_Mod_isKind : ByteArray := prog_8_method_4_code
def y_Mod_isKind : MethodName := ⟨R_Mod, "isKind", "(I)Z"⟩
abbrev b_Mod_isColumn : ByteArray := prog_8_method_5_code
def y_Mod_isColumn : MethodName := ⟨R_Mod, "isColumn", "(I)Z"⟩
abbrev b_Mod_oneYear : ByteArray := prog_8_method_6_code
def y_Mod_oneYear : MethodName := ⟨R_Mod, "oneYear", "()V"⟩
abbrev b_Mod_onePass : ByteArray := prog_8_method_7_code
def y_Mod_onePass : MethodName := ⟨R_Mod, "onePass", "(I)V"⟩
abbrev b_Mod_heightOf : ByteArray := prog_8_method_8_code
def y_Mod_heightOf : MethodName := ⟨R_Mod, "heightOf", "(I)J"⟩
abbrev b_Mod_act : ByteArray := prog_8_method_9_code
def y_Mod_act : MethodName := ⟨R_Mod, "act", "(I)V"⟩
abbrev b_Mod_doAnew : ByteArray := prog_8_method_10_code
def y_Mod_doAnew : MethodName := ⟨R_Mod, "doAnew", "()V"⟩
abbrev b_Mod_tell : ByteArray := prog_8_method_11_code
def y_Mod_tell : MethodName := ⟨R_Mod, "tell", "(IIIJJ)V"⟩
abbrev b_Mod_density : ByteArray := prog_8_method_12_code
def y_Mod_density : MethodName := ⟨R_Mod, "density", "(II)Z"⟩
abbrev b_Mod_row : ByteArray := prog_8_method_13_code
def y_Mod_row : MethodName := ⟨R_Mod, "row", "(IJI)Z"⟩
abbrev b_Mod_layer : ByteArray := prog_8_method_14_code
def y_Mod_layer : MethodName := ⟨R_Mod, "layer", "(IIJ)I"⟩
abbrev b_Mod_roll : ByteArray := prog_8_method_15_code
def y_Mod_roll : MethodName := ⟨R_Mod, "roll", "(II)Z"⟩
abbrev b_Mod_run : ByteArray := prog_8_method_16_code
def y_Mod_run : MethodName := ⟨R_Mod, "run", "(I)I"⟩
abbrev b_Mod_cover : ByteArray := prog_8_method_17_code
def y_Mod_cover : MethodName := ⟨R_Mod, "cover", "(II)Z"⟩
abbrev b_Mod_survey : ByteArray := prog_8_method_18_code
def y_Mod_survey : MethodName := ⟨R_Mod, "survey", "(IJ)I"⟩
abbrev b_Mod_height : ByteArray := prog_8_method_19_code
def y_Mod_height : MethodName := ⟨R_Mod, "height", "(I)J"⟩
abbrev b_Mod_thickness : ByteArray := prog_8_method_20_code
def y_Mod_thickness : MethodName := ⟨R_Mod, "thickness", "(II)J"⟩
abbrev b_Mod_mass : ByteArray := prog_8_method_21_code
def y_Mod_mass : MethodName := ⟨R_Mod, "mass", "(II)J"⟩
abbrev b_Mod_covered : ByteArray := prog_8_method_22_code
def y_Mod_covered : MethodName := ⟨R_Mod, "covered", "(I)I"⟩
abbrev b_Mod_surface : ByteArray := prog_8_method_23_code
def y_Mod_surface : MethodName := ⟨R_Mod, "surface", "()I"⟩
abbrev b_Mod_isSurface : ByteArray := prog_8_method_24_code
def y_Mod_isSurface : MethodName := ⟨R_Mod, "isSurface", "(I)Z"⟩
abbrev b_Mod_point : ByteArray := prog_8_method_25_code
def y_Mod_point : MethodName := ⟨R_Mod, "point", "(IIII)Z"⟩
abbrev b_Mod_apart : ByteArray := prog_8_method_26_code
def y_Mod_apart : MethodName := ⟨R_Mod, "apart", "(III)J"⟩
abbrev b_Mod_isTold : ByteArray := prog_8_method_27_code
def y_Mod_isTold : MethodName := ⟨R_Mod, "isTold", "(III)Z"⟩
abbrev b_Mod_common : ByteArray := prog_8_method_28_code
def y_Mod_common : MethodName := ⟨R_Mod, "common", "(JJ)J"⟩
abbrev b_Mod_room : ByteArray := prog_8_method_29_code
def y_Mod_room : MethodName := ⟨R_Mod, "room", "(III)J"⟩
abbrev b_Mod_phase : ByteArray := prog_8_method_30_code
def y_Mod_phase : MethodName := ⟨R_Mod, "phase", "(IIJ)I"⟩
abbrev b_Mod_step : ByteArray := prog_8_method_31_code
def y_Mod_step : MethodName := ⟨R_Mod, "step", "(I)J"⟩
abbrev b_Mod_kept : ByteArray := prog_8_method_32_code
def y_Mod_kept : MethodName := ⟨R_Mod, "kept", "(I)Z"⟩
abbrev b_Mod_crack : ByteArray := prog_8_method_33_code
def y_Mod_crack : MethodName := ⟨R_Mod, "crack", "(IJ)I"⟩
abbrev b_Mod_factor : ByteArray := prog_8_method_34_code
def y_Mod_factor : MethodName := ⟨R_Mod, "factor", "(I)I"⟩
abbrev b_Mod_sum : ByteArray := prog_8_method_35_code
def y_Mod_sum : MethodName := ⟨R_Mod, "sum", "()J"⟩
abbrev b_Mod_isBetter : ByteArray := prog_8_method_36_code
def y_Mod_isBetter : MethodName := ⟨R_Mod, "isBetter", "(II)Z"⟩
abbrev b_Mod_fit : ByteArray := prog_8_method_37_code
def y_Mod_fit : MethodName := ⟨R_Mod, "fit", "(I)I"⟩
def R_Law : String := "CellSettlingLaw"
abbrev b_Law_cell : ByteArray := method_2_code
def y_Law_cell : MethodName := ⟨R_Law, "cell", "([II)I"⟩
def lw_tbl0 : List Cond := lw_tbl
def T0 : List Cond := lw_tbl.filter goodWord
def isNest : Cond → Bool
  | .fieldLinkNest .. => true
  | .methodLinkNest .. => true
  | _ => false
def nestW : List Cond := lw_tbl.filter isNest
def arrObj : List String := [R_Col, R_Kin, R_Sur, R_Pha]
end
section
theorem T0_mem {w : Cond} {i : Nat} (h : lw_tbl[i]? = some w) (g : goodWord w = true) : w ∈ T0 := List.mem_filter.mpr ⟨List.mem_of_getElem? h, g⟩
theorem nestW_mem {w : Cond} {i : Nat} (h : lw_tbl[i]? = some w) (g : isNest w = true) : w ∈ nestW := List.mem_filter.mpr ⟨List.mem_of_getElem? h, g⟩
theorem q_se_Cel_kindAt : Cond.selects R_Cel y_Cel_kindAt y_Cel_kindAt ∈ T0 := T0_mem (i := 0) rfl rfl
theorem q_se_Cel_tell : Cond.selects R_Cel y_Cel_tell y_Cel_tell ∈ T0 := T0_mem (i := 1) rfl rfl
theorem q_se_Cel_carryOut : Cond.selects R_Cel y_Cel_carryOut y_Cel_carryOut ∈ T0 := T0_mem (i := 2) rfl rfl
theorem q_se_Cel_passYears : Cond.selects R_Cel y_Cel_passYears y_Cel_passYears ∈ T0 := T0_mem (i := 3) rfl rfl
theorem q_se_Cel_compare : Cond.selects R_Cel y_Cel_compare y_Cel_compare ∈ T0 := T0_mem (i := 4) rfl rfl
theorem q_se_Cel_columnAt : Cond.selects R_Cel y_Cel_columnAt y_Cel_columnAt ∈ T0 := T0_mem (i := 5) rfl rfl
theorem q_se_Cel_firstThickness : Cond.selects R_Cel y_Cel_firstThickness y_Cel_firstThickness ∈ T0 := T0_mem (i := 6) rfl rfl
theorem q_se_Cel_surfaceAt : Cond.selects R_Cel y_Cel_surfaceAt y_Cel_surfaceAt ∈ T0 := T0_mem (i := 7) rfl rfl
theorem q_se_Sur_sixfoldOfSquare : Cond.selects R_Sur y_Sur_sixfoldOfSquare y_Sur_sixfoldOfSquare ∈ T0 := T0_mem (i := 8) rfl rfl
theorem q_se_Sur_inBoth : Cond.selects R_Sur y_Sur_inBoth y_Sur_inBoth ∈ T0 := T0_mem (i := 9) rfl rfl
theorem q_se_Sur_rise : Cond.selects R_Sur y_Sur_rise y_Sur_rise ∈ T0 := T0_mem (i := 10) rfl rfl
theorem q_se_Cel_phaseAt : Cond.selects R_Cel y_Cel_phaseAt y_Cel_phaseAt ∈ T0 := T0_mem (i := 11) rfl rfl
theorem q_se_Cel_stepBehind : Cond.selects R_Cel y_Cel_stepBehind y_Cel_stepBehind ∈ T0 := T0_mem (i := 12) rfl rfl
theorem q_se_Cel_leastByKind : Cond.selects R_Cel y_Cel_leastByKind y_Cel_leastByKind ∈ T0 := T0_mem (i := 13) rfl rfl
theorem q_se_Cel_doAllAnew : Cond.selects R_Cel y_Cel_doAllAnew y_Cel_doAllAnew ∈ T0 := T0_mem (i := 14) rfl rfl
theorem q_se_Mod_tell : Cond.selects R_Mod y_Mod_tell y_Mod_tell ∈ T0 := T0_mem (i := 15) rfl rfl
theorem q_se_Mod_doAnew : Cond.selects R_Mod y_Mod_doAnew y_Mod_doAnew ∈ T0 := T0_mem (i := 16) rfl rfl
theorem q_se_Mod_act : Cond.selects R_Mod y_Mod_act y_Mod_act ∈ T0 := T0_mem (i := 17) rfl rfl
theorem q_se_Mod_onePass : Cond.selects R_Mod y_Mod_onePass y_Mod_onePass ∈ T0 := T0_mem (i := 18) rfl rfl
theorem q_se_Mod_oneYear : Cond.selects R_Mod y_Mod_oneYear y_Mod_oneYear ∈ T0 := T0_mem (i := 19) rfl rfl
theorem q_se_Mod_heightOf : Cond.selects R_Mod y_Mod_heightOf y_Mod_heightOf ∈ T0 := T0_mem (i := 20) rfl rfl
theorem q_se_Mod_isColumn : Cond.selects R_Mod y_Mod_isColumn y_Mod_isColumn ∈ T0 := T0_mem (i := 21) rfl rfl
theorem q_se_Mod_isSurface : Cond.selects R_Mod y_Mod_isSurface y_Mod_isSurface ∈ T0 := T0_mem (i := 22) rfl rfl
theorem q_se_Mod_isTold : Cond.selects R_Mod y_Mod_isTold y_Mod_isTold ∈ T0 := T0_mem (i := 23) rfl rfl
theorem q_se_Mod_apart : Cond.selects R_Mod y_Mod_apart y_Mod_apart ∈ T0 := T0_mem (i := 24) rfl rfl
theorem q_se_Mod_step : Cond.selects R_Mod y_Mod_step y_Mod_step ∈ T0 := T0_mem (i := 25) rfl rfl
theorem q_se_Mod_isBetter : Cond.selects R_Mod y_Mod_isBetter y_Mod_isBetter ∈ T0 := T0_mem (i := 26) rfl rfl
theorem q_in_Law : Cond.initialized R_Law ∈ T0 := T0_mem (i := 27) rfl rfl
theorem q_in_Cel : Cond.initialized R_Cel ∈ T0 := T0_mem (i := 28) rfl rfl
theorem q_in_Col : Cond.initialized R_Col ∈ T0 := T0_mem (i := 29) rfl rfl
theorem q_in_Kin : Cond.initialized R_Kin ∈ T0 := T0_mem (i := 30) rfl rfl
theorem q_in_Tol : Cond.initialized R_Tol ∈ T0 := T0_mem (i := 31) rfl rfl
theorem q_in_Mod : Cond.initialized R_Mod ∈ T0 := T0_mem (i := 32) rfl rfl
theorem q_in_Math : Cond.initialized "java/lang/Math" ∈ T0 := T0_mem (i := 33) rfl rfl
theorem q_in_Sur : Cond.initialized R_Sur ∈ T0 := T0_mem (i := 34) rfl rfl
theorem q_in_Pha : Cond.initialized R_Pha ∈ T0 := T0_mem (i := 35) rfl rfl
theorem q_kl_Law_7 : Cond.classLink R_Law 7 R_Cel ∈ T0 := T0_mem (i := 36) rfl rfl
theorem q_mk_Cel : Cond.instantiable R_Cel 11 ∈ T0 := T0_mem (i := 37) rfl rfl
theorem q_ml_Law_15 : Cond.methodLink R_Law 15 y_Cel_init ∈ T0 := T0_mem (i := 38) rfl rfl
theorem q_im_Cel_init : Cond.instanceMethod y_Cel_init ∈ T0 := T0_mem (i := 39) rfl rfl
theorem q_co_Cel_init : Cond.code y_Cel_init b_Cel_init 4 none ∈ T0 := T0_mem (i := 40) rfl rfl
theorem q_ml_Cel_1 : Cond.methodLink R_Cel 1 objectInit ∈ T0 := T0_mem (i := 41) rfl rfl
theorem q_im_Object : Cond.instanceMethod objectInit ∈ T0 := T0_mem (i := 42) rfl rfl
theorem q_co_Object : Cond.code objectInit object_method_1_code 1 none ∈ T0 := T0_mem (i := 43) rfl rfl
theorem q_cl_Cel_9 : Cond.constantLong R_Cel 9 (100 : Int64) ∈ T0 := T0_mem (i := 44) rfl rfl
theorem q_ml_Cel_11 : Cond.methodLink R_Cel 11 y_Cel_isWithin ∈ T0 := T0_mem (i := 45) rfl rfl
theorem q_st_Cel_isWithin : Cond.static y_Cel_isWithin ∈ T0 := T0_mem (i := 46) rfl rfl
theorem q_co_Cel_isWithin : Cond.code y_Cel_isWithin b_Cel_isWithin 6 (some .boolean) ∈ T0 := T0_mem (i := 47) rfl rfl
theorem q_cl_Cel_19 : Cond.constantLong R_Cel 19 (8 : Int64) ∈ T0 := T0_mem (i := 48) rfl rfl
theorem q_kl_Cel_21 : Cond.classLink R_Cel 21 R_Col ∈ T0 := T0_mem (i := 49) rfl rfl
theorem q_mk_Col : Cond.instantiable R_Col 6 ∈ T0 := T0_mem (i := 51) rfl rfl
theorem q_mn_Cel_27 : Cond.methodLinkNest R_Cel 27 y_Col_init R_Cel ∈ nestW := nestW_mem (i := 52) rfl rfl
theorem q_im_Col_init : Cond.instanceMethod y_Col_init ∈ T0 := T0_mem (i := 53) rfl rfl
theorem q_co_Col_init : Cond.code y_Col_init b_Col_init 1 none ∈ T0 := T0_mem (i := 54) rfl rfl
theorem q_ml_Col_3 : Cond.methodLink R_Col 3 objectInit ∈ T0 := T0_mem (i := 55) rfl rfl
theorem q_fl_Col_11 : Cond.fieldLink R_Col 11 "CellSettling$Column" "kindNumbers" "[I" ∈ T0 := T0_mem (i := 56) rfl rfl
theorem q_fl_Col_15 : Cond.fieldLink R_Col 15 "CellSettling$Column" "passes" "[I" ∈ T0 := T0_mem (i := 57) rfl rfl
theorem q_fl_Col_18 : Cond.fieldLink R_Col 18 "CellSettling$Column" "kilograms" "[J" ∈ T0 := T0_mem (i := 58) rfl rfl
theorem q_fl_Col_22 : Cond.fieldLink R_Col 22 "CellSettling$Column" "thicknesses" "[J" ∈ T0 := T0_mem (i := 59) rfl rfl
theorem q_fn_Cel_109 : Cond.fieldLinkNest R_Cel 109 "CellSettling$Column" "thicknesses" "[J" R_Cel ∈ nestW := nestW_mem (i := 60) rfl rfl
theorem q_fl_Col_25 : Cond.fieldLink R_Col 25 "CellSettling$Column" "layerCount" "I" ∈ T0 := T0_mem (i := 61) rfl rfl
theorem q_fn_Cel_86 : Cond.fieldLinkNest R_Cel 86 "CellSettling$Column" "layerCount" "I" R_Cel ∈ nestW := nestW_mem (i := 62) rfl rfl
theorem q_fl_Col_29 : Cond.fieldLink R_Col 29 "CellSettling$Column" "covers" "I" ∈ T0 := T0_mem (i := 63) rfl rfl
theorem q_fn_Cel_117 : Cond.fieldLinkNest R_Cel 117 "CellSettling$Column" "covers" "I" R_Cel ∈ nestW := nestW_mem (i := 64) rfl rfl
theorem q_ac_int : Cond.arrayClass .int ∈ T0 := T0_mem (i := 78) rfl rfl
theorem q_ac_long : Cond.arrayClass .long ∈ T0 := T0_mem (i := 79) rfl rfl
theorem q_kl_Cel_28 : Cond.classLink R_Cel 28 R_Kin ∈ T0 := T0_mem (i := 80) rfl rfl
theorem q_mk_Kin : Cond.instantiable R_Kin 5 ∈ T0 := T0_mem (i := 82) rfl rfl
theorem q_mn_Cel_34 : Cond.methodLinkNest R_Cel 34 y_Kin_init R_Cel ∈ nestW := nestW_mem (i := 83) rfl rfl
theorem q_im_Kin_init : Cond.instanceMethod y_Kin_init ∈ T0 := T0_mem (i := 84) rfl rfl
theorem q_co_Kin_init : Cond.code y_Kin_init b_Kin_init 1 none ∈ T0 := T0_mem (i := 85) rfl rfl
theorem q_ml_Kin_1 : Cond.methodLink R_Kin 1 objectInit ∈ T0 := T0_mem (i := 86) rfl rfl
theorem q_fl_Kin_9 : Cond.fieldLink R_Kin 9 "CellSettling$Kind" "loads" "[J" ∈ T0 := T0_mem (i := 87) rfl rfl
theorem q_fl_Kin_13 : Cond.fieldLink R_Kin 13 "CellSettling$Kind" "thousandths" "[I" ∈ T0 := T0_mem (i := 88) rfl rfl
theorem q_fl_Kin_24 : Cond.fieldLink R_Kin 24 "CellSettling$Kind" "rowCount" "I" ∈ T0 := T0_mem (i := 89) rfl rfl
theorem q_fl_Kin_17 : Cond.fieldLink R_Kin 17 "CellSettling$Kind" "density" "I" ∈ T0 := T0_mem (i := 90) rfl rfl
theorem q_fn_Cel_60 : Cond.fieldLinkNest R_Cel 60 "CellSettling$Kind" "density" "I" R_Cel ∈ nestW := nestW_mem (i := 91) rfl rfl
theorem q_fl_Kin_21 : Cond.fieldLink R_Kin 21 "CellSettling$Kind" "factor" "I" ∈ T0 := T0_mem (i := 92) rfl rfl
theorem q_fn_Cel_177 : Cond.fieldLinkNest R_Cel 177 "CellSettling$Kind" "factor" "I" R_Cel ∈ nestW := nestW_mem (i := 93) rfl rfl
theorem q_kl_Cel_35 : Cond.classLink R_Cel 35 R_Tol ∈ T0 := T0_mem (i := 105) rfl rfl
theorem q_mk_Tol : Cond.instantiable R_Tol 6 ∈ T0 := T0_mem (i := 106) rfl rfl
theorem q_mn_Cel_37 : Cond.methodLinkNest R_Cel 37 y_Tol_init R_Cel ∈ nestW := nestW_mem (i := 107) rfl rfl
theorem q_im_Tol_init : Cond.instanceMethod y_Tol_init ∈ T0 := T0_mem (i := 108) rfl rfl
theorem q_co_Tol_init : Cond.code y_Tol_init b_Tol_init 1 none ∈ T0 := T0_mem (i := 109) rfl rfl
theorem q_ml_Tol_1 : Cond.methodLink R_Tol 1 objectInit ∈ T0 := T0_mem (i := 110) rfl rfl
theorem q_fl_Tol_9 : Cond.fieldLink R_Tol 9 "CellSettling$Told" "whats" "[I" ∈ T0 := T0_mem (i := 111) rfl rfl
theorem q_fn_Cel_214 : Cond.fieldLinkNest R_Cel 214 "CellSettling$Told" "whats" "[I" R_Cel ∈ nestW := nestW_mem (i := 112) rfl rfl
theorem q_fl_Tol_13 : Cond.fieldLink R_Tol 13 "CellSettling$Told" "places" "[I" ∈ T0 := T0_mem (i := 113) rfl rfl
theorem q_fn_Cel_207 : Cond.fieldLinkNest R_Cel 207 "CellSettling$Told" "places" "[I" R_Cel ∈ nestW := nestW_mem (i := 114) rfl rfl
theorem q_fl_Tol_16 : Cond.fieldLink R_Tol 16 "CellSettling$Told" "numbers" "[I" ∈ T0 := T0_mem (i := 115) rfl rfl
theorem q_fn_Cel_211 : Cond.fieldLinkNest R_Cel 211 "CellSettling$Told" "numbers" "[I" R_Cel ∈ nestW := nestW_mem (i := 116) rfl rfl
theorem q_fl_Tol_19 : Cond.fieldLink R_Tol 19 "CellSettling$Told" "amounts" "[J" ∈ T0 := T0_mem (i := 117) rfl rfl
theorem q_fn_Cel_217 : Cond.fieldLinkNest R_Cel 217 "CellSettling$Told" "amounts" "[J" R_Cel ∈ nestW := nestW_mem (i := 118) rfl rfl
theorem q_fl_Tol_23 : Cond.fieldLink R_Tol 23 "CellSettling$Told" "thicknesses" "[J" ∈ T0 := T0_mem (i := 119) rfl rfl
theorem q_fn_Cel_224 : Cond.fieldLinkNest R_Cel 224 "CellSettling$Told" "thicknesses" "[J" R_Cel ∈ nestW := nestW_mem (i := 120) rfl rfl
theorem q_fl_Tol_26 : Cond.fieldLink R_Tol 26 "CellSettling$Told" "count" "I" ∈ T0 := T0_mem (i := 121) rfl rfl
theorem q_fn_Cel_197 : Cond.fieldLinkNest R_Cel 197 "CellSettling$Told" "count" "I" R_Cel ∈ nestW := nestW_mem (i := 122) rfl rfl
theorem q_kl_Cel_42 : Cond.classLink R_Cel 42 R_Sur ∈ T0 := T0_mem (i := 136) rfl rfl
theorem q_kl_Cel_48 : Cond.classLink R_Cel 48 R_Pha ∈ T0 := T0_mem (i := 138) rfl rfl
theorem q_fl_Cel_15 : Cond.fieldLink R_Cel 15 "CellSettling" "side" "I" ∈ T0 := T0_mem (i := 140) rfl rfl
theorem q_fl_Cel_23 : Cond.fieldLink R_Cel 23 "CellSettling" "columns" "[LCellSettling$Column;" ∈ T0 := T0_mem (i := 141) rfl rfl
theorem q_fl_Cel_30 : Cond.fieldLink R_Cel 30 "CellSettling" "kinds" "[LCellSettling$Kind;" ∈ T0 := T0_mem (i := 142) rfl rfl
theorem q_fl_Cel_38 : Cond.fieldLink R_Cel 38 "CellSettling" "told" "LCellSettling$Told;" ∈ T0 := T0_mem (i := 143) rfl rfl
theorem q_fl_Cel_44 : Cond.fieldLink R_Cel 44 "CellSettling" "surfaces" "[LCellSettling$Surface;" ∈ T0 := T0_mem (i := 144) rfl rfl
theorem q_fl_Cel_50 : Cond.fieldLink R_Cel 50 "CellSettling" "phases" "[LCellSettling$Phase;" ∈ T0 := T0_mem (i := 145) rfl rfl
theorem q_fl_Cel_120 : Cond.fieldLink R_Cel 120 "CellSettling" "surfaceCount" "I" ∈ T0 := T0_mem (i := 146) rfl rfl
theorem q_fl_Cel_154 : Cond.fieldLink R_Cel 154 "CellSettling" "phaseCount" "I" ∈ T0 := T0_mem (i := 147) rfl rfl
theorem q_fl_Cel_93 : Cond.fieldLink R_Cel 93 "CellSettling" "year" "I" ∈ T0 := T0_mem (i := 148) rfl rfl
theorem q_fl_Cel_100 : Cond.fieldLink R_Cel 100 "CellSettling" "surveyCount" "I" ∈ T0 := T0_mem (i := 149) rfl rfl
theorem q_fl_Cel_180 : Cond.fieldLink R_Cel 180 "CellSettling" "squares" "J" ∈ T0 := T0_mem (i := 150) rfl rfl
theorem q_ml_Law_21 : Cond.methodLink R_Law 21 y_Cel_density ∈ T0 := T0_mem (i := 174) rfl rfl
theorem q_im_Cel_density : Cond.instanceMethod y_Cel_density ∈ T0 := T0_mem (i := 175) rfl rfl
theorem q_se_Cel_density : Cond.selects R_Cel y_Cel_density y_Cel_density ∈ T0 := T0_mem (i := 176) rfl rfl
theorem q_co_Cel_density : Cond.code y_Cel_density b_Cel_density 4 (some .boolean) ∈ T0 := T0_mem (i := 177) rfl rfl
theorem q_ml_Cel_54 : Cond.methodLink R_Cel 54 y_Cel_kindAt ∈ T0 := T0_mem (i := 178) rfl rfl
theorem q_im_Cel_kindAt : Cond.instanceMethod y_Cel_kindAt ∈ T0 := T0_mem (i := 180) rfl rfl
theorem q_co_Cel_kindAt : Cond.code y_Cel_kindAt b_Cel_kindAt 2 (some (.object "CellSettling$Kind")) ∈ T0 := T0_mem (i := 181) rfl rfl
theorem q_cl_Cel_259 : Cond.constantLong R_Cel 259 (3 : Int64) ∈ T0 := T0_mem (i := 182) rfl rfl
theorem q_cl_Cel_58 : Cond.constantLong R_Cel 58 (3000 : Int64) ∈ T0 := T0_mem (i := 183) rfl rfl
theorem q_ml_Law_28 : Cond.methodLink R_Law 28 y_Cel_row ∈ T0 := T0_mem (i := 184) rfl rfl
theorem q_im_Cel_row : Cond.instanceMethod y_Cel_row ∈ T0 := T0_mem (i := 185) rfl rfl
theorem q_se_Cel_row : Cond.selects R_Cel y_Cel_row y_Cel_row ∈ T0 := T0_mem (i := 186) rfl rfl
theorem q_co_Cel_row : Cond.code y_Cel_row b_Cel_row 6 (some .boolean) ∈ T0 := T0_mem (i := 187) rfl rfl
theorem q_ml_Cel_63 : Cond.methodLink R_Cel 63 y_Kin_takesRow ∈ T0 := T0_mem (i := 188) rfl rfl
theorem q_im_Kin_takesRow : Cond.instanceMethod y_Kin_takesRow ∈ T0 := T0_mem (i := 189) rfl rfl
theorem q_se_Kin_takesRow : Cond.selects R_Kin y_Kin_takesRow y_Kin_takesRow ∈ T0 := T0_mem (i := 190) rfl rfl
theorem q_co_Kin_takesRow : Cond.code y_Kin_takesRow b_Kin_takesRow 4 (some .boolean) ∈ T0 := T0_mem (i := 191) rfl rfl
theorem q_cl_Kin_27 : Cond.constantLong R_Kin 27 (100000000 : Int64) ∈ T0 := T0_mem (i := 192) rfl rfl
theorem q_mn_Kin_29 : Cond.methodLinkNest R_Kin 29 y_Cel_isWithin R_Cel ∈ nestW := nestW_mem (i := 193) rfl rfl
theorem q_cl_Kin_35 : Cond.constantLong R_Kin 35 (300 : Int64) ∈ T0 := T0_mem (i := 194) rfl rfl
theorem q_ml_Cel_67 : Cond.methodLink R_Cel 67 y_Tol_isFull ∈ T0 := T0_mem (i := 195) rfl rfl
theorem q_im_Tol_isFull : Cond.instanceMethod y_Tol_isFull ∈ T0 := T0_mem (i := 196) rfl rfl
theorem q_se_Tol_isFull : Cond.selects R_Tol y_Tol_isFull y_Tol_isFull ∈ T0 := T0_mem (i := 197) rfl rfl
theorem q_co_Tol_isFull : Cond.code y_Tol_isFull b_Tol_isFull 1 (some .boolean) ∈ T0 := T0_mem (i := 198) rfl rfl
theorem q_ml_Cel_71 : Cond.methodLink R_Cel 71 y_Cel_tell ∈ T0 := T0_mem (i := 199) rfl rfl
theorem q_im_Cel_tell : Cond.instanceMethod y_Cel_tell ∈ T0 := T0_mem (i := 201) rfl rfl
theorem q_co_Cel_tell : Cond.code y_Cel_tell b_Cel_tell 8 none ∈ T0 := T0_mem (i := 202) rfl rfl
theorem q_ml_Cel_204 : Cond.methodLink R_Cel 204 y_Tol_add ∈ T0 := T0_mem (i := 203) rfl rfl
theorem q_im_Tol_add : Cond.instanceMethod y_Tol_add ∈ T0 := T0_mem (i := 204) rfl rfl
theorem q_se_Tol_add : Cond.selects R_Tol y_Tol_add y_Tol_add ∈ T0 := T0_mem (i := 205) rfl rfl
theorem q_co_Tol_add : Cond.code y_Tol_add b_Tol_add 8 none ∈ T0 := T0_mem (i := 206) rfl rfl
theorem q_ml_Tol_30 : Cond.methodLink R_Tol 30 y_Tol_isFull ∈ T0 := T0_mem (i := 207) rfl rfl
theorem q_ml_Cel_200 : Cond.methodLink R_Cel 200 y_Cel_carryOut ∈ T0 := T0_mem (i := 208) rfl rfl
theorem q_im_Cel_carryOut : Cond.instanceMethod y_Cel_carryOut ∈ T0 := T0_mem (i := 210) rfl rfl
theorem q_co_Cel_carryOut : Cond.code y_Cel_carryOut b_Cel_carryOut 4 none ∈ T0 := T0_mem (i := 211) rfl rfl
theorem q_ml_Cel_220 : Cond.methodLink R_Cel 220 y_Kin_addRow ∈ T0 := T0_mem (i := 212) rfl rfl
theorem q_im_Kin_addRow : Cond.instanceMethod y_Kin_addRow ∈ T0 := T0_mem (i := 213) rfl rfl
theorem q_se_Kin_addRow : Cond.selects R_Kin y_Kin_addRow y_Kin_addRow ∈ T0 := T0_mem (i := 214) rfl rfl
theorem q_co_Kin_addRow : Cond.code y_Kin_addRow b_Kin_addRow 4 none ∈ T0 := T0_mem (i := 215) rfl rfl
theorem q_ml_Cel_225 : Cond.methodLink R_Cel 225 y_Col_lay ∈ T0 := T0_mem (i := 216) rfl rfl
theorem q_im_Col_lay : Cond.instanceMethod y_Col_lay ∈ T0 := T0_mem (i := 217) rfl rfl
theorem q_se_Col_lay : Cond.selects R_Col y_Col_lay y_Col_lay ∈ T0 := T0_mem (i := 218) rfl rfl
theorem q_co_Col_lay : Cond.code y_Col_lay b_Col_lay 6 none ∈ T0 := T0_mem (i := 219) rfl rfl
theorem q_ml_Col_32 : Cond.methodLink R_Col 32 y_Col_isFull ∈ T0 := T0_mem (i := 220) rfl rfl
theorem q_im_Col_isFull : Cond.instanceMethod y_Col_isFull ∈ T0 := T0_mem (i := 221) rfl rfl
theorem q_se_Col_isFull : Cond.selects R_Col y_Col_isFull y_Col_isFull ∈ T0 := T0_mem (i := 222) rfl rfl
theorem q_co_Col_isFull : Cond.code y_Col_isFull b_Col_isFull 1 (some .boolean) ∈ T0 := T0_mem (i := 223) rfl rfl
theorem q_ml_Cel_229 : Cond.methodLink R_Cel 229 y_Col_press ∈ T0 := T0_mem (i := 224) rfl rfl
theorem q_im_Col_press : Cond.instanceMethod y_Col_press ∈ T0 := T0_mem (i := 225) rfl rfl
theorem q_se_Col_press : Cond.selects R_Col y_Col_press y_Col_press ∈ T0 := T0_mem (i := 226) rfl rfl
theorem q_co_Col_press : Cond.code y_Col_press b_Col_press 4 none ∈ T0 := T0_mem (i := 227) rfl rfl
theorem q_ml_Cel_232 : Cond.methodLink R_Cel 232 y_Cel_passYears ∈ T0 := T0_mem (i := 228) rfl rfl
theorem q_im_Cel_passYears : Cond.instanceMethod y_Cel_passYears ∈ T0 := T0_mem (i := 230) rfl rfl
theorem q_co_Cel_passYears : Cond.code y_Cel_passYears b_Cel_passYears 3 none ∈ T0 := T0_mem (i := 231) rfl rfl
theorem q_ml_Cel_239 : Cond.methodLink R_Cel 239 y_Col_settle ∈ T0 := T0_mem (i := 232) rfl rfl
theorem q_im_Col_settle : Cond.instanceMethod y_Col_settle ∈ T0 := T0_mem (i := 233) rfl rfl
theorem q_se_Col_settle : Cond.selects R_Col y_Col_settle y_Col_settle ∈ T0 := T0_mem (i := 234) rfl rfl
theorem q_co_Col_settle : Cond.code y_Col_settle b_Col_settle 8 none ∈ T0 := T0_mem (i := 235) rfl rfl
theorem q_ml_Col_36 : Cond.methodLink R_Col 36 y_Kin_yearlyMillionths ∈ T0 := T0_mem (i := 236) rfl rfl
theorem q_im_Kin_yearlyMillionths : Cond.instanceMethod y_Kin_yearlyMillionths ∈ T0 := T0_mem (i := 237) rfl rfl
theorem q_se_Kin_yearlyMillionths : Cond.selects R_Kin y_Kin_yearlyMillionths y_Kin_yearlyMillionths ∈ T0 := T0_mem (i := 238) rfl rfl
theorem q_co_Kin_yearlyMillionths : Cond.code y_Kin_yearlyMillionths b_Kin_yearlyMillionths 4 (some .long) ∈ T0 := T0_mem (i := 239) rfl rfl
theorem q_ml_Col_42 : Cond.methodLink R_Col 42 y_Col_settled ∈ T0 := T0_mem (i := 240) rfl rfl
theorem q_st_Col_settled : Cond.static y_Col_settled ∈ T0 := T0_mem (i := 241) rfl rfl
theorem q_co_Col_settled : Cond.code y_Col_settled b_Col_settled 10 (some .long) ∈ T0 := T0_mem (i := 242) rfl rfl
theorem q_cl_Col_46 : Cond.constantLong R_Col 46 (1000000 : Int64) ∈ T0 := T0_mem (i := 243) rfl rfl
theorem q_ml_Cel_235 : Cond.methodLink R_Cel 235 y_Cel_compare ∈ T0 := T0_mem (i := 244) rfl rfl
theorem q_im_Cel_compare : Cond.instanceMethod y_Cel_compare ∈ T0 := T0_mem (i := 246) rfl rfl
theorem q_co_Cel_compare : Cond.code y_Cel_compare b_Cel_compare 8 none ∈ T0 := T0_mem (i := 247) rfl rfl
theorem q_ml_Cel_105 : Cond.methodLink R_Cel 105 y_Col_top ∈ T0 := T0_mem (i := 248) rfl rfl
theorem q_im_Col_top : Cond.instanceMethod y_Col_top ∈ T0 := T0_mem (i := 249) rfl rfl
theorem q_se_Col_top : Cond.selects R_Col y_Col_top y_Col_top ∈ T0 := T0_mem (i := 250) rfl rfl
theorem q_co_Col_top : Cond.code y_Col_top b_Col_top 4 (some .long) ∈ T0 := T0_mem (i := 251) rfl rfl
theorem q_cl_Col_48 : Cond.constantLong R_Col 48 (1000 : Int64) ∈ T0 := T0_mem (i := 252) rfl rfl
theorem q_cl_Cel_243 : Cond.constantLong R_Cel 243 (1000 : Int64) ∈ T0 := T0_mem (i := 253) rfl rfl
theorem q_cl_Cel_245 : Cond.constantLong R_Cel 245 (-1000000 : Int64) ∈ T0 := T0_mem (i := 254) rfl rfl
theorem q_cl_Cel_79 : Cond.constantLong R_Cel 79 (1000000 : Int64) ∈ T0 := T0_mem (i := 255) rfl rfl
theorem q_ml_Cel_247 : Cond.methodLink R_Cel 247 ⟨"java/lang/Math", "min", "(JJ)J"⟩ ∈ T0 := T0_mem (i := 256) rfl rfl
theorem q_st_Math_min : Cond.static ⟨"java/lang/Math", "min", "(JJ)J"⟩ ∈ T0 := T0_mem (i := 257) rfl rfl
theorem q_co_Math_min : Cond.code ⟨"java/lang/Math", "min", "(JJ)J"⟩ prog_9_method_70_code 4 (some .long) ∈ T0 := T0_mem (i := 258) rfl rfl
theorem q_ml_Cel_253 : Cond.methodLink R_Cel 253 ⟨"java/lang/Math", "max", "(JJ)J"⟩ ∈ T0 := T0_mem (i := 259) rfl rfl
theorem q_st_Math_max : Cond.static ⟨"java/lang/Math", "max", "(JJ)J"⟩ ∈ T0 := T0_mem (i := 260) rfl rfl
theorem q_co_Math_max : Cond.code ⟨"java/lang/Math", "max", "(JJ)J"⟩ prog_9_method_66_code 4 (some .long) ∈ T0 := T0_mem (i := 261) rfl rfl
theorem q_ml_Law_33 : Cond.methodLink R_Law 33 y_Cel_layer ∈ T0 := T0_mem (i := 262) rfl rfl
theorem q_im_Cel_layer : Cond.instanceMethod y_Cel_layer ∈ T0 := T0_mem (i := 263) rfl rfl
theorem q_se_Cel_layer : Cond.selects R_Cel y_Cel_layer y_Cel_layer ∈ T0 := T0_mem (i := 264) rfl rfl
theorem q_co_Cel_layer : Cond.code y_Cel_layer b_Cel_layer 7 (some .int) ∈ T0 := T0_mem (i := 265) rfl rfl
theorem q_ml_Cel_75 : Cond.methodLink R_Cel 75 y_Cel_columnAt ∈ T0 := T0_mem (i := 266) rfl rfl
theorem q_im_Cel_columnAt : Cond.instanceMethod y_Cel_columnAt ∈ T0 := T0_mem (i := 268) rfl rfl
theorem q_co_Cel_columnAt : Cond.code y_Cel_columnAt b_Cel_columnAt 2 (some (.object "CellSettling$Column")) ∈ T0 := T0_mem (i := 269) rfl rfl
theorem q_ml_Cel_81 : Cond.methodLink R_Cel 81 y_Col_isFull ∈ T0 := T0_mem (i := 270) rfl rfl
theorem q_ml_Cel_82 : Cond.methodLink R_Cel 82 y_Cel_firstThickness ∈ T0 := T0_mem (i := 271) rfl rfl
theorem q_im_Cel_firstThickness : Cond.instanceMethod y_Cel_firstThickness ∈ T0 := T0_mem (i := 273) rfl rfl
theorem q_co_Cel_firstThickness : Cond.code y_Cel_firstThickness b_Cel_firstThickness 4 (some .long) ∈ T0 := T0_mem (i := 274) rfl rfl
theorem q_ml_Law_38 : Cond.methodLink R_Law 38 y_Cel_roll ∈ T0 := T0_mem (i := 275) rfl rfl
theorem q_im_Cel_roll : Cond.instanceMethod y_Cel_roll ∈ T0 := T0_mem (i := 276) rfl rfl
theorem q_se_Cel_roll : Cond.selects R_Cel y_Cel_roll y_Cel_roll ∈ T0 := T0_mem (i := 277) rfl rfl
theorem q_co_Cel_roll : Cond.code y_Cel_roll b_Cel_roll 4 (some .boolean) ∈ T0 := T0_mem (i := 278) rfl rfl
theorem q_cl_Cel_89 : Cond.constantLong R_Cel 89 (20 : Int64) ∈ T0 := T0_mem (i := 279) rfl rfl
theorem q_ml_Law_42 : Cond.methodLink R_Law 42 y_Cel_run ∈ T0 := T0_mem (i := 280) rfl rfl
theorem q_im_Cel_run : Cond.instanceMethod y_Cel_run ∈ T0 := T0_mem (i := 281) rfl rfl
theorem q_se_Cel_run : Cond.selects R_Cel y_Cel_run y_Cel_run ∈ T0 := T0_mem (i := 282) rfl rfl
theorem q_co_Cel_run : Cond.code y_Cel_run b_Cel_run 2 (some .int) ∈ T0 := T0_mem (i := 283) rfl rfl
theorem q_cl_Cel_91 : Cond.constantLong R_Cel 91 (50 : Int64) ∈ T0 := T0_mem (i := 284) rfl rfl
theorem q_ml_Law_47 : Cond.methodLink R_Law 47 y_Cel_cover ∈ T0 := T0_mem (i := 285) rfl rfl
theorem q_im_Cel_cover : Cond.instanceMethod y_Cel_cover ∈ T0 := T0_mem (i := 286) rfl rfl
theorem q_se_Cel_cover : Cond.selects R_Cel y_Cel_cover y_Cel_cover ∈ T0 := T0_mem (i := 287) rfl rfl
theorem q_co_Cel_cover : Cond.code y_Cel_cover b_Cel_cover 3 (some .boolean) ∈ T0 := T0_mem (i := 288) rfl rfl
theorem q_cl_Cel_96 : Cond.constantLong R_Cel 96 (10000 : Int64) ∈ T0 := T0_mem (i := 289) rfl rfl
theorem q_ml_Law_51 : Cond.methodLink R_Law 51 y_Cel_survey ∈ T0 := T0_mem (i := 290) rfl rfl
theorem q_im_Cel_survey : Cond.instanceMethod y_Cel_survey ∈ T0 := T0_mem (i := 291) rfl rfl
theorem q_se_Cel_survey : Cond.selects R_Cel y_Cel_survey y_Cel_survey ∈ T0 := T0_mem (i := 292) rfl rfl
theorem q_co_Cel_survey : Cond.code y_Cel_survey b_Cel_survey 4 (some .int) ∈ T0 := T0_mem (i := 293) rfl rfl
theorem q_cl_Cel_98 : Cond.constantLong R_Cel 98 (1000000000 : Int64) ∈ T0 := T0_mem (i := 294) rfl rfl
theorem q_ml_Law_56 : Cond.methodLink R_Law 56 y_Cel_height ∈ T0 := T0_mem (i := 295) rfl rfl
theorem q_im_Cel_height : Cond.instanceMethod y_Cel_height ∈ T0 := T0_mem (i := 296) rfl rfl
theorem q_se_Cel_height : Cond.selects R_Cel y_Cel_height y_Cel_height ∈ T0 := T0_mem (i := 297) rfl rfl
theorem q_co_Cel_height : Cond.code y_Cel_height b_Cel_height 3 (some .long) ∈ T0 := T0_mem (i := 298) rfl rfl
theorem q_cl_Cel_103 : Cond.constantLong R_Cel 103 (-1 : Int64) ∈ T0 := T0_mem (i := 299) rfl rfl
theorem q_ml_Law_61 : Cond.methodLink R_Law 61 y_Cel_thickness ∈ T0 := T0_mem (i := 300) rfl rfl
theorem q_im_Cel_thickness : Cond.instanceMethod y_Cel_thickness ∈ T0 := T0_mem (i := 301) rfl rfl
theorem q_se_Cel_thickness : Cond.selects R_Cel y_Cel_thickness y_Cel_thickness ∈ T0 := T0_mem (i := 302) rfl rfl
theorem q_co_Cel_thickness : Cond.code y_Cel_thickness b_Cel_thickness 4 (some .long) ∈ T0 := T0_mem (i := 303) rfl rfl
theorem q_ml_Law_66 : Cond.methodLink R_Law 66 y_Cel_mass ∈ T0 := T0_mem (i := 304) rfl rfl
theorem q_im_Cel_mass : Cond.instanceMethod y_Cel_mass ∈ T0 := T0_mem (i := 305) rfl rfl
theorem q_se_Cel_mass : Cond.selects R_Cel y_Cel_mass y_Cel_mass ∈ T0 := T0_mem (i := 306) rfl rfl
theorem q_co_Cel_mass : Cond.code y_Cel_mass b_Cel_mass 4 (some .long) ∈ T0 := T0_mem (i := 307) rfl rfl
theorem q_ml_Cel_113 : Cond.methodLink R_Cel 113 y_Col_kilogramsOf ∈ T0 := T0_mem (i := 308) rfl rfl
theorem q_im_Col_kilogramsOf : Cond.instanceMethod y_Col_kilogramsOf ∈ T0 := T0_mem (i := 309) rfl rfl
theorem q_se_Col_kilogramsOf : Cond.selects R_Col y_Col_kilogramsOf y_Col_kilogramsOf ∈ T0 := T0_mem (i := 310) rfl rfl
theorem q_co_Col_kilogramsOf : Cond.code y_Col_kilogramsOf b_Col_kilogramsOf 5 (some .long) ∈ T0 := T0_mem (i := 311) rfl rfl
theorem q_ml_Law_70 : Cond.methodLink R_Law 70 y_Cel_covered ∈ T0 := T0_mem (i := 312) rfl rfl
theorem q_im_Cel_covered : Cond.instanceMethod y_Cel_covered ∈ T0 := T0_mem (i := 313) rfl rfl
theorem q_se_Cel_covered : Cond.selects R_Cel y_Cel_covered y_Cel_covered ∈ T0 := T0_mem (i := 314) rfl rfl
theorem q_co_Cel_covered : Cond.code y_Cel_covered b_Cel_covered 3 (some .int) ∈ T0 := T0_mem (i := 315) rfl rfl
theorem q_ml_Law_74 : Cond.methodLink R_Law 74 y_Cel_surface ∈ T0 := T0_mem (i := 316) rfl rfl
theorem q_im_Cel_surface : Cond.instanceMethod y_Cel_surface ∈ T0 := T0_mem (i := 317) rfl rfl
theorem q_se_Cel_surface : Cond.selects R_Cel y_Cel_surface y_Cel_surface ∈ T0 := T0_mem (i := 318) rfl rfl
theorem q_co_Cel_surface : Cond.code y_Cel_surface b_Cel_surface 1 (some .int) ∈ T0 := T0_mem (i := 319) rfl rfl
theorem q_mk_Sur : Cond.instantiable R_Sur 2 ∈ T0 := T0_mem (i := 320) rfl rfl
theorem q_mn_Cel_123 : Cond.methodLinkNest R_Cel 123 y_Sur_init R_Cel ∈ nestW := nestW_mem (i := 321) rfl rfl
theorem q_im_Sur_init : Cond.instanceMethod y_Sur_init ∈ T0 := T0_mem (i := 322) rfl rfl
theorem q_co_Sur_init : Cond.code y_Sur_init b_Sur_init 1 none ∈ T0 := T0_mem (i := 323) rfl rfl
theorem q_ml_Sur_1 : Cond.methodLink R_Sur 1 objectInit ∈ T0 := T0_mem (i := 324) rfl rfl
theorem q_fl_Sur_9 : Cond.fieldLink R_Sur 9 "CellSettling$Surface" "heights" "[I" ∈ T0 := T0_mem (i := 325) rfl rfl
theorem q_fl_Sur_13 : Cond.fieldLink R_Sur 13 "CellSettling$Surface" "isTold" "[Z" ∈ T0 := T0_mem (i := 326) rfl rfl
theorem q_ac_boolean : Cond.arrayClass .boolean ∈ T0 := T0_mem (i := 332) rfl rfl
theorem q_ml_Law_79 : Cond.methodLink R_Law 79 y_Cel_point ∈ T0 := T0_mem (i := 333) rfl rfl
theorem q_im_Cel_point : Cond.instanceMethod y_Cel_point ∈ T0 := T0_mem (i := 334) rfl rfl
theorem q_se_Cel_point : Cond.selects R_Cel y_Cel_point y_Cel_point ∈ T0 := T0_mem (i := 335) rfl rfl
theorem q_co_Cel_point : Cond.code y_Cel_point b_Cel_point 6 (some .boolean) ∈ T0 := T0_mem (i := 336) rfl rfl
theorem q_ml_Cel_124 : Cond.methodLink R_Cel 124 y_Cel_surfaceAt ∈ T0 := T0_mem (i := 337) rfl rfl
theorem q_im_Cel_surfaceAt : Cond.instanceMethod y_Cel_surfaceAt ∈ T0 := T0_mem (i := 339) rfl rfl
theorem q_co_Cel_surfaceAt : Cond.code y_Cel_surfaceAt b_Cel_surfaceAt 2 (some (.object "CellSettling$Surface")) ∈ T0 := T0_mem (i := 340) rfl rfl
theorem q_ml_Cel_128 : Cond.methodLink R_Cel 128 y_Sur_isPlace ∈ T0 := T0_mem (i := 341) rfl rfl
theorem q_st_Sur_isPlace : Cond.static y_Sur_isPlace ∈ T0 := T0_mem (i := 342) rfl rfl
theorem q_co_Sur_isPlace : Cond.code y_Sur_isPlace b_Sur_isPlace 2 (some .boolean) ∈ T0 := T0_mem (i := 343) rfl rfl
theorem q_cl_Sur_17 : Cond.constantLong R_Sur 17 (4 : Int64) ∈ T0 := T0_mem (i := 344) rfl rfl
theorem q_mn_Sur_19 : Cond.methodLinkNest R_Sur 19 y_Cel_isWithin R_Cel ∈ nestW := nestW_mem (i := 345) rfl rfl
theorem q_cl_Cel_132 : Cond.constantLong R_Cel 132 (-100000 : Int64) ∈ T0 := T0_mem (i := 346) rfl rfl
theorem q_cl_Cel_134 : Cond.constantLong R_Cel 134 (100000 : Int64) ∈ T0 := T0_mem (i := 347) rfl rfl
theorem q_ml_Cel_136 : Cond.methodLink R_Cel 136 y_Sur_put ∈ T0 := T0_mem (i := 348) rfl rfl
theorem q_im_Sur_put : Cond.instanceMethod y_Sur_put ∈ T0 := T0_mem (i := 349) rfl rfl
theorem q_se_Sur_put : Cond.selects R_Sur y_Sur_put y_Sur_put ∈ T0 := T0_mem (i := 350) rfl rfl
theorem q_co_Sur_put : Cond.code y_Sur_put b_Sur_put 5 none ∈ T0 := T0_mem (i := 351) rfl rfl
theorem q_ml_Law_84 : Cond.methodLink R_Law 84 y_Cel_room ∈ T0 := T0_mem (i := 352) rfl rfl
theorem q_im_Cel_room : Cond.instanceMethod y_Cel_room ∈ T0 := T0_mem (i := 353) rfl rfl
theorem q_se_Cel_room : Cond.selects R_Cel y_Cel_room y_Cel_room ∈ T0 := T0_mem (i := 354) rfl rfl
theorem q_co_Cel_room : Cond.code y_Cel_room b_Cel_room 10 (some .long) ∈ T0 := T0_mem (i := 355) rfl rfl
theorem q_cl_Cel_142 : Cond.constantLong R_Cel 142 (-9223372036854775808 : Int64) ∈ T0 := T0_mem (i := 356) rfl rfl
theorem q_ml_Cel_144 : Cond.methodLink R_Cel 144 y_Sur_sixfoldTo ∈ T0 := T0_mem (i := 357) rfl rfl
theorem q_im_Sur_sixfoldTo : Cond.instanceMethod y_Sur_sixfoldTo ∈ T0 := T0_mem (i := 358) rfl rfl
theorem q_se_Sur_sixfoldTo : Cond.selects R_Sur y_Sur_sixfoldTo y_Sur_sixfoldTo ∈ T0 := T0_mem (i := 359) rfl rfl
theorem q_co_Sur_sixfoldTo : Cond.code y_Sur_sixfoldTo b_Sur_sixfoldTo 6 (some .long) ∈ T0 := T0_mem (i := 360) rfl rfl
theorem q_ml_Sur_25 : Cond.methodLink R_Sur 25 y_Sur_sixfoldOfSquare ∈ T0 := T0_mem (i := 361) rfl rfl
theorem q_im_Sur_sixfoldOfSquare : Cond.instanceMethod y_Sur_sixfoldOfSquare ∈ T0 := T0_mem (i := 363) rfl rfl
theorem q_co_Sur_sixfoldOfSquare : Cond.code y_Sur_sixfoldOfSquare b_Sur_sixfoldOfSquare 6 (some .long) ∈ T0 := T0_mem (i := 364) rfl rfl
theorem q_ml_Sur_29 : Cond.methodLink R_Sur 29 y_Sur_inBoth ∈ T0 := T0_mem (i := 365) rfl rfl
theorem q_im_Sur_inBoth : Cond.instanceMethod y_Sur_inBoth ∈ T0 := T0_mem (i := 367) rfl rfl
theorem q_co_Sur_inBoth : Cond.code y_Sur_inBoth b_Sur_inBoth 3 (some .boolean) ∈ T0 := T0_mem (i := 368) rfl rfl
theorem q_cl_Sur_33 : Cond.constantLong R_Sur 33 (2 : Int64) ∈ T0 := T0_mem (i := 369) rfl rfl
theorem q_ml_Sur_35 : Cond.methodLink R_Sur 35 y_Sur_rise ∈ T0 := T0_mem (i := 370) rfl rfl
theorem q_im_Sur_rise : Cond.instanceMethod y_Sur_rise ∈ T0 := T0_mem (i := 372) rfl rfl
theorem q_co_Sur_rise : Cond.code y_Sur_rise b_Sur_rise 3 (some .long) ∈ T0 := T0_mem (i := 373) rfl rfl
theorem q_ml_Cel_148 : Cond.methodLink R_Cel 148 y_Cel_sharedWithSix ∈ T0 := T0_mem (i := 374) rfl rfl
theorem q_st_Cel_sharedWithSix : Cond.static y_Cel_sharedWithSix ∈ T0 := T0_mem (i := 375) rfl rfl
theorem q_co_Cel_sharedWithSix : Cond.code y_Cel_sharedWithSix b_Cel_sharedWithSix 2 (some .long) ∈ T0 := T0_mem (i := 376) rfl rfl
theorem q_cl_Cel_261 : Cond.constantLong R_Cel 261 (2 : Int64) ∈ T0 := T0_mem (i := 377) rfl rfl
theorem q_cl_Cel_152 : Cond.constantLong R_Cel 152 (6 : Int64) ∈ T0 := T0_mem (i := 378) rfl rfl
theorem q_ml_Law_89 : Cond.methodLink R_Law 89 y_Cel_phase ∈ T0 := T0_mem (i := 379) rfl rfl
theorem q_im_Cel_phase : Cond.instanceMethod y_Cel_phase ∈ T0 := T0_mem (i := 380) rfl rfl
theorem q_se_Cel_phase : Cond.selects R_Cel y_Cel_phase y_Cel_phase ∈ T0 := T0_mem (i := 381) rfl rfl
theorem q_co_Cel_phase : Cond.code y_Cel_phase b_Cel_phase 5 (some .int) ∈ T0 := T0_mem (i := 382) rfl rfl
theorem q_mk_Pha : Cond.instantiable R_Pha 3 ∈ T0 := T0_mem (i := 383) rfl rfl
theorem q_ml_Cel_157 : Cond.methodLink R_Cel 157 y_Pha_init ∈ T0 := T0_mem (i := 384) rfl rfl
theorem q_im_Pha_init : Cond.instanceMethod y_Pha_init ∈ T0 := T0_mem (i := 385) rfl rfl
theorem q_co_Pha_init : Cond.code y_Pha_init b_Pha_init 5 none ∈ T0 := T0_mem (i := 386) rfl rfl
theorem q_ml_Pha_1 : Cond.methodLink R_Pha 1 objectInit ∈ T0 := T0_mem (i := 387) rfl rfl
theorem q_fl_Pha_7 : Cond.fieldLink R_Pha 7 "CellSettling$Phase" "from" "I" ∈ T0 := T0_mem (i := 388) rfl rfl
theorem q_fn_Cel_164 : Cond.fieldLinkNest R_Cel 164 "CellSettling$Phase" "from" "I" R_Cel ∈ nestW := nestW_mem (i := 389) rfl rfl
theorem q_fl_Pha_13 : Cond.fieldLink R_Pha 13 "CellSettling$Phase" "to" "I" ∈ T0 := T0_mem (i := 390) rfl rfl
theorem q_fn_Cel_167 : Cond.fieldLinkNest R_Cel 167 "CellSettling$Phase" "to" "I" R_Cel ∈ nestW := nestW_mem (i := 391) rfl rfl
theorem q_fl_Pha_16 : Cond.fieldLink R_Pha 16 "CellSettling$Phase" "slope" "J" ∈ T0 := T0_mem (i := 392) rfl rfl
theorem q_fn_Cel_173 : Cond.fieldLinkNest R_Cel 173 "CellSettling$Phase" "slope" "J" R_Cel ∈ nestW := nestW_mem (i := 393) rfl rfl
set_option maxRecDepth 20000 in
theorem q_ml_Law_93 : Cond.methodLink R_Law 93 y_Cel_kept ∈ T0 := T0_mem (i := 401) rfl rfl
set_option maxRecDepth 20000 in
theorem q_im_Cel_kept : Cond.instanceMethod y_Cel_kept ∈ T0 := T0_mem (i := 402) rfl rfl
set_option maxRecDepth 20000 in
theorem q_se_Cel_kept : Cond.selects R_Cel y_Cel_kept y_Cel_kept ∈ T0 := T0_mem (i := 403) rfl rfl
set_option maxRecDepth 20000 in
theorem q_co_Cel_kept : Cond.code y_Cel_kept b_Cel_kept 4 (some .boolean) ∈ T0 := T0_mem (i := 404) rfl rfl
set_option maxRecDepth 20000 in
theorem q_ml_Cel_160 : Cond.methodLink R_Cel 160 y_Cel_phaseAt ∈ T0 := T0_mem (i := 405) rfl rfl
set_option maxRecDepth 20000 in
theorem q_im_Cel_phaseAt : Cond.instanceMethod y_Cel_phaseAt ∈ T0 := T0_mem (i := 407) rfl rfl
set_option maxRecDepth 20000 in
theorem q_co_Cel_phaseAt : Cond.code y_Cel_phaseAt b_Cel_phaseAt 2 (some (.object "CellSettling$Phase")) ∈ T0 := T0_mem (i := 408) rfl rfl
set_option maxRecDepth 20000 in
theorem q_ml_Cel_170 : Cond.methodLink R_Cel 170 y_Cel_stepBehind ∈ T0 := T0_mem (i := 409) rfl rfl
set_option maxRecDepth 20000 in
theorem q_im_Cel_stepBehind : Cond.instanceMethod y_Cel_stepBehind ∈ T0 := T0_mem (i := 411) rfl rfl
set_option maxRecDepth 20000 in
theorem q_co_Cel_stepBehind : Cond.code y_Cel_stepBehind b_Cel_stepBehind 2 (some .long) ∈ T0 := T0_mem (i := 412) rfl rfl
set_option maxRecDepth 20000 in
theorem q_ml_Cel_256 : Cond.methodLink R_Cel 256 ⟨"java/lang/Math", "abs", "(J)J"⟩ ∈ T0 := T0_mem (i := 413) rfl rfl
set_option maxRecDepth 20000 in
theorem q_st_Math_abs : Cond.static ⟨"java/lang/Math", "abs", "(J)J"⟩ ∈ T0 := T0_mem (i := 414) rfl rfl
set_option maxRecDepth 20000 in
theorem q_co_Math_abs : Cond.code ⟨"java/lang/Math", "abs", "(J)J"⟩ prog_9_method_61_code 2 (some .long) ∈ T0 := T0_mem (i := 415) rfl rfl
set_option maxRecDepth 20000 in
theorem q_ml_Law_98 : Cond.methodLink R_Law 98 y_Cel_crack ∈ T0 := T0_mem (i := 416) rfl rfl
set_option maxRecDepth 20000 in
theorem q_im_Cel_crack : Cond.instanceMethod y_Cel_crack ∈ T0 := T0_mem (i := 417) rfl rfl
set_option maxRecDepth 20000 in
theorem q_se_Cel_crack : Cond.selects R_Cel y_Cel_crack y_Cel_crack ∈ T0 := T0_mem (i := 418) rfl rfl
set_option maxRecDepth 20000 in
theorem q_co_Cel_crack : Cond.code y_Cel_crack b_Cel_crack 6 (some .int) ∈ T0 := T0_mem (i := 419) rfl rfl
set_option maxRecDepth 20000 in
theorem q_ml_Law_102 : Cond.methodLink R_Law 102 y_Cel_factor ∈ T0 := T0_mem (i := 420) rfl rfl
set_option maxRecDepth 20000 in
theorem q_im_Cel_factor : Cond.instanceMethod y_Cel_factor ∈ T0 := T0_mem (i := 421) rfl rfl
set_option maxRecDepth 20000 in
theorem q_se_Cel_factor : Cond.selects R_Cel y_Cel_factor y_Cel_factor ∈ T0 := T0_mem (i := 422) rfl rfl
set_option maxRecDepth 20000 in
theorem q_co_Cel_factor : Cond.code y_Cel_factor b_Cel_factor 3 (some .int) ∈ T0 := T0_mem (i := 423) rfl rfl
set_option maxRecDepth 20000 in
theorem q_ml_Law_106 : Cond.methodLink R_Law 106 y_Cel_sum ∈ T0 := T0_mem (i := 424) rfl rfl
set_option maxRecDepth 20000 in
theorem q_im_Cel_sum : Cond.instanceMethod y_Cel_sum ∈ T0 := T0_mem (i := 425) rfl rfl
set_option maxRecDepth 20000 in
theorem q_se_Cel_sum : Cond.selects R_Cel y_Cel_sum y_Cel_sum ∈ T0 := T0_mem (i := 426) rfl rfl
set_option maxRecDepth 20000 in
theorem q_co_Cel_sum : Cond.code y_Cel_sum b_Cel_sum 1 (some .long) ∈ T0 := T0_mem (i := 427) rfl rfl
set_option maxRecDepth 20000 in
theorem q_ml_Law_111 : Cond.methodLink R_Law 111 y_Cel_fit ∈ T0 := T0_mem (i := 428) rfl rfl
set_option maxRecDepth 20000 in
theorem q_im_Cel_fit : Cond.instanceMethod y_Cel_fit ∈ T0 := T0_mem (i := 429) rfl rfl
set_option maxRecDepth 20000 in
theorem q_se_Cel_fit : Cond.selects R_Cel y_Cel_fit y_Cel_fit ∈ T0 := T0_mem (i := 430) rfl rfl
set_option maxRecDepth 20000 in
theorem q_co_Cel_fit : Cond.code y_Cel_fit b_Cel_fit 9 (some .int) ∈ T0 := T0_mem (i := 431) rfl rfl
set_option maxRecDepth 20000 in
theorem q_cl_Cel_183 : Cond.constantLong R_Cel 183 (5 : Int64) ∈ T0 := T0_mem (i := 432) rfl rfl
set_option maxRecDepth 20000 in
theorem q_ml_Cel_185 : Cond.methodLink R_Cel 185 y_Cel_leastByKind ∈ T0 := T0_mem (i := 433) rfl rfl
set_option maxRecDepth 20000 in
theorem q_im_Cel_leastByKind : Cond.instanceMethod y_Cel_leastByKind ∈ T0 := T0_mem (i := 435) rfl rfl
set_option maxRecDepth 20000 in
theorem q_co_Cel_leastByKind : Cond.code y_Cel_leastByKind b_Cel_leastByKind 6 (some .long) ∈ T0 := T0_mem (i := 436) rfl rfl
set_option maxRecDepth 20000 in
theorem q_ml_Cel_188 : Cond.methodLink R_Cel 188 y_Cel_doAllAnew ∈ T0 := T0_mem (i := 437) rfl rfl
set_option maxRecDepth 20000 in
theorem q_im_Cel_doAllAnew : Cond.instanceMethod y_Cel_doAllAnew ∈ T0 := T0_mem (i := 439) rfl rfl
set_option maxRecDepth 20000 in
theorem q_co_Cel_doAllAnew : Cond.code y_Cel_doAllAnew b_Cel_doAllAnew 2 none ∈ T0 := T0_mem (i := 440) rfl rfl
set_option maxRecDepth 20000 in
theorem q_ml_Cel_191 : Cond.methodLink R_Cel 191 y_Col_empty ∈ T0 := T0_mem (i := 441) rfl rfl
set_option maxRecDepth 20000 in
theorem q_im_Col_empty : Cond.instanceMethod y_Col_empty ∈ T0 := T0_mem (i := 442) rfl rfl
set_option maxRecDepth 20000 in
theorem q_se_Col_empty : Cond.selects R_Col y_Col_empty y_Col_empty ∈ T0 := T0_mem (i := 443) rfl rfl
set_option maxRecDepth 20000 in
theorem q_co_Col_empty : Cond.code y_Col_empty b_Col_empty 1 none ∈ T0 := T0_mem (i := 444) rfl rfl
set_option maxRecDepth 20000 in
theorem q_ml_Cel_194 : Cond.methodLink R_Cel 194 y_Kin_forgetRows ∈ T0 := T0_mem (i := 445) rfl rfl
set_option maxRecDepth 20000 in
theorem q_im_Kin_forgetRows : Cond.instanceMethod y_Kin_forgetRows ∈ T0 := T0_mem (i := 446) rfl rfl
set_option maxRecDepth 20000 in
theorem q_se_Kin_forgetRows : Cond.selects R_Kin y_Kin_forgetRows y_Kin_forgetRows ∈ T0 := T0_mem (i := 447) rfl rfl
set_option maxRecDepth 20000 in
theorem q_co_Kin_forgetRows : Cond.code y_Kin_forgetRows b_Kin_forgetRows 1 none ∈ T0 := T0_mem (i := 448) rfl rfl
set_option maxRecDepth 20000 in
theorem q_ml_Law_9 : Cond.methodLink R_Law 9 y_Law_cell ∈ T0 := T0_mem (i := 449) rfl rfl
set_option maxRecDepth 20000 in
theorem q_st_Law_cell : Cond.static y_Law_cell ∈ T0 := T0_mem (i := 450) rfl rfl
set_option maxRecDepth 20000 in
theorem q_co_Law_cell : Cond.code y_Law_cell b_Law_cell 2 (some .int) ∈ T0 := T0_mem (i := 451) rfl rfl
set_option maxRecDepth 20000 in
theorem q_kl_Law_18 : Cond.classLink R_Law 18 R_Mod ∈ T0 := T0_mem (i := 452) rfl rfl
set_option maxRecDepth 20000 in
theorem q_mk_Mod : Cond.instantiable R_Mod 29 ∈ T0 := T0_mem (i := 453) rfl rfl
set_option maxRecDepth 20000 in
theorem q_ml_Law_20 : Cond.methodLink R_Law 20 y_Mod_init ∈ T0 := T0_mem (i := 454) rfl rfl
set_option maxRecDepth 20000 in
theorem q_im_Mod_init : Cond.instanceMethod y_Mod_init ∈ T0 := T0_mem (i := 455) rfl rfl
set_option maxRecDepth 20000 in
theorem q_co_Mod_init : Cond.code y_Mod_init b_Mod_init 4 none ∈ T0 := T0_mem (i := 456) rfl rfl
set_option maxRecDepth 20000 in
theorem q_ml_Mod_1 : Cond.methodLink R_Mod 1 objectInit ∈ T0 := T0_mem (i := 457) rfl rfl
set_option maxRecDepth 20000 in
theorem q_fl_Mod_75 : Cond.fieldLink R_Mod 75 "CellSettlingModel" "columns" "I" ∈ T0 := T0_mem (i := 458) rfl rfl
set_option maxRecDepth 20000 in
theorem q_fl_Mod_79 : Cond.fieldLink R_Mod 79 "CellSettlingModel" "side" "I" ∈ T0 := T0_mem (i := 459) rfl rfl
set_option maxRecDepth 20000 in
theorem q_fl_Mod_7 : Cond.fieldLink R_Mod 7 "CellSettlingModel" "densities" "[I" ∈ T0 := T0_mem (i := 460) rfl rfl
set_option maxRecDepth 20000 in
theorem q_fl_Mod_13 : Cond.fieldLink R_Mod 13 "CellSettlingModel" "factors" "[I" ∈ T0 := T0_mem (i := 461) rfl rfl
set_option maxRecDepth 20000 in
theorem q_fl_Mod_115 : Cond.fieldLink R_Mod 115 "CellSettlingModel" "told" "I" ∈ T0 := T0_mem (i := 462) rfl rfl
set_option maxRecDepth 20000 in
theorem q_fl_Mod_16 : Cond.fieldLink R_Mod 16 "CellSettlingModel" "kinds" "[I" ∈ T0 := T0_mem (i := 463) rfl rfl
set_option maxRecDepth 20000 in
theorem q_fl_Mod_19 : Cond.fieldLink R_Mod 19 "CellSettlingModel" "ones" "[I" ∈ T0 := T0_mem (i := 464) rfl rfl
set_option maxRecDepth 20000 in
theorem q_fl_Mod_22 : Cond.fieldLink R_Mod 22 "CellSettlingModel" "twos" "[I" ∈ T0 := T0_mem (i := 465) rfl rfl
set_option maxRecDepth 20000 in
theorem q_fl_Mod_25 : Cond.fieldLink R_Mod 25 "CellSettlingModel" "greats" "[J" ∈ T0 := T0_mem (i := 466) rfl rfl
set_option maxRecDepth 20000 in
theorem q_fl_Mod_29 : Cond.fieldLink R_Mod 29 "CellSettlingModel" "firsts" "[J" ∈ T0 := T0_mem (i := 467) rfl rfl
set_option maxRecDepth 20000 in
theorem q_fl_Mod_32 : Cond.fieldLink R_Mod 32 "CellSettlingModel" "layerCounts" "[I" ∈ T0 := T0_mem (i := 468) rfl rfl
set_option maxRecDepth 20000 in
theorem q_fl_Mod_35 : Cond.fieldLink R_Mod 35 "CellSettlingModel" "layerKinds" "[I" ∈ T0 := T0_mem (i := 469) rfl rfl
set_option maxRecDepth 20000 in
theorem q_fl_Mod_38 : Cond.fieldLink R_Mod 38 "CellSettlingModel" "masses" "[J" ∈ T0 := T0_mem (i := 470) rfl rfl
set_option maxRecDepth 20000 in
theorem q_fl_Mod_41 : Cond.fieldLink R_Mod 41 "CellSettlingModel" "thicks" "[J" ∈ T0 := T0_mem (i := 471) rfl rfl
set_option maxRecDepth 20000 in
theorem q_fl_Mod_44 : Cond.fieldLink R_Mod 44 "CellSettlingModel" "passes" "[I" ∈ T0 := T0_mem (i := 472) rfl rfl
set_option maxRecDepth 20000 in
theorem q_fl_Mod_47 : Cond.fieldLink R_Mod 47 "CellSettlingModel" "covers" "[I" ∈ T0 := T0_mem (i := 473) rfl rfl
set_option maxRecDepth 20000 in
theorem q_fl_Mod_50 : Cond.fieldLink R_Mod 50 "CellSettlingModel" "rowCounts" "[I" ∈ T0 := T0_mem (i := 474) rfl rfl
set_option maxRecDepth 20000 in
theorem q_fl_Mod_53 : Cond.fieldLink R_Mod 53 "CellSettlingModel" "loads" "[J" ∈ T0 := T0_mem (i := 475) rfl rfl
set_option maxRecDepth 20000 in
theorem q_fl_Mod_56 : Cond.fieldLink R_Mod 56 "CellSettlingModel" "thousandths" "[I" ∈ T0 := T0_mem (i := 476) rfl rfl
set_option maxRecDepth 20000 in
theorem q_fl_Mod_90 : Cond.fieldLink R_Mod 90 "CellSettlingModel" "year" "I" ∈ T0 := T0_mem (i := 477) rfl rfl
set_option maxRecDepth 20000 in
theorem q_fl_Mod_112 : Cond.fieldLink R_Mod 112 "CellSettlingModel" "surveys" "I" ∈ T0 := T0_mem (i := 478) rfl rfl
set_option maxRecDepth 20000 in
theorem q_fl_Mod_108 : Cond.fieldLink R_Mod 108 "CellSettlingModel" "squares" "J" ∈ T0 := T0_mem (i := 479) rfl rfl
set_option maxRecDepth 20000 in
theorem q_fl_Mod_153 : Cond.fieldLink R_Mod 153 "CellSettlingModel" "surfaceCount" "I" ∈ T0 := T0_mem (i := 480) rfl rfl
set_option maxRecDepth 20000 in
theorem q_fl_Mod_59 : Cond.fieldLink R_Mod 59 "CellSettlingModel" "points" "[I" ∈ T0 := T0_mem (i := 481) rfl rfl
set_option maxRecDepth 20000 in
theorem q_fl_Mod_62 : Cond.fieldLink R_Mod 62 "CellSettlingModel" "isPoint" "[Z" ∈ T0 := T0_mem (i := 482) rfl rfl
set_option maxRecDepth 20000 in
theorem q_fl_Mod_183 : Cond.fieldLink R_Mod 183 "CellSettlingModel" "phaseCount" "I" ∈ T0 := T0_mem (i := 483) rfl rfl
set_option maxRecDepth 20000 in
theorem q_fl_Mod_66 : Cond.fieldLink R_Mod 66 "CellSettlingModel" "froms" "[I" ∈ T0 := T0_mem (i := 484) rfl rfl
set_option maxRecDepth 20000 in
theorem q_fl_Mod_69 : Cond.fieldLink R_Mod 69 "CellSettlingModel" "tos" "[I" ∈ T0 := T0_mem (i := 485) rfl rfl
set_option maxRecDepth 20000 in
theorem q_fl_Mod_72 : Cond.fieldLink R_Mod 72 "CellSettlingModel" "slopes" "[J" ∈ T0 := T0_mem (i := 486) rfl rfl
set_option maxRecDepth 20000 in
theorem q_ml_Law_25 : Cond.methodLink R_Law 25 y_Mod_density ∈ T0 := T0_mem (i := 546) rfl rfl
set_option maxRecDepth 20000 in
theorem q_im_Mod_density : Cond.instanceMethod y_Mod_density ∈ T0 := T0_mem (i := 547) rfl rfl
set_option maxRecDepth 20000 in
theorem q_se_Mod_density : Cond.selects R_Mod y_Mod_density y_Mod_density ∈ T0 := T0_mem (i := 548) rfl rfl
set_option maxRecDepth 20000 in
theorem q_co_Mod_density : Cond.code y_Mod_density b_Mod_density 3 (some .boolean) ∈ T0 := T0_mem (i := 549) rfl rfl
set_option maxRecDepth 20000 in
theorem q_ml_Mod_124 : Cond.methodLink R_Mod 124 y_Mod_isKind ∈ T0 := T0_mem (i := 550) rfl rfl
set_option maxRecDepth 20000 in
theorem q_st_Mod_isKind : Cond.static y_Mod_isKind ∈ T0 := T0_mem (i := 551) rfl rfl
set_option maxRecDepth 20000 in
theorem q_co_Mod_isKind : Cond.code y_Mod_isKind b_Mod_isKind 1 (some .boolean) ∈ T0 := T0_mem (i := 552) rfl rfl
set_option maxRecDepth 20000 in
theorem q_cl_Mod_82 : Cond.constantLong R_Mod 82 (3 : Int64) ∈ T0 := T0_mem (i := 553) rfl rfl
set_option maxRecDepth 20000 in
theorem q_ml_Mod_84 : Cond.methodLink R_Mod 84 y_Mod_isIn ∈ T0 := T0_mem (i := 554) rfl rfl
set_option maxRecDepth 20000 in
theorem q_st_Mod_isIn : Cond.static y_Mod_isIn ∈ T0 := T0_mem (i := 555) rfl rfl
set_option maxRecDepth 20000 in
theorem q_co_Mod_isIn : Cond.code y_Mod_isIn b_Mod_isIn 6 (some .boolean) ∈ T0 := T0_mem (i := 556) rfl rfl
set_option maxRecDepth 20000 in
theorem q_cl_Mod_128 : Cond.constantLong R_Mod 128 (100 : Int64) ∈ T0 := T0_mem (i := 557) rfl rfl
set_option maxRecDepth 20000 in
theorem q_cl_Mod_130 : Cond.constantLong R_Mod 130 (3000 : Int64) ∈ T0 := T0_mem (i := 558) rfl rfl
set_option maxRecDepth 20000 in
theorem q_ml_Law_32 : Cond.methodLink R_Law 32 y_Mod_row ∈ T0 := T0_mem (i := 559) rfl rfl
set_option maxRecDepth 20000 in
theorem q_im_Mod_row : Cond.instanceMethod y_Mod_row ∈ T0 := T0_mem (i := 560) rfl rfl
set_option maxRecDepth 20000 in
theorem q_se_Mod_row : Cond.selects R_Mod y_Mod_row y_Mod_row ∈ T0 := T0_mem (i := 561) rfl rfl
set_option maxRecDepth 20000 in
theorem q_co_Mod_row : Cond.code y_Mod_row b_Mod_row 5 (some .boolean) ∈ T0 := T0_mem (i := 562) rfl rfl
set_option maxRecDepth 20000 in
theorem q_cl_Mod_132 : Cond.constantLong R_Mod 132 (100000000 : Int64) ∈ T0 := T0_mem (i := 563) rfl rfl
set_option maxRecDepth 20000 in
theorem q_cl_Mod_134 : Cond.constantLong R_Mod 134 (300 : Int64) ∈ T0 := T0_mem (i := 564) rfl rfl
set_option maxRecDepth 20000 in
theorem q_ml_Mod_136 : Cond.methodLink R_Mod 136 y_Mod_tell ∈ T0 := T0_mem (i := 565) rfl rfl
set_option maxRecDepth 20000 in
theorem q_im_Mod_tell : Cond.instanceMethod y_Mod_tell ∈ T0 := T0_mem (i := 567) rfl rfl
set_option maxRecDepth 20000 in
theorem q_co_Mod_tell : Cond.code y_Mod_tell b_Mod_tell 8 none ∈ T0 := T0_mem (i := 568) rfl rfl
set_option maxRecDepth 20000 in
theorem q_ml_Mod_121 : Cond.methodLink R_Mod 121 y_Mod_doAnew ∈ T0 := T0_mem (i := 569) rfl rfl
set_option maxRecDepth 20000 in
theorem q_im_Mod_doAnew : Cond.instanceMethod y_Mod_doAnew ∈ T0 := T0_mem (i := 571) rfl rfl
set_option maxRecDepth 20000 in
theorem q_co_Mod_doAnew : Cond.code y_Mod_doAnew b_Mod_doAnew 2 none ∈ T0 := T0_mem (i := 572) rfl rfl
set_option maxRecDepth 20000 in
theorem q_ml_Mod_118 : Cond.methodLink R_Mod 118 y_Mod_act ∈ T0 := T0_mem (i := 573) rfl rfl
set_option maxRecDepth 20000 in
theorem q_im_Mod_act : Cond.instanceMethod y_Mod_act ∈ T0 := T0_mem (i := 575) rfl rfl
set_option maxRecDepth 20000 in
theorem q_co_Mod_act : Cond.code y_Mod_act b_Mod_act 7 none ∈ T0 := T0_mem (i := 576) rfl rfl
set_option maxRecDepth 20000 in
theorem q_ml_Mod_95 : Cond.methodLink R_Mod 95 y_Mod_onePass ∈ T0 := T0_mem (i := 577) rfl rfl
set_option maxRecDepth 20000 in
theorem q_im_Mod_onePass : Cond.instanceMethod y_Mod_onePass ∈ T0 := T0_mem (i := 579) rfl rfl
set_option maxRecDepth 20000 in
theorem q_co_Mod_onePass : Cond.code y_Mod_onePass b_Mod_onePass 3 none ∈ T0 := T0_mem (i := 580) rfl rfl
set_option maxRecDepth 20000 in
theorem q_ml_Mod_99 : Cond.methodLink R_Mod 99 y_Mod_oneYear ∈ T0 := T0_mem (i := 581) rfl rfl
set_option maxRecDepth 20000 in
theorem q_im_Mod_oneYear : Cond.instanceMethod y_Mod_oneYear ∈ T0 := T0_mem (i := 583) rfl rfl
set_option maxRecDepth 20000 in
theorem q_co_Mod_oneYear : Cond.code y_Mod_oneYear b_Mod_oneYear 10 none ∈ T0 := T0_mem (i := 584) rfl rfl
set_option maxRecDepth 20000 in
theorem q_cl_Mod_88 : Cond.constantLong R_Mod 88 (1000000 : Int64) ∈ T0 := T0_mem (i := 585) rfl rfl
set_option maxRecDepth 20000 in
theorem q_ml_Mod_102 : Cond.methodLink R_Mod 102 y_Mod_heightOf ∈ T0 := T0_mem (i := 586) rfl rfl
set_option maxRecDepth 20000 in
theorem q_im_Mod_heightOf : Cond.instanceMethod y_Mod_heightOf ∈ T0 := T0_mem (i := 588) rfl rfl
set_option maxRecDepth 20000 in
theorem q_co_Mod_heightOf : Cond.code y_Mod_heightOf b_Mod_heightOf 5 (some .long) ∈ T0 := T0_mem (i := 589) rfl rfl
set_option maxRecDepth 20000 in
theorem q_cl_Mod_93 : Cond.constantLong R_Mod 93 (1000 : Int64) ∈ T0 := T0_mem (i := 590) rfl rfl
set_option maxRecDepth 20000 in
theorem q_cl_Mod_106 : Cond.constantLong R_Mod 106 (-1000000 : Int64) ∈ T0 := T0_mem (i := 591) rfl rfl
set_option maxRecDepth 20000 in
theorem q_ml_Law_37 : Cond.methodLink R_Law 37 y_Mod_layer ∈ T0 := T0_mem (i := 592) rfl rfl
set_option maxRecDepth 20000 in
theorem q_im_Mod_layer : Cond.instanceMethod y_Mod_layer ∈ T0 := T0_mem (i := 593) rfl rfl
set_option maxRecDepth 20000 in
theorem q_se_Mod_layer : Cond.selects R_Mod y_Mod_layer y_Mod_layer ∈ T0 := T0_mem (i := 594) rfl rfl
set_option maxRecDepth 20000 in
theorem q_co_Mod_layer : Cond.code y_Mod_layer b_Mod_layer 5 (some .int) ∈ T0 := T0_mem (i := 595) rfl rfl
set_option maxRecDepth 20000 in
theorem q_ml_Mod_140 : Cond.methodLink R_Mod 140 y_Mod_isColumn ∈ T0 := T0_mem (i := 596) rfl rfl
set_option maxRecDepth 20000 in
theorem q_im_Mod_isColumn : Cond.instanceMethod y_Mod_isColumn ∈ T0 := T0_mem (i := 598) rfl rfl
set_option maxRecDepth 20000 in
theorem q_co_Mod_isColumn : Cond.code y_Mod_isColumn b_Mod_isColumn 2 (some .boolean) ∈ T0 := T0_mem (i := 599) rfl rfl
set_option maxRecDepth 20000 in
theorem q_ml_Law_41 : Cond.methodLink R_Law 41 y_Mod_roll ∈ T0 := T0_mem (i := 600) rfl rfl
set_option maxRecDepth 20000 in
theorem q_im_Mod_roll : Cond.instanceMethod y_Mod_roll ∈ T0 := T0_mem (i := 601) rfl rfl
set_option maxRecDepth 20000 in
theorem q_se_Mod_roll : Cond.selects R_Mod y_Mod_roll y_Mod_roll ∈ T0 := T0_mem (i := 602) rfl rfl
set_option maxRecDepth 20000 in
theorem q_co_Mod_roll : Cond.code y_Mod_roll b_Mod_roll 3 (some .boolean) ∈ T0 := T0_mem (i := 603) rfl rfl
set_option maxRecDepth 20000 in
theorem q_cl_Mod_143 : Cond.constantLong R_Mod 143 (20 : Int64) ∈ T0 := T0_mem (i := 604) rfl rfl
set_option maxRecDepth 20000 in
theorem q_ml_Law_46 : Cond.methodLink R_Law 46 y_Mod_run ∈ T0 := T0_mem (i := 605) rfl rfl
set_option maxRecDepth 20000 in
theorem q_im_Mod_run : Cond.instanceMethod y_Mod_run ∈ T0 := T0_mem (i := 606) rfl rfl
set_option maxRecDepth 20000 in
theorem q_se_Mod_run : Cond.selects R_Mod y_Mod_run y_Mod_run ∈ T0 := T0_mem (i := 607) rfl rfl
set_option maxRecDepth 20000 in
theorem q_co_Mod_run : Cond.code y_Mod_run b_Mod_run 2 (some .int) ∈ T0 := T0_mem (i := 608) rfl rfl
set_option maxRecDepth 20000 in
theorem q_cl_Mod_145 : Cond.constantLong R_Mod 145 (50 : Int64) ∈ T0 := T0_mem (i := 609) rfl rfl
set_option maxRecDepth 20000 in
theorem q_ml_Law_50 : Cond.methodLink R_Law 50 y_Mod_cover ∈ T0 := T0_mem (i := 610) rfl rfl
set_option maxRecDepth 20000 in
theorem q_im_Mod_cover : Cond.instanceMethod y_Mod_cover ∈ T0 := T0_mem (i := 611) rfl rfl
set_option maxRecDepth 20000 in
theorem q_se_Mod_cover : Cond.selects R_Mod y_Mod_cover y_Mod_cover ∈ T0 := T0_mem (i := 612) rfl rfl
set_option maxRecDepth 20000 in
theorem q_co_Mod_cover : Cond.code y_Mod_cover b_Mod_cover 3 (some .boolean) ∈ T0 := T0_mem (i := 613) rfl rfl
set_option maxRecDepth 20000 in
theorem q_cl_Mod_147 : Cond.constantLong R_Mod 147 (10000 : Int64) ∈ T0 := T0_mem (i := 614) rfl rfl
set_option maxRecDepth 20000 in
theorem q_ml_Law_55 : Cond.methodLink R_Law 55 y_Mod_survey ∈ T0 := T0_mem (i := 615) rfl rfl
set_option maxRecDepth 20000 in
theorem q_im_Mod_survey : Cond.instanceMethod y_Mod_survey ∈ T0 := T0_mem (i := 616) rfl rfl
set_option maxRecDepth 20000 in
theorem q_se_Mod_survey : Cond.selects R_Mod y_Mod_survey y_Mod_survey ∈ T0 := T0_mem (i := 617) rfl rfl
set_option maxRecDepth 20000 in
theorem q_co_Mod_survey : Cond.code y_Mod_survey b_Mod_survey 4 (some .int) ∈ T0 := T0_mem (i := 618) rfl rfl
set_option maxRecDepth 20000 in
theorem q_cl_Mod_149 : Cond.constantLong R_Mod 149 (1000000000 : Int64) ∈ T0 := T0_mem (i := 619) rfl rfl
set_option maxRecDepth 20000 in
theorem q_ml_Law_60 : Cond.methodLink R_Law 60 y_Mod_height ∈ T0 := T0_mem (i := 620) rfl rfl
set_option maxRecDepth 20000 in
theorem q_im_Mod_height : Cond.instanceMethod y_Mod_height ∈ T0 := T0_mem (i := 621) rfl rfl
set_option maxRecDepth 20000 in
theorem q_se_Mod_height : Cond.selects R_Mod y_Mod_height y_Mod_height ∈ T0 := T0_mem (i := 622) rfl rfl
set_option maxRecDepth 20000 in
theorem q_co_Mod_height : Cond.code y_Mod_height b_Mod_height 2 (some .long) ∈ T0 := T0_mem (i := 623) rfl rfl
set_option maxRecDepth 20000 in
theorem q_cl_Mod_151 : Cond.constantLong R_Mod 151 (-1 : Int64) ∈ T0 := T0_mem (i := 624) rfl rfl
set_option maxRecDepth 20000 in
theorem q_ml_Law_65 : Cond.methodLink R_Law 65 y_Mod_thickness ∈ T0 := T0_mem (i := 625) rfl rfl
set_option maxRecDepth 20000 in
theorem q_im_Mod_thickness : Cond.instanceMethod y_Mod_thickness ∈ T0 := T0_mem (i := 626) rfl rfl
set_option maxRecDepth 20000 in
theorem q_se_Mod_thickness : Cond.selects R_Mod y_Mod_thickness y_Mod_thickness ∈ T0 := T0_mem (i := 627) rfl rfl
set_option maxRecDepth 20000 in
theorem q_co_Mod_thickness : Cond.code y_Mod_thickness b_Mod_thickness 3 (some .long) ∈ T0 := T0_mem (i := 628) rfl rfl
set_option maxRecDepth 20000 in
theorem q_ml_Law_69 : Cond.methodLink R_Law 69 y_Mod_mass ∈ T0 := T0_mem (i := 629) rfl rfl
set_option maxRecDepth 20000 in
theorem q_im_Mod_mass : Cond.instanceMethod y_Mod_mass ∈ T0 := T0_mem (i := 630) rfl rfl
set_option maxRecDepth 20000 in
theorem q_se_Mod_mass : Cond.selects R_Mod y_Mod_mass y_Mod_mass ∈ T0 := T0_mem (i := 631) rfl rfl
set_option maxRecDepth 20000 in
theorem q_co_Mod_mass : Cond.code y_Mod_mass b_Mod_mass 6 (some .long) ∈ T0 := T0_mem (i := 632) rfl rfl
set_option maxRecDepth 20000 in
theorem q_ml_Law_73 : Cond.methodLink R_Law 73 y_Mod_covered ∈ T0 := T0_mem (i := 633) rfl rfl
set_option maxRecDepth 20000 in
theorem q_im_Mod_covered : Cond.instanceMethod y_Mod_covered ∈ T0 := T0_mem (i := 634) rfl rfl
set_option maxRecDepth 20000 in
theorem q_se_Mod_covered : Cond.selects R_Mod y_Mod_covered y_Mod_covered ∈ T0 := T0_mem (i := 635) rfl rfl
set_option maxRecDepth 20000 in
theorem q_co_Mod_covered : Cond.code y_Mod_covered b_Mod_covered 2 (some .int) ∈ T0 := T0_mem (i := 636) rfl rfl
set_option maxRecDepth 20000 in
theorem q_ml_Law_78 : Cond.methodLink R_Law 78 y_Mod_surface ∈ T0 := T0_mem (i := 637) rfl rfl
set_option maxRecDepth 20000 in
theorem q_im_Mod_surface : Cond.instanceMethod y_Mod_surface ∈ T0 := T0_mem (i := 638) rfl rfl
set_option maxRecDepth 20000 in
theorem q_se_Mod_surface : Cond.selects R_Mod y_Mod_surface y_Mod_surface ∈ T0 := T0_mem (i := 639) rfl rfl
set_option maxRecDepth 20000 in
theorem q_co_Mod_surface : Cond.code y_Mod_surface b_Mod_surface 1 (some .int) ∈ T0 := T0_mem (i := 640) rfl rfl
set_option maxRecDepth 20000 in
theorem q_ml_Law_83 : Cond.methodLink R_Law 83 y_Mod_point ∈ T0 := T0_mem (i := 641) rfl rfl
set_option maxRecDepth 20000 in
theorem q_im_Mod_point : Cond.instanceMethod y_Mod_point ∈ T0 := T0_mem (i := 642) rfl rfl
set_option maxRecDepth 20000 in
theorem q_se_Mod_point : Cond.selects R_Mod y_Mod_point y_Mod_point ∈ T0 := T0_mem (i := 643) rfl rfl
set_option maxRecDepth 20000 in
theorem q_co_Mod_point : Cond.code y_Mod_point b_Mod_point 5 (some .boolean) ∈ T0 := T0_mem (i := 644) rfl rfl
set_option maxRecDepth 20000 in
theorem q_ml_Mod_156 : Cond.methodLink R_Mod 156 y_Mod_isSurface ∈ T0 := T0_mem (i := 645) rfl rfl
set_option maxRecDepth 20000 in
theorem q_im_Mod_isSurface : Cond.instanceMethod y_Mod_isSurface ∈ T0 := T0_mem (i := 647) rfl rfl
set_option maxRecDepth 20000 in
theorem q_co_Mod_isSurface : Cond.code y_Mod_isSurface b_Mod_isSurface 2 (some .boolean) ∈ T0 := T0_mem (i := 648) rfl rfl
set_option maxRecDepth 20000 in
theorem q_cl_Mod_159 : Cond.constantLong R_Mod 159 (4 : Int64) ∈ T0 := T0_mem (i := 649) rfl rfl
set_option maxRecDepth 20000 in
theorem q_cl_Mod_161 : Cond.constantLong R_Mod 161 (-100000 : Int64) ∈ T0 := T0_mem (i := 650) rfl rfl
set_option maxRecDepth 20000 in
theorem q_cl_Mod_163 : Cond.constantLong R_Mod 163 (100000 : Int64) ∈ T0 := T0_mem (i := 651) rfl rfl
set_option maxRecDepth 20000 in
theorem q_ml_Law_88 : Cond.methodLink R_Law 88 y_Mod_room ∈ T0 := T0_mem (i := 652) rfl rfl
set_option maxRecDepth 20000 in
theorem q_im_Mod_room : Cond.instanceMethod y_Mod_room ∈ T0 := T0_mem (i := 653) rfl rfl
set_option maxRecDepth 20000 in
theorem q_se_Mod_room : Cond.selects R_Mod y_Mod_room y_Mod_room ∈ T0 := T0_mem (i := 654) rfl rfl
set_option maxRecDepth 20000 in
theorem q_co_Mod_room : Cond.code y_Mod_room b_Mod_room 10 (some .long) ∈ T0 := T0_mem (i := 655) rfl rfl
set_option maxRecDepth 20000 in
theorem q_cl_Mod_165 : Cond.constantLong R_Mod 165 (-9223372036854775808 : Int64) ∈ T0 := T0_mem (i := 656) rfl rfl
set_option maxRecDepth 20000 in
theorem q_ml_Mod_167 : Cond.methodLink R_Mod 167 y_Mod_isTold ∈ T0 := T0_mem (i := 657) rfl rfl
set_option maxRecDepth 20000 in
theorem q_im_Mod_isTold : Cond.instanceMethod y_Mod_isTold ∈ T0 := T0_mem (i := 659) rfl rfl
set_option maxRecDepth 20000 in
theorem q_co_Mod_isTold : Cond.code y_Mod_isTold b_Mod_isTold 4 (some .boolean) ∈ T0 := T0_mem (i := 660) rfl rfl
set_option maxRecDepth 20000 in
theorem q_cl_Mod_171 : Cond.constantLong R_Mod 171 (2 : Int64) ∈ T0 := T0_mem (i := 661) rfl rfl
set_option maxRecDepth 20000 in
theorem q_ml_Mod_173 : Cond.methodLink R_Mod 173 y_Mod_apart ∈ T0 := T0_mem (i := 662) rfl rfl
set_option maxRecDepth 20000 in
theorem q_im_Mod_apart : Cond.instanceMethod y_Mod_apart ∈ T0 := T0_mem (i := 664) rfl rfl
set_option maxRecDepth 20000 in
theorem q_co_Mod_apart : Cond.code y_Mod_apart b_Mod_apart 4 (some .long) ∈ T0 := T0_mem (i := 665) rfl rfl
set_option maxRecDepth 20000 in
theorem q_cl_Mod_177 : Cond.constantLong R_Mod 177 (6 : Int64) ∈ T0 := T0_mem (i := 666) rfl rfl
set_option maxRecDepth 20000 in
theorem q_ml_Mod_179 : Cond.methodLink R_Mod 179 y_Mod_common ∈ T0 := T0_mem (i := 667) rfl rfl
set_option maxRecDepth 20000 in
theorem q_st_Mod_common : Cond.static y_Mod_common ∈ T0 := T0_mem (i := 668) rfl rfl
set_option maxRecDepth 20000 in
theorem q_co_Mod_common : Cond.code y_Mod_common b_Mod_common 10 (some .long) ∈ T0 := T0_mem (i := 669) rfl rfl
set_option maxRecDepth 20000 in
theorem q_ml_Law_92 : Cond.methodLink R_Law 92 y_Mod_phase ∈ T0 := T0_mem (i := 670) rfl rfl
set_option maxRecDepth 20000 in
theorem q_im_Mod_phase : Cond.instanceMethod y_Mod_phase ∈ T0 := T0_mem (i := 671) rfl rfl
set_option maxRecDepth 20000 in
theorem q_se_Mod_phase : Cond.selects R_Mod y_Mod_phase y_Mod_phase ∈ T0 := T0_mem (i := 672) rfl rfl
set_option maxRecDepth 20000 in
theorem q_co_Mod_phase : Cond.code y_Mod_phase b_Mod_phase 5 (some .int) ∈ T0 := T0_mem (i := 673) rfl rfl
set_option maxRecDepth 20000 in
theorem q_ml_Law_97 : Cond.methodLink R_Law 97 y_Mod_kept ∈ T0 := T0_mem (i := 674) rfl rfl
set_option maxRecDepth 20000 in
theorem q_im_Mod_kept : Cond.instanceMethod y_Mod_kept ∈ T0 := T0_mem (i := 675) rfl rfl
set_option maxRecDepth 20000 in
theorem q_se_Mod_kept : Cond.selects R_Mod y_Mod_kept y_Mod_kept ∈ T0 := T0_mem (i := 676) rfl rfl
set_option maxRecDepth 20000 in
theorem q_co_Mod_kept : Cond.code y_Mod_kept b_Mod_kept 4 (some .boolean) ∈ T0 := T0_mem (i := 677) rfl rfl
set_option maxRecDepth 20000 in
theorem q_ml_Mod_186 : Cond.methodLink R_Mod 186 y_Mod_step ∈ T0 := T0_mem (i := 678) rfl rfl
set_option maxRecDepth 20000 in
theorem q_im_Mod_step : Cond.instanceMethod y_Mod_step ∈ T0 := T0_mem (i := 680) rfl rfl
set_option maxRecDepth 20000 in
theorem q_co_Mod_step : Cond.code y_Mod_step b_Mod_step 4 (some .long) ∈ T0 := T0_mem (i := 681) rfl rfl
set_option maxRecDepth 20000 in
theorem q_ml_Law_101 : Cond.methodLink R_Law 101 y_Mod_crack ∈ T0 := T0_mem (i := 682) rfl rfl
set_option maxRecDepth 20000 in
theorem q_im_Mod_crack : Cond.instanceMethod y_Mod_crack ∈ T0 := T0_mem (i := 683) rfl rfl
set_option maxRecDepth 20000 in
theorem q_se_Mod_crack : Cond.selects R_Mod y_Mod_crack y_Mod_crack ∈ T0 := T0_mem (i := 684) rfl rfl
set_option maxRecDepth 20000 in
theorem q_co_Mod_crack : Cond.code y_Mod_crack b_Mod_crack 6 (some .int) ∈ T0 := T0_mem (i := 685) rfl rfl
set_option maxRecDepth 20000 in
theorem q_ml_Law_105 : Cond.methodLink R_Law 105 y_Mod_factor ∈ T0 := T0_mem (i := 686) rfl rfl
set_option maxRecDepth 20000 in
theorem q_im_Mod_factor : Cond.instanceMethod y_Mod_factor ∈ T0 := T0_mem (i := 687) rfl rfl
set_option maxRecDepth 20000 in
theorem q_se_Mod_factor : Cond.selects R_Mod y_Mod_factor y_Mod_factor ∈ T0 := T0_mem (i := 688) rfl rfl
set_option maxRecDepth 20000 in
theorem q_co_Mod_factor : Cond.code y_Mod_factor b_Mod_factor 2 (some .int) ∈ T0 := T0_mem (i := 689) rfl rfl
set_option maxRecDepth 20000 in
theorem q_ml_Law_110 : Cond.methodLink R_Law 110 y_Mod_sum ∈ T0 := T0_mem (i := 690) rfl rfl
set_option maxRecDepth 20000 in
theorem q_im_Mod_sum : Cond.instanceMethod y_Mod_sum ∈ T0 := T0_mem (i := 691) rfl rfl
set_option maxRecDepth 20000 in
theorem q_se_Mod_sum : Cond.selects R_Mod y_Mod_sum y_Mod_sum ∈ T0 := T0_mem (i := 692) rfl rfl
set_option maxRecDepth 20000 in
theorem q_co_Mod_sum : Cond.code y_Mod_sum b_Mod_sum 1 (some .long) ∈ T0 := T0_mem (i := 693) rfl rfl
set_option maxRecDepth 20000 in
theorem q_ml_Law_114 : Cond.methodLink R_Law 114 y_Mod_fit ∈ T0 := T0_mem (i := 694) rfl rfl
set_option maxRecDepth 20000 in
theorem q_im_Mod_fit : Cond.instanceMethod y_Mod_fit ∈ T0 := T0_mem (i := 695) rfl rfl
set_option maxRecDepth 20000 in
theorem q_se_Mod_fit : Cond.selects R_Mod y_Mod_fit y_Mod_fit ∈ T0 := T0_mem (i := 696) rfl rfl
set_option maxRecDepth 20000 in
theorem q_co_Mod_fit : Cond.code y_Mod_fit b_Mod_fit 6 (some .int) ∈ T0 := T0_mem (i := 697) rfl rfl
set_option maxRecDepth 20000 in
theorem q_cl_Mod_189 : Cond.constantLong R_Mod 189 (5 : Int64) ∈ T0 := T0_mem (i := 698) rfl rfl
set_option maxRecDepth 20000 in
theorem q_ml_Mod_191 : Cond.methodLink R_Mod 191 y_Mod_isBetter ∈ T0 := T0_mem (i := 699) rfl rfl
set_option maxRecDepth 20000 in
theorem q_im_Mod_isBetter : Cond.instanceMethod y_Mod_isBetter ∈ T0 := T0_mem (i := 701) rfl rfl
set_option maxRecDepth 20000 in
theorem q_co_Mod_isBetter : Cond.code y_Mod_isBetter b_Mod_isBetter 6 (some .boolean) ∈ T0 := T0_mem (i := 702) rfl rfl
set_option maxRecDepth 20000 in
theorem q_cl_Law_26 : Cond.constantLong R_Law 26 (4294967295 : Int64) ∈ T0 := T0_mem (i := 703) rfl rfl
theorem u_Col : ∀ w ∈ u_ws R_Col T_Col 6, w ∈ T0 := by decide +kernel
theorem u_Kin : ∀ w ∈ u_ws R_Kin T_Kin 5, w ∈ T0 := by decide +kernel
theorem u_Pha : ∀ w ∈ u_ws R_Pha T_Pha 3, w ∈ T0 := by decide +kernel
theorem u_Sur : ∀ w ∈ u_ws R_Sur T_Sur 2, w ∈ T0 := by decide +kernel
theorem u_Tol : ∀ w ∈ u_ws R_Tol T_Tol 6, w ∈ T0 := by decide +kernel
theorem u_Cel : ∀ w ∈ u_ws R_Cel T_Cel 11, w ∈ T0 := by decide +kernel
theorem u_Mod : ∀ w ∈ u_ws R_Mod T_Mod 29, w ∈ T0 := by decide +kernel
end
section
/-! THE WORLD BY ROLES. A role is a number; ad gives its address, f what stands there (none: nothing). -/
def hw_l (ad : Nat → Nat) (rs : List Nat) (f : Nat → Option va_E) : va_W := rs.map (fun r => (ad r, (f r).getD (.inr (0, []))))
theorem hw_l_get {ad : Nat → Nat} {rs : List Nat} {f : Nat → Option va_E} {r : Nat} {e : va_E} (h : r ∈ rs) (he : f r = some e) : ∃ k : Nat, rs[k]? = some r ∧ (hw_l ad rs f)[k]? = some (ad r, e) := by
  obtain ⟨k, hk⟩ := List.getElem?_of_mem h
  exact ⟨k, hk, by simp only [hw_l, List.getElem?_map, hk, Option.map_some, he, Option.getD_some]⟩
theorem hw_l_set {A : Nat → Prop} {ad : Nat → Nat} {rs : List Nat} {f : Nat → Option va_E} {r k : Nat} {e0 e : va_E} (hD : va_D A (hw_l ad rs f)) (h : r ∈ rs) (he : f r = some e0) (hk : (hw_l ad rs f)[k]? = some (ad r, e0)) : (hw_l ad rs f).set k (ad r, e) = hw_l ad rs (va_up f r (some e)) := by
  have hl := (List.getElem?_eq_some_iff.mp hk).1
  obtain ⟨i, hi⟩ := List.getElem?_of_mem h
  have hi2 : (hw_l ad rs f)[i]? = some (ad r, e0) := by simp only [hw_l, List.getElem?_map, hi, Option.map_some, he, Option.getD_some]
  have hik : i = k := hD.1 i k _ _ hi2 hk rfl
  subst hik
  apply List.ext_getElem?
  intro j
  by_cases hj : j = i
  · subst hj
    rw [List.getElem?_set_self hl]
    simp [hw_l, List.getElem?_map, hi, va_up]
  · rw [List.getElem?_set_ne (Ne.symm hj)]
    simp only [hw_l, List.getElem?_map]
    cases hb : rs[j]? with
    | none => rfl
    | some b =>
      have hbr : b ≠ r := by
        intro q
        subst q
        have h2 : (hw_l ad rs f)[j]? = some (ad b, e0) := by simp only [hw_l, List.getElem?_map, hb, Option.map_some, he, Option.getD_some]
        exact hj (hD.1 j i _ _ h2 hk rfl)
      simp [va_up, hbr]
/-- the heap holds what f says, at addresses from L0 on, each role at its own -/
def hw (D : va_G) (L0 : Nat) (ad : Nat → Nat) (f : Nat → Option va_E) (H : Heap) : Prop :=
  (∀ r e, f r = some e → va_at D classes (ad r, e) H ∧ L0 ≤ ad r) ∧ (∀ r r' e e', f r = some e → f r' = some e' → ad r = ad r' → r = r') ∧ ∃ N : Nat, ∀ r, N ≤ r → f r = none
theorem hw.toL {D : va_G} {L0 : Nat} {ad : Nat → Nat} {f : Nat → Option va_E} {H : Heap} (h : hw D L0 ad f H) : ∃ rs : List Nat, (∀ r, r ∈ rs ↔ f r ≠ none) ∧ va_P D classes (hw_l ad rs f) H ∧ va_D (fun q => L0 ≤ q) (hw_l ad rs f) := by
  obtain ⟨h1, h2, N, h3⟩ := h
  have hmem : ∀ r, r ∈ (List.range N).filter (fun r => (f r).isSome) ↔ f r ≠ none := by
    intro r
    rw [List.mem_filter, List.mem_range, Option.isSome_iff_ne_none]
    constructor
    · exact fun q => q.2
    · intro q
      refine ⟨?_, q⟩
      rcases Nat.lt_or_ge r N with z | z
      · exact z
      · exact absurd (h3 r z) q
  have hnd : ((List.range N).filter (fun r => (f r).isSome)).Nodup := List.Pairwise.filter _ List.nodup_range
  generalize (List.range N).filter (fun r => (f r).isSome) = rs at hmem hnd
  have key : ∀ (k : Nat) (q : Nat × va_E), (hw_l ad rs f)[k]? = some q → ∃ r e, rs[k]? = some r ∧ f r = some e ∧ q = (ad r, e) := by
    intro k q hk
    simp only [hw_l, List.getElem?_map] at hk
    cases hb : rs[k]? with
    | none => rw [hb] at hk; cases hk
    | some b =>
      rw [hb] at hk
      cases hf : f b with
      | none => exact absurd hf ((hmem b).mp (List.mem_of_getElem? hb))
      | some e =>
        rw [Option.map_some, hf, Option.getD_some] at hk
        exact ⟨b, e, rfl, hf, (Option.some.inj hk).symm⟩
  refine ⟨rs, hmem, fun k q hk => ?_, fun i j x y hx hy hxy => ?_, fun k q hk => ?_⟩
  · obtain ⟨r, e, -, he, rfl⟩ := key k q hk
    exact (h1 r e he).1
  · obtain ⟨r, e, a1, he, rfl⟩ := key i x hx
    obtain ⟨r', e', a2, he', rfl⟩ := key j y hy
    have hrr : r = r' := h2 r r' e e' he he' hxy
    subst hrr
    exact (List.getElem?_inj (List.getElem?_eq_some_iff.mp a1).1 hnd).mp (a1.trans a2.symm)
  · obtain ⟨r, e, -, he, rfl⟩ := key k q hk
    exact (h1 r e he).2
theorem hw.ofL {D : va_G} {L0 : Nat} {ad : Nat → Nat} {f : Nat → Option va_E} {H : Heap} {rs : List Nat} (hm : ∀ r, r ∈ rs ↔ f r ≠ none) (hP : va_P D classes (hw_l ad rs f) H) (hD : va_D (fun q => L0 ≤ q) (hw_l ad rs f)) : hw D L0 ad f H := by
  have hin : ∀ r e, f r = some e → r ∈ rs := fun r e he => (hm r).mpr (by rw [he]; exact fun q => by cases q)
  refine ⟨fun r e he => ?_, fun r r' e e' he he' ha => ?_, rs.foldr Nat.max 0 + 1, fun r hr => ?_⟩
  · obtain ⟨k, -, hk⟩ := hw_l_get (ad := ad) (hin r e he) he
    exact ⟨hP k _ hk, hD.2 k _ hk⟩
  · obtain ⟨k, a1, hk⟩ := hw_l_get (ad := ad) (hin r e he) he
    obtain ⟨k', a2, hk'⟩ := hw_l_get (ad := ad) (hin r' e' he') he'
    have := hD.1 k k' _ _ hk hk' ha
    subst this
    exact Option.some.inj (a1.symm.trans a2)
  · cases hf : f r with
    | none => rfl
    | some e =>
      have hmx : ∀ (l : List Nat) (x : Nat), x ∈ l → x ≤ l.foldr Nat.max 0 := by
        intro l
        induction l with
        | nil => intro x hx; cases hx
        | cons a l ih =>
          intro x hx
          rcases List.mem_cons.mp hx with rfl | hx
          · exact Nat.le_max_left _ _
          · exact Nat.le_trans (ih x hx) (Nat.le_max_right _ _)
      have := hmx rs r (hin r e hf)
      omega
theorem hw.in {D : va_G} {L0 : Nat} {ad : Nat → Nat} {f : Nat → Option va_E} {H : Heap} (h : hw D L0 ad f H) {r r2 : Nat} {e e2 : va_E} (he : f r = some e) (he2 : f r2 = some e2) : ∃ (ws : va_W) (k k2 : Nat), va_P D classes ws H ∧ va_D (fun q => L0 ≤ q) ws ∧ ws[k]? = some (ad r, e) ∧ ws[k2]? = some (ad r2, e2) ∧ ∀ (e' : va_E) (H1 : Heap), va_P D classes (ws.set k (ad r, e')) H1 → va_D (fun q => L0 ≤ q) (ws.set k (ad r, e')) → hw D L0 ad (va_up f r (some e')) H1 := by
  obtain ⟨rs, hrs, hP, hD⟩ := h.toL
  have hr : r ∈ rs := (hrs r).mpr (by rw [he]; exact fun q => by cases q)
  have hr2 : r2 ∈ rs := (hrs r2).mpr (by rw [he2]; exact fun q => by cases q)
  obtain ⟨k, -, hk⟩ := hw_l_get (ad := ad) hr he
  obtain ⟨k2, -, hk2⟩ := hw_l_get (ad := ad) hr2 he2
  refine ⟨_, k, k2, hP, hD, hk, hk2, fun e' H1 h1 h2 => hw.ofL (rs := rs) (fun x => ?_) ?_ ?_⟩
  · rw [hrs x]
    by_cases hx : x = r
    · subst hx
      rw [va_up_self, he]
      simp
    · rw [va_up_ne _ _ hx]
  · rw [← hw_l_set hD hr he hk]; exact h1
  · rw [← hw_l_set hD hr he hk]; exact h2
/-- a new cell at a role that stood empty -/
theorem hw.new {D : va_G} {L0 : Nat} {ad : Nat → Nat} {f : Nat → Option va_E} {H : Heap} (h : hw D L0 ad f H) : ∃ ws : va_W, va_P D classes ws H ∧ va_D (fun q => L0 ≤ q) ws ∧ ∀ (r q : Nat) (e : va_E) (H1 : Heap), f r = none → va_P D classes (ws ++ [(q, e)]) H1 → va_D (fun q => L0 ≤ q) (ws ++ [(q, e)]) → hw D L0 (va_up ad r q) (va_up f r (some e)) H1 := by
  obtain ⟨rs, hrs, hP, hD⟩ := h.toL
  refine ⟨_, hP, hD, fun r q e H1 hn h1 h2 => ?_⟩
  have e1 : hw_l (va_up ad r q) (rs ++ [r]) (va_up f r (some e)) = hw_l ad rs f ++ [(q, e)] := by
    simp only [hw_l, List.map_append, List.map_cons, List.map_nil, va_up_self, Option.getD_some]
    congr 1
    apply List.map_congr_left
    intro x hx
    have : x ≠ r := fun z => (hrs x).mp hx (by rw [z]; exact hn)
    rw [va_up_ne _ _ this, va_up_ne _ _ this]
  refine hw.ofL (rs := rs ++ [r]) (fun x => ?_) (by rw [e1]; exact h1) (by rw [e1]; exact h2)
  rw [List.mem_append, List.mem_singleton, hrs x]
  by_cases hx : x = r
  · subst hx
    rw [va_up_self]
    simp
  · rw [va_up_ne _ _ hx]
    simp [hx]
/-- a world under another name for its roles' addresses -/
theorem hw.ad {D : va_G} {L0 : Nat} {ad ad' : Nat → Nat} {f : Nat → Option va_E} {H : Heap} (h : hw D L0 ad f H) (ha : ∀ r, f r ≠ none → ad' r = ad r) : hw D L0 ad' f H := by
  obtain ⟨h1, h2, h3⟩ := h
  have hn : ∀ {r : Nat} {e : va_E}, f r = some e → ad' r = ad r := fun {r e} he => ha r (by rw [he]; exact fun q => by cases q)
  refine ⟨fun r e he => ?_, fun r r' e e' he he' hh => h2 r r' e e' he he' ?_, h3⟩
  · rw [hn he]; exact h1 r e he
  · rw [← hn he, ← hn he']; exact hh
theorem hw.to {D : va_G} {L0 : Nat} {ad : Nat → Nat} {f f' : Nat → Option va_E} {H : Heap} (h : hw D L0 ad f H) (e : f = f') : hw D L0 ad f' H := e ▸ h
/-- forget roles -/
theorem hw.sub {D : va_G} {L0 : Nat} {ad : Nat → Nat} {f g : Nat → Option va_E} {H : Heap} (h : hw D L0 ad f H) (hg : ∀ r e, g r = some e → f r = some e) : hw D L0 ad g H := by
  obtain ⟨h1, h2, N, h3⟩ := h
  refine ⟨fun r e he => h1 r e (hg r e he), fun r r' e e' he he' => h2 r r' e e' (hg r e he) (hg r' e' he'), N, fun r hr => ?_⟩
  cases hgr : g r with
  | none => rfl
  | some e =>
    have := hg r e hgr
    rw [h3 r hr] at this
    cases this
end
section
/-! ROWS OVER THE WORLD BY ROLES -/
abbrev aI (D : va_G) (n : Nat) (g : Nat → Int32) : va_E := .inl (D.1 100, n, .inl g)
abbrev aL (D : va_G) (n : Nat) (g : Nat → Int64) : va_E := .inl (D.1 101, n, .inr (.inl g))
abbrev aZ (D : va_G) (n : Nat) (g : Nat → Int32) : va_E := .inl (D.1 102, n, .inl g)
abbrev aO (D : va_G) (j : Nat) (n : Nat) (g : Nat → Option Nat) : va_E := .inl (D.1 (103 + j), n, .inr (.inr (.inr (.inr g))))
theorem nestW_is {w : Cond} (h : w ∈ nestW) : isNest w = true := (List.mem_filter.mp h).2
theorem nestW_on (w : Cond) (h : w ∈ nestW) : w.onTables = true := by
  have := nestW_is h
  cases w <;> first | rfl | (simp [isNest] at this; done)
theorem nestW_warm {s U : State} (hW : s.WarmedH U.vm) (w : Cond) (h : w ∈ nestW) (hz : va_Nw w s) : va_Nw w U := by
  have h1 := nestW_is h
  clear h
  cases w <;> first | exact va_Nw.warmF hW hz | exact va_Nw.warmM hW hz | (simp [isNest] at h1; done)
def tysOf (D : va_G) : List (ClassId × FieldType) := [(D.1 100, .int), (D.1 101, .long), (D.1 102, .boolean)] ++ arrObj.zipIdx.map (fun q => (D.1 (103 + q.2), .object q.1))
theorem tysOf_obj (D : va_G) {j : Nat} {C : String} (h : arrObj[j]? = some C) : (tysOf D)[3 + j]? = some (D.1 (103 + j), .object C) := by
  unfold tysOf
  rw [List.getElem?_append_right (by simp)]
  simp [h]
/-- what is known of the tables -/
def kn (D : va_G) (U : State) : Prop := va_K D classes (tysOf D) U ∧ (∀ w ∈ nestW, va_Nw w U) ∧ ∀ C ∈ arrObj, va_AO C U
theorem kn.same {D : va_G} {u U : State} (h : u.vm = U.vm) (k : kn D u) : kn D U := by
  have hal : u.vm.Alike U.vm := by rw [h]; exact Vm.Alike.refl U.vm
  exact ⟨va_K.moved hal k.1, fun w hw => va_Nw.same (nestW_on w hw) h (k.2.1 w hw), fun C hC => va_AO.moved hal (k.2.2 C hC)⟩
theorem kn.warm {D : va_G} {s U : State} (h : s.WarmedH U.vm) (k : kn D s) : kn D U :=
  ⟨va_K.moved h.alike k.1, fun w hw => nestW_warm h w hw (k.2.1 w hw), fun C hC => va_AO.moved h.alike (k.2.2 C hC)⟩
/-- a method's start and end -/
def cp (D : va_G) (L0 : Nat) (ad : Nat → Nat) (f : Nat → Option va_E) (U : State) : Prop := kn D U ∧ L0 ≤ U.heap.size ∧ hw D L0 ad f U.heap
def dt (D : va_G) (L0 : Nat) (ad : Nat → Nat) (v : Option Value) (f : Nat → Option va_E) : Array Value → State → Outcome → State → Prop := fun _ st oc t => (oc = .returned v ∧ hw D L0 ad f t.heap) ∧ va_F (fun q => L0 ≤ q) st t
/-- the same where new cells come: an address for each new role -/
def da (D : va_G) (L0 : Nat) (v : Option Value) (B : (Nat → Nat) → (Nat → Option va_E) → Prop) : Array Value → State → Outcome → State → Prop := fun _ st oc t => (∃ ad f, oc = .returned v ∧ B ad f ∧ hw D L0 ad f t.heap) ∧ va_F (fun q => L0 ≤ q) st t
theorem cp_blind {D : va_G} {L0 : Nat} {ad : Nat → Nat} {f : Nat → Option va_E} {av : List Value} : FrameBlind (va_Pc av (cp D L0 ad f)) := fun _ U g mk ⟨h1, h2, h3, h4⟩ => ⟨h1, kn.same (u := U) rfl h2, h3, h4⟩
def fx (p : Program) (m : MethodId) (c : Code) (cc : ByteArray) (nL : Nat) (s : State) (args : Array Value) (own : String) (D : va_G) : Prop := CallFix p m c cc nL s args T0 own ∧ kn D s
section RW
variable {p : Program} {l : Launch} {e : Env} {R : Room} {s : State} {m : MethodId} {args : Array Value} {below : List Frame} {meth : Method} {c : Code} {H : Heap} {locs : List Loc} {cells slots : Nat} {Q : State → Prop}
variable {cc : ByteArray} {pc nL : Nat} {ls : Array Slot} {rest st0 : List Value} {D : va_G} {L0 : Nat} {ad : Nat → Nat} {f : Nat → Option va_E} {own : String} {H0 : Heap}
theorem hw_pS {av : List Value} (F : fx p m c cc nL s args own D) (hL : L0 ≤ H.size) (h : hw D L0 ad f H) : PreS s H (va_Pc av (cp D L0 ad f)) av :=
  ⟨cp_blind, fun U hU hW => ⟨rfl, F.2.warm hW, by rw [hU]; exact hL, by rw [hU]; exact h⟩⟩
theorem hw_pV {av : List Value} {r ci : Nat} {q : vw_C} {fs : List Value} (F : fx p m c cc nL s args own D) (hL : L0 ≤ H.size) (h : hw D L0 ad f H) (he : f r = some (.inr (ci, fs))) (hc : classes[ci]? = some q) : PreV s H q.1 (ad r) (va_Pc (.ref (ad r) :: av) (cp D L0 ad f)) av := by
  obtain ⟨ws, k, -, hP, -, hk, -⟩ := h.in he he
  exact ⟨cp_blind, va_recv F.2.1 hP hc hk, fun U hU hW => ⟨rfl, F.2.warm hW, by rw [hU]; exact hL, by rw [hU]; exact h⟩⟩
theorem hw_call {a : Array Value} {v : Option Value} {f' : Nat → Option va_E} {mc ms : Nat} (hr : va_Run p l e R s m args below meth c H locs cells slots mc ms (F0 m pc ls st0) rest (dt D L0 ad v f' a) (fun q => L0 ≤ q)) (hS : va_S (fun q => L0 ≤ q) H0 H locs)
    (kk : ∀ (H1 : Heap) (locs1 : List Loc), hw D L0 ad f' H1 → va_S (fun q => L0 ≤ q) H0 H1 locs1 → W p l e R s m args below meth c H1 locs1 (cells + mc) (slots + ms) Q (F0 m (pc + 3) ls (v.toList ++ rest))) : W p l e R s m args below meth c H locs cells slots Q (F0 m pc ls st0) := by
  intro T hT X
  obtain ⟨v', st₀, t, T', L, h0, X', hL, e1, e2, ⟨⟨hv, hb⟩, hz, hk⟩, st⟩ := hr T hT X
  cases hv
  rw [h0] at hz hk
  obtain ⟨t2, a1, b1⟩ := kk T'.heap (locs ++ L) (by rw [e1]; exact hb)
    ⟨Nat.le_trans hS.1 (by rw [e1]; exact hz), fun q h1 h2 => by rw [e1, hk q (Nat.lt_of_lt_of_le h1 hS.1) h2]; exact hS.2.1 q h1 h2, fun q hq => by
      rcases List.mem_append.mp hq with h | h
      · exact hS.2.2 q h
      · exact hL q h⟩ T' rfl X'
  exact ⟨t2, st t2 a1, b1⟩
theorem hw_callA {a : Array Value} {v : Option Value} {B : (Nat → Nat) → (Nat → Option va_E) → Prop} {mc ms : Nat} (hr : va_Run p l e R s m args below meth c H locs cells slots mc ms (F0 m pc ls st0) rest (da D L0 v B a) (fun q => L0 ≤ q)) (hS : va_S (fun q => L0 ≤ q) H0 H locs)
    (kk : ∀ (ad' : Nat → Nat) (f' : Nat → Option va_E) (H1 : Heap) (locs1 : List Loc), B ad' f' → hw D L0 ad' f' H1 → va_S (fun q => L0 ≤ q) H0 H1 locs1 → W p l e R s m args below meth c H1 locs1 (cells + mc) (slots + ms) Q (F0 m (pc + 3) ls (v.toList ++ rest))) : W p l e R s m args below meth c H locs cells slots Q (F0 m pc ls st0) := by
  intro T hT X
  obtain ⟨v', st₀, t, T', L, h0, X', hL, e1, e2, ⟨⟨ad', f', hv, hB, hb⟩, hz, hk⟩, st⟩ := hr T hT X
  cases hv
  rw [h0] at hz hk
  obtain ⟨t2, a1, b1⟩ := kk ad' f' T'.heap (locs ++ L) hB (by rw [e1]; exact hb)
    ⟨Nat.le_trans hS.1 (by rw [e1]; exact hz), fun q h1 h2 => by rw [e1, hk q (Nat.lt_of_lt_of_le h1 hS.1) h2]; exact hS.2.1 q h1 h2, fun q hq => by
      rcases List.mem_append.mp hq with h | h
      · exact hS.2.2 q h
      · exact hL q h⟩ T' rfl X'
  exact ⟨t2, st t2 a1, b1⟩
-- fields
theorem hw_gf {ref C : String} {T : u_T} {N ci index k : Nat} (F : fx p m c cc nL s args own D) (h : hw D L0 ad f H) (hin : ∀ w ∈ u_ws C T N, w ∈ T0) (hc : classes[ci]? = some (C, T, N)) (hl : Cond.fieldLink own index ref (T k).2.1 (T k).2.2.1 ∈ T0) (hr : (T k).1 = ref) (hk : k < N) {r : Nat} {fs : List Value} (he : f r = some (.inr (ci, fs))) {v : Value} (hv : fs[k]? = some v) (hdg : decode cc pc = .ok (.getfield index, 3))
    (kk : W p l e R s m args below meth c H locs cells slots Q (F0 m (pc + 3) ls (v :: rest))) : W p l e R s m args below meth c H locs cells slots Q (F0 m pc ls (.ref (ad r) :: rest)) := by
  obtain ⟨ws, k1, -, hP, -, hk1, -⟩ := h.in he he
  obtain ⟨⟨hx, hb, -, ho, hts⟩, hK, -⟩ := F
  subst hr
  exact va_get hx hb hts hin ho hK hP k1 hk1 hc k hk (hts _ hl) (fun _ h => h) hv hdg kk
theorem hw_gfN {ref C host : String} {T : u_T} {N ci index k : Nat} (F : fx p m c cc nL s args own D) (h : hw D L0 ad f H) (hin : ∀ w ∈ u_ws C T N, w ∈ T0) (hc : classes[ci]? = some (C, T, N)) (hl : Cond.fieldLinkNest own index ref (T k).2.1 (T k).2.2.1 host ∈ nestW) (hr : (T k).1 = ref) (hk : k < N) {r : Nat} {fs : List Value} (he : f r = some (.inr (ci, fs))) {v : Value} (hv : fs[k]? = some v) (hdg : decode cc pc = .ok (.getfield index, 3))
    (kk : W p l e R s m args below meth c H locs cells slots Q (F0 m (pc + 3) ls (v :: rest))) : W p l e R s m args below meth c H locs cells slots Q (F0 m pc ls (.ref (ad r) :: rest)) := by
  obtain ⟨ws, k1, -, hP, -, hk1, -⟩ := h.in he he
  obtain ⟨⟨hx, hb, -, ho, hts⟩, hK, hN, -⟩ := F
  subst hr
  exact va_getN hx hb hts hin ho hK hP k1 hk1 hc k hk (va_Nw.use rfl (hN _ hl)) (fun _ h => h) hv hdg kk
theorem hw_pf {ref C : String} {T : u_T} {N ci index k : Nat} (F : fx p m c cc nL s args own D) (h : hw D L0 ad f H) (hS : va_S (fun q => L0 ≤ q) H0 H locs) (hin : ∀ w ∈ u_ws C T N, w ∈ T0) (ty0 : Nat → FieldType) (hty : ∀ k, k < N → parseFieldDescriptor (T k).2.2.1 = some (ty0 k)) (hnm : ∀ a, a < N → ∀ b, b < N → a ≠ b → (T a).2.1 ≠ (T b).2.1) (hc : classes[ci]? = some (C, T, N)) (hl : Cond.fieldLink own index ref (T k).2.1 (T k).2.2.1 ∈ T0) (hr : (T k).1 = ref) (hk : k < N) (hfin : (T k).2.2.2 = false) {r : Nat} {fs : List Value} (he : f r = some (.inr (ci, fs))) {v : Value} (hn : narrow (ty0 k) v = v) (hfit : fits (ty0 k) v = true) (hlen : k < fs.length) (hdg : decode cc pc = .ok (.putfield index, 3))
    (kk : ∀ (H1 : Heap) (locs1 : List Loc), hw D L0 ad (va_up f r (some (.inr (ci, fs.set k v)))) H1 → va_S (fun q => L0 ≤ q) H0 H1 locs1 → W p l e R s m args below meth c H1 locs1 cells slots Q (F0 m (pc + 3) ls rest)) : W p l e R s m args below meth c H locs cells slots Q (F0 m pc ls (v :: .ref (ad r) :: rest)) := by
  obtain ⟨ws, k1, -, hP, hD, hk1, -, hset⟩ := h.in he he
  obtain ⟨⟨hx, hb, -, ho, hts⟩, hK, -⟩ := F
  subst hr
  exact va_put hx hb hts hin ty0 hty hnm ho hK hP hD hS k1 hk1 hc k hk (hts _ hl) (fun _ h => h) hfin (hty k hk) hn hfit hlen hdg (fun H1 locs1 h1 h2 h3 => kk H1 locs1 (hset _ H1 h1 h2) h3)
theorem hw_pfN {ref C host : String} {T : u_T} {N ci index k : Nat} (F : fx p m c cc nL s args own D) (h : hw D L0 ad f H) (hS : va_S (fun q => L0 ≤ q) H0 H locs) (hin : ∀ w ∈ u_ws C T N, w ∈ T0) (ty0 : Nat → FieldType) (hty : ∀ k, k < N → parseFieldDescriptor (T k).2.2.1 = some (ty0 k)) (hnm : ∀ a, a < N → ∀ b, b < N → a ≠ b → (T a).2.1 ≠ (T b).2.1) (hc : classes[ci]? = some (C, T, N)) (hl : Cond.fieldLinkNest own index ref (T k).2.1 (T k).2.2.1 host ∈ nestW) (hr : (T k).1 = ref) (hk : k < N) (hfin : (T k).2.2.2 = false) {r : Nat} {fs : List Value} (he : f r = some (.inr (ci, fs))) {v : Value} (hn : narrow (ty0 k) v = v) (hfit : fits (ty0 k) v = true) (hlen : k < fs.length) (hdg : decode cc pc = .ok (.putfield index, 3))
    (kk : ∀ (H1 : Heap) (locs1 : List Loc), hw D L0 ad (va_up f r (some (.inr (ci, fs.set k v)))) H1 → va_S (fun q => L0 ≤ q) H0 H1 locs1 → W p l e R s m args below meth c H1 locs1 cells slots Q (F0 m (pc + 3) ls rest)) : W p l e R s m args below meth c H locs cells slots Q (F0 m pc ls (v :: .ref (ad r) :: rest)) := by
  obtain ⟨ws, k1, -, hP, hD, hk1, -, hset⟩ := h.in he he
  obtain ⟨⟨hx, hb, -, ho, hts⟩, hK, hN, -⟩ := F
  subst hr
  exact va_putN hx hb hts hin ty0 hty hnm ho hK hP hD hS k1 hk1 hc k hk (va_Nw.use rfl (hN _ hl)) (fun _ h => h) hfin (hty k hk) hn hfit hlen hdg (fun H1 locs1 h1 h2 h3 => kk H1 locs1 (hset _ H1 h1 h2) h3)
theorem hw_pfF {ref C : String} {T : u_T} {N ci index k : Nat} (F : fx p m c cc nL s args own D) (h : hw D L0 ad f H) (hS : va_S (fun q => L0 ≤ q) H0 H locs) (hin : ∀ w ∈ u_ws C T N, w ∈ T0) (ty0 : Nat → FieldType) (hty : ∀ k, k < N → parseFieldDescriptor (T k).2.2.1 = some (ty0 k)) (hnm : ∀ a, a < N → ∀ b, b < N → a ≠ b → (T a).2.1 ≠ (T b).2.1) (hc : classes[ci]? = some (C, T, N)) (hl : Cond.fieldLink own index ref (T k).2.1 (T k).2.2.1 ∈ T0) (hr : (T k).1 = ref) (hk : k < N) (hfin : (T k).2.2.2 = true) (hini : meth.name = "<init>") (hdecl : (T k).1 = own) {r : Nat} {fs : List Value} (he : f r = some (.inr (ci, fs))) {v : Value} (hn : narrow (ty0 k) v = v) (hfit : fits (ty0 k) v = true) (hlen : k < fs.length) (hdg : decode cc pc = .ok (.putfield index, 3))
    (kk : ∀ (H1 : Heap) (locs1 : List Loc), hw D L0 ad (va_up f r (some (.inr (ci, fs.set k v)))) H1 → va_S (fun q => L0 ≤ q) H0 H1 locs1 → W p l e R s m args below meth c H1 locs1 cells slots Q (F0 m (pc + 3) ls rest)) : W p l e R s m args below meth c H locs cells slots Q (F0 m pc ls (v :: .ref (ad r) :: rest)) := by
  obtain ⟨ws, k1, -, hP, hD, hk1, -, hset⟩ := h.in he he
  obtain ⟨⟨hx, hb, -, ho, hts⟩, hK, -⟩ := F
  subst hr
  exact va_putF hx hb hts hin ty0 hty hnm ho hK hP hD hS k1 hk1 hc k hk (hts _ hl) (fun _ h => h) hfin hini hdecl (hty k hk) hn hfit hlen hdg (fun H1 locs1 h1 h2 h3 => kk H1 locs1 (hset _ H1 h1 h2) h3)
-- arrays
theorem hw_iald (F : fx p m c cc nL s args own D) (h : hw D L0 ad f H) {r n : Nat} {g : Nat → Int32} (he : f r = some (aI D n g)) {i : Int32} (hin : vp_in i n) (hdg : decode cc pc = .ok (.iaload, 1))
    (kk : W p l e R s m args below meth c H locs cells slots Q (F0 m (pc + 1) ls (.int (g i.toNatClampNeg) :: rest))) : W p l e R s m args below meth c H locs cells slots Q (F0 m pc ls (.int i :: .ref (ad r) :: rest)) := by
  obtain ⟨ws, k1, -, hP, -, hk1, -⟩ := h.in he he
  exact va_iald F.1.1 F.1.2.1 F.2.1 hP k1 0 hk1 rfl hin hdg kk
theorem hw_lald (F : fx p m c cc nL s args own D) (h : hw D L0 ad f H) {r n : Nat} {g : Nat → Int64} (he : f r = some (aL D n g)) {i : Int32} (hin : vp_in i n) (hdg : decode cc pc = .ok (.laload, 1))
    (kk : W p l e R s m args below meth c H locs cells slots Q (F0 m (pc + 1) ls (.long (g i.toNatClampNeg) :: rest))) : W p l e R s m args below meth c H locs cells slots Q (F0 m pc ls (.int i :: .ref (ad r) :: rest)) := by
  obtain ⟨ws, k1, -, hP, -, hk1, -⟩ := h.in he he
  exact va_lald F.1.1 F.1.2.1 F.2.1 hP k1 1 hk1 rfl hin hdg kk
theorem hw_zald (F : fx p m c cc nL s args own D) (h : hw D L0 ad f H) {r n : Nat} {g : Nat → Int32} (he : f r = some (aZ D n g)) {i : Int32} (hin : vp_in i n) (hdg : decode cc pc = .ok (.baload, 1))
    (kk : W p l e R s m args below meth c H locs cells slots Q (F0 m (pc + 1) ls (.int (g i.toNatClampNeg) :: rest))) : W p l e R s m args below meth c H locs cells slots Q (F0 m pc ls (.int i :: .ref (ad r) :: rest)) := by
  obtain ⟨ws, k1, -, hP, -, hk1, -⟩ := h.in he he
  exact va_zald F.1.1 F.1.2.1 F.2.1 hP k1 2 hk1 rfl hin hdg kk
theorem hw_aald (F : fx p m c cc nL s args own D) (h : hw D L0 ad f H) {r n j : Nat} {C : String} (hj : arrObj[j]? = some C) {g : Nat → Option Nat} (he : f r = some (aO D j n g)) {i : Int32} (hin : vp_in i n) (hdg : decode cc pc = .ok (.aaload, 1))
    (kk : W p l e R s m args below meth c H locs cells slots Q (F0 m (pc + 1) ls (va_rf (g i.toNatClampNeg) :: rest))) : W p l e R s m args below meth c H locs cells slots Q (F0 m pc ls (.int i :: .ref (ad r) :: rest)) := by
  obtain ⟨ws, k1, -, hP, -, hk1, -⟩ := h.in he he
  exact va_aldq (C := C) F.1.1 F.1.2.1 F.2.1 hP k1 (3 + j) hk1 (tysOf_obj D hj) hin hdg kk
theorem hw_iast (F : fx p m c cc nL s args own D) (h : hw D L0 ad f H) (hS : va_S (fun q => L0 ≤ q) H0 H locs) {r n : Nat} {g : Nat → Int32} (he : f r = some (aI D n g)) {i x : Int32} (hin : vp_in i n) (hdg : decode cc pc = .ok (.iastore, 1))
    (kk : ∀ (H1 : Heap) (locs1 : List Loc), hw D L0 ad (va_up f r (some (aI D n (upd g i.toNatClampNeg x)))) H1 → va_S (fun q => L0 ≤ q) H0 H1 locs1 → W p l e R s m args below meth c H1 locs1 cells slots Q (F0 m (pc + 1) ls rest)) : W p l e R s m args below meth c H locs cells slots Q (F0 m pc ls (.int x :: .int i :: .ref (ad r) :: rest)) := by
  obtain ⟨ws, k1, -, hP, hD, hk1, -, hset⟩ := h.in he he
  exact va_iast F.1.1 F.1.2.1 F.2.1 hP hD hS k1 0 hk1 rfl hin hdg (fun H1 locs1 h1 h2 h3 => kk H1 locs1 (hset _ H1 h1 h2) h3)
theorem hw_last (F : fx p m c cc nL s args own D) (h : hw D L0 ad f H) (hS : va_S (fun q => L0 ≤ q) H0 H locs) {r n : Nat} {g : Nat → Int64} (he : f r = some (aL D n g)) {i : Int32} {x : Int64} (hin : vp_in i n) (hdg : decode cc pc = .ok (.lastore, 1))
    (kk : ∀ (H1 : Heap) (locs1 : List Loc), hw D L0 ad (va_up f r (some (aL D n (vp_updL g i.toNatClampNeg x)))) H1 → va_S (fun q => L0 ≤ q) H0 H1 locs1 → W p l e R s m args below meth c H1 locs1 cells slots Q (F0 m (pc + 1) ls rest)) : W p l e R s m args below meth c H locs cells slots Q (F0 m pc ls (.long x :: .int i :: .ref (ad r) :: rest)) := by
  obtain ⟨ws, k1, -, hP, hD, hk1, -, hset⟩ := h.in he he
  exact va_last F.1.1 F.1.2.1 F.2.1 hP hD hS k1 1 hk1 rfl hin hdg (fun H1 locs1 h1 h2 h3 => kk H1 locs1 (hset _ H1 h1 h2) h3)
theorem hw_zast (F : fx p m c cc nL s args own D) (h : hw D L0 ad f H) (hS : va_S (fun q => L0 ≤ q) H0 H locs) {r n : Nat} {g : Nat → Int32} (he : f r = some (aZ D n g)) {i x : Int32} (hin : vp_in i n) (hdg : decode cc pc = .ok (.bastore, 1))
    (kk : ∀ (H1 : Heap) (locs1 : List Loc), hw D L0 ad (va_up f r (some (aZ D n (upd g i.toNatClampNeg (vp_nar .boolean x))))) H1 → va_S (fun q => L0 ≤ q) H0 H1 locs1 → W p l e R s m args below meth c H1 locs1 cells slots Q (F0 m (pc + 1) ls rest)) : W p l e R s m args below meth c H locs cells slots Q (F0 m pc ls (.int x :: .int i :: .ref (ad r) :: rest)) := by
  obtain ⟨ws, k1, -, hP, hD, hk1, -, hset⟩ := h.in he he
  exact va_zast F.1.1 F.1.2.1 F.2.1 hP hD hS k1 2 hk1 rfl hin hdg (fun H1 locs1 h1 h2 h3 => kk H1 locs1 (hset _ H1 h1 h2) h3)
theorem hw_aast (F : fx p m c cc nL s args own D) (h : hw D L0 ad f H) (hS : va_S (fun q => L0 ≤ q) H0 H locs) {r r2 n j ci : Nat} {q : vw_C} {vs : List Value} {g : Nat → Option Nat} (he : f r = some (aO D j n g)) (he2 : f r2 = some (.inr (ci, vs))) (hc : classes[ci]? = some q) (hj : arrObj[j]? = some q.1) {i : Int32} (hin : vp_in i n) (hdg : decode cc pc = .ok (.aastore, 1))
    (kk : ∀ (H1 : Heap) (locs1 : List Loc), hw D L0 ad (va_up f r (some (aO D j n (va_up g i.toNatClampNeg (some (ad r2)))))) H1 → va_S (fun q => L0 ≤ q) H0 H1 locs1 → W p l e R s m args below meth c H1 locs1 cells slots Q (F0 m (pc + 1) ls rest)) : W p l e R s m args below meth c H locs cells slots Q (F0 m pc ls (.ref (ad r2) :: .int i :: .ref (ad r) :: rest)) := by
  obtain ⟨ws, k1, k2, hP, hD, hk1, hk2, hset⟩ := h.in he he2
  exact va_astq F.1.1 F.1.2.1 F.2.1 hP hD hS k1 (3 + j) k2 ci hk1 (tysOf_obj D hj) hk2 hc hin hdg (fun H1 locs1 h1 h2 h3 => kk H1 locs1 (hset _ H1 h1 h2) h3)
end RW
end
section
section RX
variable {p : Program} {l : Launch} {e : Env} {R : Room} {s : State} {m : MethodId} {args : Array Value} {below : List Frame} {meth : Method} {c : Code} {H : Heap} {locs : List Loc} {cells slots : Nat} {Q : State → Prop}
variable {cc : ByteArray} {pc nL : Nat} {ls : Array Slot} {rest st0 : List Value} {D : va_G} {L0 : Nat} {ad : Nat → Nat} {f : Nat → Option va_E} {own : String} {H0 : Heap}
theorem hw_alen (F : fx p m c cc nL s args own D) (h : hw D L0 ad f H) {r : Nat} {t0 : Nat} {ty : FieldType} {cA : ClassId} {x : vp_A} (ht : (tysOf D)[t0]? = some (cA, ty)) (he : f r = some (.inl (cA, x))) {v : Int32} (hv : Int32.ofNat x.1 = v) (hdg : decode cc pc = .ok (.arraylength, 1))
    (kk : W p l e R s m args below meth c H locs cells slots Q (F0 m (pc + 1) ls (.int v :: rest))) : W p l e R s m args below meth c H locs cells slots Q (F0 m pc ls (.ref (ad r) :: rest)) := by
  obtain ⟨ws, k1, -, hP, -, hk1, -⟩ := h.in he he
  exact va_alen F.1.1 F.1.2.1 F.2.1 hP k1 t0 hk1 ht hv hdg kk
/-- a new object at the empty role r -/
theorem hw_obj {C : String} {T : u_T} {N ci index : Nat} (F : fx p m c cc nL s args own D) (h : hw D L0 ad f H) (hS : va_S (fun q => L0 ≤ q) s.heap H locs) (hL : L0 ≤ s.heap.size) (hin : ∀ w ∈ u_ws C T N, w ∈ T0) (ty0 : Nat → FieldType) (hty : ∀ k, k < N → parseFieldDescriptor (T k).2.2.1 = some (ty0 k)) (hc : classes[ci]? = some (C, T, N)) (hcl : Cond.classLink own index C ∈ T0) (hinst : Cond.instantiable C N ∈ T0) (hini : Cond.initialized C ∈ T0) (r : Nat) (hn : f r = none) {fs : List Value} (hfs : ∀ j, j < N → defaultValue (ty0 j) = vp_V fs j) (hcells : cells + 1 ≤ R.cells) (hslots : slots + N ≤ R.slots) (hdg : decode cc pc = .ok (.new index, 3))
    (kk : ∀ (ad' : Nat → Nat) (H1 : Heap), (∀ x, x ≠ r → ad' x = ad x) → hw D L0 ad' (va_up f r (some (.inr (ci, fs)))) H1 → va_S (fun q => L0 ≤ q) s.heap H1 locs → W p l e R s m args below meth c H1 locs (cells + 1) (slots + N) Q (F0 m (pc + 3) ls (.ref (ad' r) :: rest))) : W p l e R s m args below meth c H locs cells slots Q (F0 m pc ls rest) := by
  obtain ⟨ws, hP, hD, hnew⟩ := h.new
  obtain ⟨⟨hx, hb, -, ho, hts⟩, hK, -⟩ := F
  refine va_new hx hb hts hin ty0 hty ho (hts _ hcl) (hts _ hinst) (hts _ hini) hK hP hD hS (fun q hq => Nat.le_trans hL hq) hc hfs hcells hslots hdg (fun q H1 h1 h2 h3 => ?_)
  have := kk (va_up ad r q) H1 (fun x hx => va_up_ne _ _ hx) (hnew r q _ H1 hn h1 h2) h3
  rwa [va_up_self] at this
theorem kn_arr {ty : FieldType} {cA : ClassId} {j : Nat} {cB : ClassId} (k : kn D s) (hj : (tysOf D)[j]? = some (cB, ty)) (h : va_RA s cA ty) : cA = cB := by
  have h2 := (k.1.2 j _ hj).2
  cases ty with
  | object C =>
    obtain ⟨_, _, -, -, -, a⟩ := h
    obtain ⟨_, _, -, -, -, b⟩ := h2
    exact Option.some.inj (a.symm.trans b)
  | _ => exact Option.some.inj (Eq.trans (Eq.symm h) h2)
theorem hw_newa {atype : ArrayType} (F : fx p m c cc nL s args own D) (h : hw D L0 ad f H) (hS : va_S (fun q => L0 ≤ q) s.heap H locs) (hL : L0 ≤ s.heap.size) {ty : FieldType} (harr : Cond.arrayClass ty ∈ T0) (hty : newarray.typeOf atype = ty) {j : Nat} {cB : ClassId} (hj : (tysOf D)[j]? = some (cB, ty)) {n : Int32} {N' : Nat} {a0 : vp_A} (ha : ∀ cA : ClassId, vp_cell cA a0 = arrV cA N' (fun _ => defaultValue ty)) (r : Nat) (hn0 : f r = none) (hn : ¬ n < 0) (hN : n.toNatClampNeg = N') (hbytes : N' * componentBytes ty ≤ 536870912) (hcells : cells + 1 ≤ R.cells) (hslots : slots + N' ≤ R.slots) (hdg : decode cc pc = .ok (.newarray atype, 2))
    (kk : ∀ (ad' : Nat → Nat) (H1 : Heap), (∀ x, x ≠ r → ad' x = ad x) → hw D L0 ad' (va_up f r (some (.inl (cB, a0)))) H1 → va_S (fun q => L0 ≤ q) s.heap H1 locs → W p l e R s m args below meth c H1 locs (cells + 1) (slots + N') Q (F0 m (pc + 2) ls (.ref (ad' r) :: rest))) : W p l e R s m args below meth c H locs cells slots Q (F0 m pc ls (.int n :: rest)) := by
  obtain ⟨ws, hP, hD, hnew⟩ := h.new
  have K := F.2
  obtain ⟨⟨hx, hb, -, ho, hts⟩, hK, -⟩ := F
  refine va_newa hx hb (by rw [hty]; exact hts _ harr) hty hK hP hD hS (fun q hq => Nat.le_trans hL hq) ha hn hN hbytes hcells hslots hdg (fun q cA H1 hK1 h1 h2 h3 => ?_)
  have e1 : cA = cB := kn_arr K hj (hK1.2 (tysOf D).length (cA, ty) (by simp)).2
  subst e1
  have := kk (va_up ad r q) H1 (fun x hx => va_up_ne _ _ hx) (hnew r q _ H1 hn0 h1 h2) h3
  rwa [va_up_self] at this
theorem hw_newq {index : Nat} {C : String} (F : fx p m c cc nL s args own D) (h : hw D L0 ad f H) (hS : va_S (fun q => L0 ≤ q) s.heap H locs) (hL : L0 ≤ s.heap.size) (hcl : Cond.classLink own index C ∈ T0) {j : Nat} (hj : arrObj[j]? = some C) {n : Int32} {N' : Nat} (r : Nat) (hn0 : f r = none) (hn : ¬ n < 0) (hN : n.toNatClampNeg = N') (hbytes : N' * 4 ≤ 536870912) (hcells : cells + 1 ≤ R.cells) (hslots : slots + N' ≤ R.slots) (hdg : decode cc pc = .ok (.anewarray index, 3))
    (kk : ∀ (ad' : Nat → Nat) (H1 : Heap), (∀ x, x ≠ r → ad' x = ad x) → hw D L0 ad' (va_up f r (some (aO D j N' (fun _ => none)))) H1 → va_S (fun q => L0 ≤ q) s.heap H1 locs → W p l e R s m args below meth c H1 locs (cells + 1) (slots + N') Q (F0 m (pc + 3) ls (.ref (ad' r) :: rest))) : W p l e R s m args below meth c H locs cells slots Q (F0 m pc ls (.int n :: rest)) := by
  obtain ⟨ws, hP, hD, hnew⟩ := h.new
  have K := F.2
  obtain ⟨⟨hx, hb, -, ho, hts⟩, hK, -, hAO⟩ := F
  refine va_newq hx hb ho (hts _ hcl) (hAO C (List.mem_of_getElem? hj)) hK hP hD hS (fun q hq => Nat.le_trans hL hq) hn hN hbytes hcells hslots hdg (fun q cA H1 hK1 h1 h2 h3 => ?_)
  have e1 : cA = D.1 (103 + j) := kn_arr K (tysOf_obj D hj) (hK1.2 (tysOf D).length (cA, .object C) (by simp)).2
  subst e1
  have := kk (va_up ad r q) H1 (fun x hx => va_up_ne _ _ hx) (hnew r q _ H1 hn0 h1 h2) h3
  rwa [va_up_self] at this
-- answers
theorem hw_iret {v v' : Int32} {f' : Nat → Option va_E} (F : fx p m c cc nL s args own D) (hr : meth.sig.returnType = some .int) (hlocks : meth.locks = false) (h : hw D L0 ad f H) (hS : va_S (fun q => L0 ≤ q) s.heap H locs) (hdg : decode cc pc = .ok (.ireturn, 1)) (ev : v = v') (ef : f = f') : W p l e R s m args below meth c H locs cells slots (MQ below (dt D L0 ad (some (.int v')) f') args s cells slots (fun q => L0 ≤ q)) (F0 m pc ls [.int v]) := by
  subst ev; subst ef
  exact W.iret F.1.1 F.1.2.1 hr (fun t ht _ => ⟨⟨rfl, by rw [ht]; exact h⟩, hS.F ht⟩) hS.2.2 hdg hlocks
theorem hw_zret {v v' : Int32} {f' : Nat → Option va_E} (F : fx p m c cc nL s args own D) (hr : meth.sig.returnType = some .boolean) (hlocks : meth.locks = false) (h : hw D L0 ad f H) (hS : va_S (fun q => L0 ≤ q) s.heap H locs) (hdg : decode cc pc = .ok (.ireturn, 1)) (hn : narrow .boolean (.int v) = .int v) (ev : v = v') (ef : f = f') : W p l e R s m args below meth c H locs cells slots (MQ below (dt D L0 ad (some (.int v')) f') args s cells slots (fun q => L0 ≤ q)) (F0 m pc ls [.int v]) := by
  subst ev; subst ef
  exact W.zret F.1.1 F.1.2.1 hr hn (fun t ht _ => ⟨⟨rfl, by rw [ht]; exact h⟩, hS.F ht⟩) hS.2.2 hdg hlocks
theorem hw_lret {v v' : Int64} {f' : Nat → Option va_E} (F : fx p m c cc nL s args own D) (hr : meth.sig.returnType = some .long) (hlocks : meth.locks = false) (h : hw D L0 ad f H) (hS : va_S (fun q => L0 ≤ q) s.heap H locs) (hdg : decode cc pc = .ok (.lreturn, 1)) (ev : v = v') (ef : f = f') : W p l e R s m args below meth c H locs cells slots (MQ below (dt D L0 ad (some (.long v')) f') args s cells slots (fun q => L0 ≤ q)) (F0 m pc ls [.long v]) := by
  subst ev; subst ef
  exact W.lret F.1.1 F.1.2.1 hr (fun t ht _ => ⟨⟨rfl, by rw [ht]; exact h⟩, hS.F ht⟩) hS.2.2 hdg hlocks
theorem hw_vret {f' : Nat → Option va_E} (F : fx p m c cc nL s args own D) (hr : meth.sig.returnType = none) (hlocks : meth.locks = false) (h : hw D L0 ad f H) (hS : va_S (fun q => L0 ≤ q) s.heap H locs) (hdg : decode cc pc = .ok (.return_, 1)) (ef : f = f') : W p l e R s m args below meth c H locs cells slots (MQ below (dt D L0 ad none f') args s cells slots (fun q => L0 ≤ q)) (F0 m pc ls []) := by
  subst ef
  exact W.vret F.1.1 F.1.2.1 hr (fun t ht _ => ⟨⟨rfl, by rw [ht]; exact h⟩, hS.F ht⟩) hS.2.2 hdg hlocks
theorem hw_aret {v v' : Value} {nm : String} {f' : Nat → Option va_E} (F : fx p m c cc nL s args own D) (hr : meth.sig.returnType = some (.object nm)) (hlocks : meth.locks = false) (h : hw D L0 ad f H) (hS : va_S (fun q => L0 ≤ q) s.heap H locs) (hdg : decode cc pc = .ok (.areturn, 1)) (hv : v = .null ∨ ∃ a, v = .ref a) (ev : v = v') (ef : f = f') : W p l e R s m args below meth c H locs cells slots (MQ below (dt D L0 ad (some v') f') args s cells slots (fun q => L0 ≤ q)) (F0 m pc ls [v]) := by
  subst ev; subst ef
  exact W.aret F.1.1 F.1.2.1 hr (Or.inl ⟨_, rfl⟩) hv (fun t ht _ => ⟨⟨rfl, by rw [ht]; exact h⟩, hS.F ht⟩) hS.2.2 hdg hlocks
end RX
/-- a contract, from its body's walk -/
abbrev wd (y : MethodName) (b : ByteArray) (n : Nat) (ret : Option FieldType) : List Cond := .code y b n ret :: T0
theorem hw_met {l : Launch} {y : MethodName} {b : ByteArray} {n : Nat} {ret : Option FieldType} {rm : Room} {av : List Value} {D : va_G} {L0 : Nat} {ad : Nat → Nat} {f : Nat → Option va_E} {Qc : Array Value → State → Outcome → State → Prop} {mc ms : Nat} (hy : plainName y.cls = true) (hlen : (lg_sl av).length ≤ n)
    (body : ∀ (p : Program) (e : Env) (s : State) (m : MethodId) (below : List Frame) (meth : Method) (c : Code) (ls : Array Slot), fx p m c b n s av.toArray y.cls D → meth.sig.returnType = ret → meth.locks = false → meth.name = y.name → L0 ≤ s.heap.size → hw D L0 ad f s.heap → va_S (fun q => L0 ≤ q) s.heap s.heap [] → lv_has ls n (lv_args 0 av) →
      W p l e rm s m av.toArray below meth c s.heap [] 0 0 (MQ below Qc av.toArray s mc ms (fun q => L0 ≤ q)) (F0 m 0 ls [])) : Met l y (wd y b n ret) rm (va_Pc av (cp D L0 ad f)) Qc mc ms (fun q => L0 ≤ q) := by
  refine Met.ofW (cc := b) (maxL := n) (ret := ret) hy rfl ?_
  intro p e s m args below meth c s₁ B hml hv
  obtain ⟨rfl, hK, hL, h⟩ := hv
  have hts := atoms_spec (ws := wd y b n ret) B.pre
  have hown : s.vm.findClass y.cls = some m.cls := findClass_of_methodNamed B.named
  rw [lg_entry_eq]
  exact body p e s m below meth c _ ⟨⟨B.exec, B.bytes, hml, hown, fun w hw => hts w (List.mem_cons_of_mem _ hw)⟩, hK⟩ B.returns B.notSynchronized (name_of_methodNamed B.named B.method).1 hL h va_S.rf (lv_entry av hlen)
end
