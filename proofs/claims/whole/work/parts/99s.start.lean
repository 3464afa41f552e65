/-! part 99s: from the entry to the loop (written by wip/whole/mkstart.py) -/
theorem in_l1 {w : Jvm.Cond} (h : w ∈ tables_1_1) : w ∈ lw_tbl := List.mem_append_right _ (show w ∈ tables_1 from List.mem_append_left _ h)
theorem in_l2 {w : Jvm.Cond} (h : w ∈ tables_1_2) : w ∈ lw_tbl := List.mem_append_right _ (show w ∈ tables_1 from List.mem_append_right _ (List.mem_append_left _ h))
theorem in_l3 {w : Jvm.Cond} (h : w ∈ tables_1_3) : w ∈ lw_tbl := List.mem_append_right _ (show w ∈ tables_1 from List.mem_append_right _ (List.mem_append_right _ (List.mem_append_left _ h)))
theorem in_l4 {w : Jvm.Cond} (h : w ∈ tables_1_4) : w ∈ lw_tbl := List.mem_append_right _ (show w ∈ tables_1 from List.mem_append_right _ (List.mem_append_right _ (List.mem_append_right _ (List.mem_append_left _ h))))
theorem in_l5 {w : Jvm.Cond} (h : w ∈ tables_1_5) : w ∈ lw_tbl := List.mem_append_right _ (show w ∈ tables_1 from List.mem_append_right _ (List.mem_append_right _ (List.mem_append_right _ (List.mem_append_right _ (List.mem_append_left _ h)))))
theorem in_l6 {w : Jvm.Cond} (h : w ∈ tables_1_6) : w ∈ lw_tbl := List.mem_append_right _ (show w ∈ tables_1 from List.mem_append_right _ (List.mem_append_right _ (List.mem_append_right _ (List.mem_append_right _ (List.mem_append_right _ (List.mem_append_left _ h))))))
theorem in_l7 {w : Jvm.Cond} (h : w ∈ tables_1_7) : w ∈ lw_tbl := List.mem_append_right _ (show w ∈ tables_1 from List.mem_append_right _ (List.mem_append_right _ (List.mem_append_right _ (List.mem_append_right _ (List.mem_append_right _ (List.mem_append_right _ (List.mem_append_left _ h)))))))
theorem in_l8 {w : Jvm.Cond} (h : w ∈ tables_1_8) : w ∈ lw_tbl := List.mem_append_right _ (show w ∈ tables_1 from List.mem_append_right _ (List.mem_append_right _ (List.mem_append_right _ (List.mem_append_right _ (List.mem_append_right _ (List.mem_append_right _ (List.mem_append_right _ (h))))))))
set_option maxRecDepth 100000 in
theorem ws_i0 : Jvm.Cond.instantiable (cnF 0) (fnF 0) ∈ tbl := in_t2 (List.mem_of_getElem? (i := 70) rfl) rfl
set_option maxRecDepth 100000 in
theorem ws_i1 : Jvm.Cond.instantiable (cnF 1) (fnF 1) ∈ tbl := in_t1 (List.mem_of_getElem? (i := 224) rfl) rfl
set_option maxRecDepth 100000 in
theorem ws_i2 : Jvm.Cond.instantiable (cnF 2) (fnF 2) ∈ tbl := in_t2 (List.mem_of_getElem? (i := 37) rfl) rfl
set_option maxRecDepth 100000 in
theorem ws_i3 : Jvm.Cond.instantiable (cnF 3) (fnF 3) ∈ tbl := in_t1 (List.mem_of_getElem? (i := 101) rfl) rfl
set_option maxRecDepth 100000 in
theorem ws_i4 : Jvm.Cond.instantiable (cnF 4) (fnF 4) ∈ tbl := in_t1 (List.mem_of_getElem? (i := 185) rfl) rfl
set_option maxRecDepth 100000 in
theorem ws_i5 : Jvm.Cond.instantiable (cnF 5) (fnF 5) ∈ tbl := in_t1 (List.mem_of_getElem? (i := 34) rfl) rfl
set_option maxRecDepth 100000 in
theorem ws_i6 : Jvm.Cond.instantiable (cnF 6) (fnF 6) ∈ tbl := in_t1 (List.mem_of_getElem? (i := 28) rfl) rfl
set_option maxRecDepth 100000 in
theorem ws_i7 : Jvm.Cond.instantiable (cnF 7) (fnF 7) ∈ tbl := in_t1 (List.mem_of_getElem? (i := 142) rfl) rfl
set_option maxRecDepth 100000 in
theorem ws_i8 : Jvm.Cond.instantiable (cnF 8) (fnF 8) ∈ tbl := in_t1 (List.mem_of_getElem? (i := 20) rfl) rfl
set_option maxRecDepth 100000 in
theorem ws_i9 : Jvm.Cond.instantiable (cnF 9) (fnF 9) ∈ tbl := in_t5 (List.mem_of_getElem? (i := 109) rfl) rfl
theorem cls_ins : ∀ ci, ci < 10 → Jvm.Cond.instantiable (cnF ci) (fnF ci) ∈ tbl := by
  intro ci h
  match ci, h with
  | 0, _ => exact ws_i0
  | 1, _ => exact ws_i1
  | 2, _ => exact ws_i2
  | 3, _ => exact ws_i3
  | 4, _ => exact ws_i4
  | 5, _ => exact ws_i5
  | 6, _ => exact ws_i6
  | 7, _ => exact ws_i7
  | 8, _ => exact ws_i8
  | 9, _ => exact ws_i9
  | _ + 10, h => omega
set_option maxRecDepth 100000 in
theorem ws_n0 : Jvm.Cond.methodLinkNest "PlayedTruth$Stage" 29 (mth 3).1 "PlayedTruth" ∈ lw_tbl := in_l1 (List.mem_of_getElem? (i := 35) rfl)
set_option maxRecDepth 100000 in
theorem ws_n1 : Jvm.Cond.methodLinkNest "PlayedTruth" 18 (mth 4).1 "PlayedTruth" ∈ lw_tbl := in_l1 (List.mem_of_getElem? (i := 102) rfl)
set_option maxRecDepth 100000 in
theorem ws_n2 : Jvm.Cond.methodLinkNest "PlayedTruth" 25 (mth 5).1 "PlayedTruth" ∈ lw_tbl := in_l1 (List.mem_of_getElem? (i := 143) rfl)
set_option maxRecDepth 100000 in
theorem ws_n3 : Jvm.Cond.methodLinkNest "PlayedTruth" 32 (mth 6).1 "PlayedTruth" ∈ lw_tbl := in_l1 (List.mem_of_getElem? (i := 186) rfl)
set_option maxRecDepth 100000 in
theorem ws_n4 : Jvm.Cond.methodLinkNest "PlayedTruth$RuleReader" 19 (mth 3).1 "PlayedTruth" ∈ lw_tbl := in_l1 (List.mem_of_getElem? (i := 191) rfl)
set_option maxRecDepth 100000 in
theorem ws_n5 : Jvm.Cond.methodLinkNest "PlayedTruth$Ahead" 54 (mth 4).1 "PlayedTruth" ∈ lw_tbl := in_l1 (List.mem_of_getElem? (i := 231) rfl)
set_option maxRecDepth 100000 in
theorem ws_n6 : Jvm.Cond.methodLinkNest "PlayedTruth" 48 (mth 8).1 "PlayedTruth" ∈ lw_tbl := in_l2 (List.mem_of_getElem? (i := 38) rfl)
set_option maxRecDepth 100000 in
theorem ws_n7 : Jvm.Cond.methodLinkNest "PlayedTruth" 55 (mth 9).1 "PlayedTruth" ∈ lw_tbl := in_l2 (List.mem_of_getElem? (i := 71) rfl)
set_option maxRecDepth 100000 in
theorem ws_ao : Jvm.Cond.arrayOver (.object "PlayedTruth$Moment") ∈ lw_tbl := in_l1 (List.mem_of_getElem? (i := 230) rfl)
set_option maxRecDepth 100000 in
theorem ws_ai : Jvm.Cond.arrayOver (.array .int) ∈ lw_tbl := in_l2 (List.mem_of_getElem? (i := 43) rfl)
set_option maxRecDepth 100000 in
theorem ws_ac : Jvm.Cond.arrayClass .int ∈ lw_tbl := in_l1 (List.mem_of_getElem? (i := 61) rfl)
set_option maxRecDepth 100000 in
theorem ws_sr : Jvm.Cond.stringRef "PlayedTruth$RuleReader" 75 wordsTx ∈ lw_tbl := in_l3 (List.mem_of_getElem? (i := 61) rfl)
set_option maxRecDepth 100000 in
theorem ws_cs : Jvm.Cond.laysStatic "java/lang/String" "COMPACT_STRINGS" "Z" ∈ lw_tbl := in_l3 (List.mem_of_getElem? (i := 71) rfl)
set_option maxRecDepth 100000 in
theorem ws_sf : Jvm.Cond.laysStatic "jdk/internal/util/Preconditions" "SIOOBE_FORMATTER" "Ljava/util/function/BiFunction;" ∈ lw_tbl := in_l3 (List.mem_of_getElem? (i := 87) rfl)
set_option maxRecDepth 100000 in
theorem ws_bo : Jvm.Cond.laysStatic "PlayedTruth$Acting" "BODY_OF" "[I" ∈ lw_tbl := in_l5 (List.mem_of_getElem? (i := 71) rfl)
set_option maxRecDepth 100000 in
theorem ws_ist : Jvm.Cond.initialized "java/lang/String" ∈ lw_tbl := in_l1 (List.mem_of_getElem? (i := 13) rfl)
set_option maxRecDepth 100000 in
theorem wt_ist : Jvm.Cond.initialized "java/lang/String" ∈ tbl := in_t1 (List.mem_of_getElem? (i := 13) rfl) rfl
set_option maxRecDepth 100000 in
theorem ws_ipr : Jvm.Cond.initialized "jdk/internal/util/Preconditions" ∈ lw_tbl := in_l1 (List.mem_of_getElem? (i := 15) rfl)
set_option maxRecDepth 100000 in
theorem wt_ipr : Jvm.Cond.initialized "jdk/internal/util/Preconditions" ∈ tbl := in_t1 (List.mem_of_getElem? (i := 15) rfl) rfl
set_option maxRecDepth 100000 in
theorem ws_iac : Jvm.Cond.initialized "PlayedTruth$Acting" ∈ lw_tbl := in_l1 (List.mem_of_getElem? (i := 9) rfl)
set_option maxRecDepth 100000 in
theorem wt_iac : Jvm.Cond.initialized "PlayedTruth$Acting" ∈ tbl := in_t1 (List.mem_of_getElem? (i := 9) rfl) rfl
set_option maxRecDepth 100000 in
theorem ws_ipt : Jvm.Cond.initialized "PlayedTruth" ∈ lw_tbl := in_l1 (List.mem_of_getElem? (i := 1) rfl)
set_option maxRecDepth 100000 in
theorem wt_ipt : Jvm.Cond.initialized "PlayedTruth" ∈ tbl := in_t1 (List.mem_of_getElem? (i := 1) rfl) rfl
set_option maxRecDepth 100000 in
theorem ws_imo : Jvm.Cond.initialized "PlayedTruthModel" ∈ lw_tbl := in_l1 (List.mem_of_getElem? (i := 10) rfl)
set_option maxRecDepth 100000 in
theorem wt_imo : Jvm.Cond.initialized "PlayedTruthModel" ∈ tbl := in_t1 (List.mem_of_getElem? (i := 10) rfl) rfl
set_option maxRecDepth 100000 in
theorem ws_cl7 : Jvm.Cond.classLink "PlayedTruthLaw" 7 "PlayedTruth" ∈ lw_tbl := in_l1 (List.mem_of_getElem? (i := 19) rfl)
set_option maxRecDepth 100000 in
theorem wt_cl7 : Jvm.Cond.classLink "PlayedTruthLaw" 7 "PlayedTruth" ∈ tbl := in_t1 (List.mem_of_getElem? (i := 19) rfl) rfl
set_option maxRecDepth 100000 in
theorem ws_cl10 : Jvm.Cond.classLink "PlayedTruthLaw" 10 "PlayedTruthModel" ∈ lw_tbl := in_l5 (List.mem_of_getElem? (i := 108) rfl)
set_option maxRecDepth 100000 in
theorem wt_cl10 : Jvm.Cond.classLink "PlayedTruthLaw" 10 "PlayedTruthModel" ∈ tbl := in_t5 (List.mem_of_getElem? (i := 108) rfl) rfl
set_option maxRecDepth 100000 in
theorem ws_imp : Jvm.Cond.instanceMethod ⟨"PlayedTruth", "<init>", "()V"⟩ ∈ lw_tbl := in_l1 (List.mem_of_getElem? (i := 22) rfl)
set_option maxRecDepth 100000 in
theorem wt_imp : Jvm.Cond.instanceMethod ⟨"PlayedTruth", "<init>", "()V"⟩ ∈ tbl := in_t1 (List.mem_of_getElem? (i := 22) rfl) rfl
set_option maxRecDepth 100000 in
theorem ws_imm : Jvm.Cond.instanceMethod ⟨"PlayedTruthModel", "<init>", "()V"⟩ ∈ lw_tbl := in_l5 (List.mem_of_getElem? (i := 111) rfl)
set_option maxRecDepth 100000 in
theorem wt_imm : Jvm.Cond.instanceMethod ⟨"PlayedTruthModel", "<init>", "()V"⟩ ∈ tbl := in_t5 (List.mem_of_getElem? (i := 111) rfl) rfl
/-! what the Statement gives of the start -/
abbrev tBo : Term := .static "PlayedTruth$Acting" "BODY_OF" "[I"
abbrev tWd : Term := .string "PlayedTruth$RuleReader" 75
abbrev tWv : Term := .field tWd "java/lang/String" "value" "[B"
theorem fl_bo : ∀ j, j < 24 → Jvm.Cond.eq (.elem tBo (.int (Int32.ofNat j))) (.int (bodyOf j)) ∈ flatC (Jvm.Cond.and given_1 narrow_1) := by decide +kernel
theorem fl_wd : ∀ j, j < 96 → Jvm.Cond.eq (.elem tWv (.int (Int32.ofNat j))) (.int (wordsB.getD j 0)) ∈ flatC (Jvm.Cond.and given_1 narrow_1) := by decide +kernel
theorem fl_b1 : Jvm.Cond.arrayOf tBo .int ∈ flatC (Jvm.Cond.and given_1 narrow_1) := by decide +kernel
theorem fl_b2 : Jvm.Cond.eq (.length tBo) (.int 24) ∈ flatC (Jvm.Cond.and given_1 narrow_1) := by decide +kernel
theorem fl_w1 : Jvm.Cond.exactly tWd "java/lang/String" ∈ flatC (Jvm.Cond.and given_1 narrow_1) := by decide +kernel
theorem fl_w2 : Jvm.Cond.eq (.field tWd "java/lang/String" "coder" "B") (.int 0) ∈ flatC (Jvm.Cond.and given_1 narrow_1) := by decide +kernel
theorem fl_w3 : Jvm.Cond.arrayOf tWv .byte ∈ flatC (Jvm.Cond.and given_1 narrow_1) := by decide +kernel
theorem fl_w4 : Jvm.Cond.eq (.length tWv) (.int 96) ∈ flatC (Jvm.Cond.and given_1 narrow_1) := by decide +kernel
theorem fl_c : Jvm.Cond.eq (.static "java/lang/String" "COMPACT_STRINGS" "Z") (.int 1) ∈ flatC (Jvm.Cond.and given_1 narrow_1) := by decide +kernel
theorem fl_s : Jvm.Cond.isRef (.static "jdk/internal/util/Preconditions" "SIOOBE_FORMATTER" "Ljava/util/function/BiFunction;") ∈ flatC (Jvm.Cond.and given_1 narrow_1) := by decide +kernel
theorem arrAA {args : Array Value} {s : State} (h : (Jvm.Cond.arrayOver (.array .int)).before args s = true) : ∃ (cC cA : ClassId) (k : Class), s.vm.findClass "[I" = some cC ∧ s.vm.classes[cA]? = some k ∧ k.kind = .array cC (.array .int) ∧ s.vm.findClass "[[I" = some cA := by
  have h1 : ((Jvm.Cond.arrayOver (.array .int)).value args s none s []) = some true := by
    simpa [Cond.before, Cond.holds] using h
  simp only [Cond.value, Option.bind_eq_some_iff, Option.map_eq_some_iff] at h1
  obtain ⟨cC, g1, cA, g2, k, g3, g4⟩ := h1
  obtain ⟨hlt, hp, -⟩ := Array.findIdx?_eq_some_iff_getElem.mp g2
  have hk : s.vm.classes[cA] = k := (Array.getElem?_eq_some_iff.mp g3).2
  rw [hk] at hp
  cases hq : k.kind with
  | array a ty =>
    rw [hq] at hp g4
    simp only [beq_iff_eq] at hp
    simp only [Bool.and_eq_true, decide_eq_true_eq] at g4
    exact ⟨cC, cA, k, g1, g3, by rw [hq, hp, g4.1], g4.2⟩
  | _ => rw [hq] at g4; simp at g4
