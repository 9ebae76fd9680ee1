
/-- the tables' words that a callee may take over from its caller -/
def gG : List Cond := lw_tbl.filter goodWord
theorem gG_t {w : Cond} (h : w ∈ tables_1) (hg : goodWord w = true) : w ∈ gG := List.mem_filter.mpr ⟨List.mem_append_right _ h, hg⟩
theorem gG_s {w : Cond} (h : w ∈ k2_sels lw_privs) (hg : goodWord w = true) : w ∈ gG := List.mem_filter.mpr ⟨List.mem_append_left _ h, hg⟩
theorem gG_l {w : Cond} (h : w ∈ gG) : w ∈ lw_tbl := (List.mem_filter.mp h).1
theorem gG_g {w : Cond} (h : w ∈ gG) : (w.onTables && w.keeps) = true ∨ ∃ ty, w = .arrayClass ty := good_of_word (List.mem_filter.mp h).2
theorem gG_good {c1 c2 : Cond} (h : c2 ∈ gG) : GoodIn (c1 :: gG) (c2 :: gG) := by
  intro w hw
  rcases List.mem_cons.mp hw with rfl | hw
  · exact ⟨List.mem_cons_of_mem _ h, gG_g h⟩
  · exact ⟨List.mem_cons_of_mem _ hw, gG_g hw⟩
theorem gG_goodL {c2 : Cond} (h : c2 ∈ gG) : GoodIn lw_tbl (c2 :: gG) := by
  intro w hw
  rcases List.mem_cons.mp hw with rfl | hw
  · exact ⟨gG_l h, gG_g h⟩
  · exact ⟨gG_l hw, gG_g hw⟩
theorem gG_goodV {c1 c2 : Cond} {own C : String} {idx : Nat} {y : MethodName} (h1 : Cond.methodLink own idx y ∈ gG) (h2 : Cond.instanceMethod y ∈ gG) (h3 : Cond.selects C y y ∈ gG) (h4 : Cond.initialized C ∈ gG) (h5 : c2 ∈ gG) : GoodIn (c1 :: gG) (wsV own idx C y (c2 :: gG)) := by
  intro w hw
  rcases List.mem_append.mp hw with hw | hw
  · have hg : w ∈ gG := by
      rcases List.mem_cons.mp hw with rfl | hw
      · exact h1
      rcases List.mem_cons.mp hw with rfl | hw
      · exact h2
      rcases List.mem_cons.mp hw with rfl | hw
      · exact h3
      rcases List.mem_cons.mp hw with rfl | hw
      · exact h4
      · exact absurd hw List.not_mem_nil
    exact ⟨List.mem_cons_of_mem _ hg, gG_g hg⟩
  · exact gG_good h5 w hw
theorem gG_goodS {c1 c2 : Cond} {own : String} {idx : Nat} {y : MethodName} (h1 : Cond.methodLink own idx y ∈ gG) (h2 : Cond.static y ∈ gG) (h4 : Cond.initialized y.cls ∈ gG) (h5 : c2 ∈ gG) : GoodIn (c1 :: gG) (va_wsS own idx y (c2 :: gG)) := by
  intro w hw
  rcases List.mem_append.mp hw with hw | hw
  · have hg : w ∈ gG := by
      rcases List.mem_cons.mp hw with rfl | hw
      · exact h1
      rcases List.mem_cons.mp hw with rfl | hw
      · exact h2
      rcases List.mem_cons.mp hw with rfl | hw
      · exact h4
      · exact absurd hw List.not_mem_nil
    exact ⟨List.mem_cons_of_mem _ hg, gG_g hg⟩
  · exact gG_good h5 w hw
theorem gG_goodVL {c2 : Cond} {own C : String} {idx : Nat} {y : MethodName} (h1 : Cond.methodLink own idx y ∈ gG) (h2 : Cond.instanceMethod y ∈ gG) (h3 : Cond.selects C y y ∈ gG) (h4 : Cond.initialized C ∈ gG) (h5 : c2 ∈ gG) : GoodIn lw_tbl (wsV own idx C y (c2 :: gG)) := by
  intro w hw
  obtain ⟨a, b⟩ := gG_goodV (c1 := c2) h1 h2 h3 h4 h5 w hw
  rcases List.mem_cons.mp a with rfl | a
  · exact ⟨gG_l h5, b⟩
  · exact ⟨gG_l a, b⟩

theorem gG_1 {w : Cond} (h : w ∈ tables_1_1) : w ∈ tables_1 := List.mem_append_left _ h
theorem gG_2 {w : Cond} (h : w ∈ tables_1_2) : w ∈ tables_1 := List.mem_append_right _ (List.mem_append_left _ h)
theorem gG_3 {w : Cond} (h : w ∈ tables_1_3) : w ∈ tables_1 := List.mem_append_right _ (List.mem_append_right _ (List.mem_append_left _ h))
theorem gG_4 {w : Cond} (h : w ∈ tables_1_4) : w ∈ tables_1 := List.mem_append_right _ (List.mem_append_right _ (List.mem_append_right _ (List.mem_append_left _ h)))
theorem gG_5 {w : Cond} (h : w ∈ tables_1_5) : w ∈ tables_1 := List.mem_append_right _ (List.mem_append_right _ (List.mem_append_right _ (List.mem_append_right _ (List.mem_append_left _ h))))
theorem gG_6 {w : Cond} (h : w ∈ tables_1_6) : w ∈ tables_1 := List.mem_append_right _ (List.mem_append_right _ (List.mem_append_right _ (List.mem_append_right _ (List.mem_append_right _ (List.mem_append_left _ h)))))
theorem gG_7 {w : Cond} (h : w ∈ tables_1_7) : w ∈ tables_1 := List.mem_append_right _ (List.mem_append_right _ (List.mem_append_right _ (List.mem_append_right _ (List.mem_append_right _ (List.mem_append_right _ (List.mem_append_left _ h))))))
theorem gG_8 {w : Cond} (h : w ∈ tables_1_8) : w ∈ tables_1 := List.mem_append_right _ (List.mem_append_right _ (List.mem_append_right _ (List.mem_append_right _ (List.mem_append_right _ (List.mem_append_right _ (List.mem_append_right _ (List.mem_append_left _ h)))))))
theorem gG_9 {w : Cond} (h : w ∈ tables_1_9) : w ∈ tables_1 := List.mem_append_right _ (List.mem_append_right _ (List.mem_append_right _ (List.mem_append_right _ (List.mem_append_right _ (List.mem_append_right _ (List.mem_append_right _ (List.mem_append_right _ (List.mem_append_left _ h))))))))
theorem gG_10 {w : Cond} (h : w ∈ tables_1_10) : w ∈ tables_1 := List.mem_append_right _ (List.mem_append_right _ (List.mem_append_right _ (List.mem_append_right _ (List.mem_append_right _ (List.mem_append_right _ (List.mem_append_right _ (List.mem_append_right _ (List.mem_append_right _ (List.mem_append_left _ h)))))))))
theorem gG_11 {w : Cond} (h : w ∈ tables_1_11) : w ∈ tables_1 := List.mem_append_right _ (List.mem_append_right _ (List.mem_append_right _ (List.mem_append_right _ (List.mem_append_right _ (List.mem_append_right _ (List.mem_append_right _ (List.mem_append_right _ (List.mem_append_right _ (List.mem_append_right _ (List.mem_append_left _ h))))))))))
theorem gG_12 {w : Cond} (h : w ∈ tables_1_12) : w ∈ tables_1 := List.mem_append_right _ (List.mem_append_right _ (List.mem_append_right _ (List.mem_append_right _ (List.mem_append_right _ (List.mem_append_right _ (List.mem_append_right _ (List.mem_append_right _ (List.mem_append_right _ (List.mem_append_right _ (List.mem_append_right _ (List.mem_append_left _ h)))))))))))
theorem gG_13 {w : Cond} (h : w ∈ tables_1_13) : w ∈ tables_1 := List.mem_append_right _ (List.mem_append_right _ (List.mem_append_right _ (List.mem_append_right _ (List.mem_append_right _ (List.mem_append_right _ (List.mem_append_right _ (List.mem_append_right _ (List.mem_append_right _ (List.mem_append_right _ (List.mem_append_right _ (List.mem_append_right _ (List.mem_append_left _ h))))))))))))
theorem gG_14 {w : Cond} (h : w ∈ tables_1_14) : w ∈ tables_1 := List.mem_append_right _ (List.mem_append_right _ (List.mem_append_right _ (List.mem_append_right _ (List.mem_append_right _ (List.mem_append_right _ (List.mem_append_right _ (List.mem_append_right _ (List.mem_append_right _ (List.mem_append_right _ (List.mem_append_right _ (List.mem_append_right _ (List.mem_append_right _ (List.mem_append_left _ h)))))))))))))
theorem gG_15 {w : Cond} (h : w ∈ tables_1_15) : w ∈ tables_1 := List.mem_append_right _ (List.mem_append_right _ (List.mem_append_right _ (List.mem_append_right _ (List.mem_append_right _ (List.mem_append_right _ (List.mem_append_right _ (List.mem_append_right _ (List.mem_append_right _ (List.mem_append_right _ (List.mem_append_right _ (List.mem_append_right _ (List.mem_append_right _ (List.mem_append_right _ (List.mem_append_left _ h))))))))))))))
theorem gG_16 {w : Cond} (h : w ∈ tables_1_16) : w ∈ tables_1 := List.mem_append_right _ (List.mem_append_right _ (List.mem_append_right _ (List.mem_append_right _ (List.mem_append_right _ (List.mem_append_right _ (List.mem_append_right _ (List.mem_append_right _ (List.mem_append_right _ (List.mem_append_right _ (List.mem_append_right _ (List.mem_append_right _ (List.mem_append_right _ (List.mem_append_right _ (List.mem_append_right _ (List.mem_append_left _ h)))))))))))))))
theorem gG_17 {w : Cond} (h : w ∈ tables_1_17) : w ∈ tables_1 := List.mem_append_right _ (List.mem_append_right _ (List.mem_append_right _ (List.mem_append_right _ (List.mem_append_right _ (List.mem_append_right _ (List.mem_append_right _ (List.mem_append_right _ (List.mem_append_right _ (List.mem_append_right _ (List.mem_append_right _ (List.mem_append_right _ (List.mem_append_right _ (List.mem_append_right _ (List.mem_append_right _ (List.mem_append_right _ (h))))))))))))))))
theorem q_1 : (Jvm.Cond.initialized "SessionServer") ∈ gG := gG_t (gG_1 (List.mem_of_getElem? (i := 1) rfl)) rfl
theorem q_2 : (Jvm.Cond.initialized "SessionServer$Store") ∈ gG := gG_t (gG_1 (List.mem_of_getElem? (i := 2) rfl)) rfl
theorem q_3 : (Jvm.Cond.initialized "SessionServer$Table") ∈ gG := gG_t (gG_1 (List.mem_of_getElem? (i := 3) rfl)) rfl
theorem q_4 : (Jvm.Cond.initialized "SessionServer$Ledger") ∈ gG := gG_t (gG_1 (List.mem_of_getElem? (i := 4) rfl)) rfl
theorem q_5 : (Jvm.Cond.initialized "SessionServer$Serial") ∈ gG := gG_t (gG_1 (List.mem_of_getElem? (i := 5) rfl)) rfl
theorem q_6 : (Jvm.Cond.initialized "SessionServer$Machine") ∈ gG := gG_t (gG_1 (List.mem_of_getElem? (i := 6) rfl)) rfl
theorem q_7 : (Jvm.Cond.initialized "SessionServer$Finder") ∈ gG := gG_t (gG_1 (List.mem_of_getElem? (i := 7) rfl)) rfl
theorem q_8 : (Jvm.Cond.initialized "SessionServer$Parser") ∈ gG := gG_t (gG_1 (List.mem_of_getElem? (i := 8) rfl)) rfl
theorem q_9 : (Jvm.Cond.initialized "SessionServer$Checker") ∈ gG := gG_t (gG_1 (List.mem_of_getElem? (i := 9) rfl)) rfl
theorem q_10 : (Jvm.Cond.initialized "SessionServer$Session") ∈ gG := gG_t (gG_1 (List.mem_of_getElem? (i := 10) rfl)) rfl
theorem q_11 : (Jvm.Cond.initialized "SessionServer$Statement") ∈ gG := gG_t (gG_1 (List.mem_of_getElem? (i := 11) rfl)) rfl
theorem q_12 : (Jvm.Cond.initialized "SessionServer$Code") ∈ gG := gG_t (gG_1 (List.mem_of_getElem? (i := 12) rfl)) rfl
theorem q_13 : (Jvm.Cond.initialized "SessionServer$Work") ∈ gG := gG_t (gG_1 (List.mem_of_getElem? (i := 13) rfl)) rfl
theorem q_14 : (Jvm.Cond.initialized "SessionServerModel") ∈ gG := gG_t (gG_1 (List.mem_of_getElem? (i := 14) rfl)) rfl
theorem q_15 : (Jvm.Cond.initialized "SessionServerModel$Catalog") ∈ gG := gG_t (gG_1 (List.mem_of_getElem? (i := 15) rfl)) rfl
theorem q_16 : (Jvm.Cond.initialized "SessionServerModel$Serial") ∈ gG := gG_t (gG_1 (List.mem_of_getElem? (i := 16) rfl)) rfl
theorem q_17 : (Jvm.Cond.initialized "SessionServerModel$Span") ∈ gG := gG_t (gG_1 (List.mem_of_getElem? (i := 17) rfl)) rfl
theorem q_18 : (Jvm.Cond.initialized "SessionServerModel$Cells") ∈ gG := gG_t (gG_1 (List.mem_of_getElem? (i := 18) rfl)) rfl
theorem q_19 : (Jvm.Cond.initialized "SessionServerModel$Work") ∈ gG := gG_t (gG_1 (List.mem_of_getElem? (i := 19) rfl)) rfl
theorem q_20 : (Jvm.Cond.initialized "SessionServerModel$Session") ∈ gG := gG_t (gG_1 (List.mem_of_getElem? (i := 20) rfl)) rfl
theorem q_21 : (Jvm.Cond.initialized "SessionServerModel$Reader") ∈ gG := gG_t (gG_1 (List.mem_of_getElem? (i := 21) rfl)) rfl
theorem q_22 : (Jvm.Cond.initialized "java/util/Arrays") ∈ gG := gG_t (gG_1 (List.mem_of_getElem? (i := 22) rfl)) rfl
theorem q_29 : (Jvm.Cond.classLink "SessionServerLaw" (7 : Nat) "SessionServer") ∈ gG := gG_t (gG_1 (List.mem_of_getElem? (i := 29) rfl)) rfl
theorem q_30 : (Jvm.Cond.instantiable "SessionServer" (12 : Nat)) ∈ gG := gG_t (gG_1 (List.mem_of_getElem? (i := 30) rfl)) rfl
theorem q_31 : (Jvm.Cond.methodLink "SessionServerLaw" (9 : Nat) ({ cls := "SessionServer", name := "<init>", desc := "()V" } : Jvm.MethodName)) ∈ gG := gG_t (gG_1 (List.mem_of_getElem? (i := 31) rfl)) rfl
theorem q_32 : (Jvm.Cond.instanceMethod ({ cls := "SessionServer", name := "<init>", desc := "()V" } : Jvm.MethodName)) ∈ gG := gG_t (gG_1 (List.mem_of_getElem? (i := 32) rfl)) rfl
theorem q_33 : (Jvm.Cond.code ({ cls := "SessionServer", name := "<init>", desc := "()V" } : Jvm.MethodName) prog_1_method_1_code (2 : Nat) (Option.none : Option Jvm.ClassFile.FieldType)) ∈ gG := gG_t (gG_1 (List.mem_of_getElem? (i := 33) rfl)) rfl
theorem q_34 : (Jvm.Cond.methodLink "SessionServer" (3 : Nat) ({ cls := "java/lang/Object", name := "<init>", desc := "()V" } : Jvm.MethodName)) ∈ gG := gG_t (gG_1 (List.mem_of_getElem? (i := 34) rfl)) rfl
theorem q_35 : (Jvm.Cond.instanceMethod ({ cls := "java/lang/Object", name := "<init>", desc := "()V" } : Jvm.MethodName)) ∈ gG := gG_t (gG_1 (List.mem_of_getElem? (i := 35) rfl)) rfl
theorem q_36 : (Jvm.Cond.code ({ cls := "java/lang/Object", name := "<init>", desc := "()V" } : Jvm.MethodName) object_method_1_code (1 : Nat) (Option.none : Option Jvm.ClassFile.FieldType)) ∈ gG := gG_t (gG_1 (List.mem_of_getElem? (i := 36) rfl)) rfl
theorem q_37 : (Jvm.Cond.classLink "SessionServer" (13 : Nat) "SessionServer$Session") ∈ gG := gG_t (gG_1 (List.mem_of_getElem? (i := 37) rfl)) rfl
theorem q_39 : (Jvm.Cond.classLink "SessionServer" (19 : Nat) "SessionServer$Store") ∈ gG := gG_t (gG_1 (List.mem_of_getElem? (i := 39) rfl)) rfl
theorem q_40 : (Jvm.Cond.instantiable "SessionServer$Store" (17 : Nat)) ∈ gG := gG_t (gG_1 (List.mem_of_getElem? (i := 40) rfl)) rfl
theorem q_41 : (Jvm.Cond.methodLink "SessionServer" (21 : Nat) ({ cls := "SessionServer$Store", name := "<init>", desc := "()V" } : Jvm.MethodName)) ∈ gG := gG_t (gG_1 (List.mem_of_getElem? (i := 41) rfl)) rfl
theorem q_42 : (Jvm.Cond.instanceMethod ({ cls := "SessionServer$Store", name := "<init>", desc := "()V" } : Jvm.MethodName)) ∈ gG := gG_t (gG_1 (List.mem_of_getElem? (i := 42) rfl)) rfl
theorem q_43 : (Jvm.Cond.code ({ cls := "SessionServer$Store", name := "<init>", desc := "()V" } : Jvm.MethodName) prog_11_method_1_code (2 : Nat) (Option.none : Option Jvm.ClassFile.FieldType)) ∈ gG := gG_t (gG_1 (List.mem_of_getElem? (i := 43) rfl)) rfl
theorem q_44 : (Jvm.Cond.methodLink "SessionServer$Store" (3 : Nat) ({ cls := "java/lang/Object", name := "<init>", desc := "()V" } : Jvm.MethodName)) ∈ gG := gG_t (gG_1 (List.mem_of_getElem? (i := 44) rfl)) rfl
theorem q_45 : (Jvm.Cond.classLink "SessionServer$Store" (9 : Nat) "SessionServer$Table") ∈ gG := gG_t (gG_1 (List.mem_of_getElem? (i := 45) rfl)) rfl
theorem q_47 : (Jvm.Cond.instantiable "SessionServer$Table" (8 : Nat)) ∈ gG := gG_t (gG_1 (List.mem_of_getElem? (i := 47) rfl)) rfl
theorem q_49 : (Jvm.Cond.instanceMethod ({ cls := "SessionServer$Table", name := "<init>", desc := "()V" } : Jvm.MethodName)) ∈ gG := gG_t (gG_1 (List.mem_of_getElem? (i := 49) rfl)) rfl
theorem q_50 : (Jvm.Cond.code ({ cls := "SessionServer$Table", name := "<init>", desc := "()V" } : Jvm.MethodName) prog_12_method_1_code (1 : Nat) (Option.none : Option Jvm.ClassFile.FieldType)) ∈ gG := gG_t (gG_1 (List.mem_of_getElem? (i := 50) rfl)) rfl
theorem q_51 : (Jvm.Cond.methodLink "SessionServer$Table" (3 : Nat) ({ cls := "java/lang/Object", name := "<init>", desc := "()V" } : Jvm.MethodName)) ∈ gG := gG_t (gG_1 (List.mem_of_getElem? (i := 51) rfl)) rfl
theorem q_52 : (Jvm.Cond.fieldLink "SessionServer$Table" (9 : Nat) "SessionServer$Table" "columnName" "[I") ∈ gG := gG_t (gG_1 (List.mem_of_getElem? (i := 52) rfl)) rfl
theorem q_54 : (Jvm.Cond.fieldLink "SessionServer$Table" (15 : Nat) "SessionServer$Table" "columnType" "[I") ∈ gG := gG_t (gG_1 (List.mem_of_getElem? (i := 54) rfl)) rfl
theorem q_57 : (Jvm.Cond.fieldLink "SessionServer$Table" (18 : Nat) "SessionServer$Table" "notNull" "[Z") ∈ gG := gG_t (gG_1 (List.mem_of_getElem? (i := 57) rfl)) rfl
theorem q_60 : (Jvm.Cond.fieldLink "SessionServer$Table" (22 : Nat) "SessionServer$Table" "order" "[I") ∈ gG := gG_t (gG_1 (List.mem_of_getElem? (i := 60) rfl)) rfl
theorem q_66 : (Jvm.Cond.fieldLink "SessionServer$Store" (57 : Nat) "SessionServer$Table" "serial" "I") ∈ gG := gG_t (gG_1 (List.mem_of_getElem? (i := 66) rfl)) rfl
theorem q_77 : (Jvm.Cond.laysFinal "SessionServer$Table" "SessionServer$Table" "columnName" "[I") ∈ gG := gG_t (gG_1 (List.mem_of_getElem? (i := 77) rfl)) rfl
theorem q_79 : (Jvm.Cond.laysFinal "SessionServer$Table" "SessionServer$Table" "columnType" "[I") ∈ gG := gG_t (gG_1 (List.mem_of_getElem? (i := 79) rfl)) rfl
theorem q_81 : (Jvm.Cond.laysFinal "SessionServer$Table" "SessionServer$Table" "notNull" "[Z") ∈ gG := gG_t (gG_1 (List.mem_of_getElem? (i := 81) rfl)) rfl
theorem q_83 : (Jvm.Cond.laysFinal "SessionServer$Table" "SessionServer$Table" "order" "[I") ∈ gG := gG_t (gG_1 (List.mem_of_getElem? (i := 83) rfl)) rfl
theorem q_85 : (Jvm.Cond.lays "SessionServer$Table" "SessionServer$Table" "name" "I") ∈ gG := gG_t (gG_1 (List.mem_of_getElem? (i := 85) rfl)) rfl
theorem q_87 : (Jvm.Cond.lays "SessionServer$Table" "SessionServer$Table" "serial" "I") ∈ gG := gG_t (gG_1 (List.mem_of_getElem? (i := 87) rfl)) rfl
theorem q_89 : (Jvm.Cond.lays "SessionServer$Table" "SessionServer$Table" "columns" "I") ∈ gG := gG_t (gG_1 (List.mem_of_getElem? (i := 89) rfl)) rfl
theorem q_91 : (Jvm.Cond.lays "SessionServer$Table" "SessionServer$Table" "versions" "I") ∈ gG := gG_t (gG_1 (List.mem_of_getElem? (i := 91) rfl)) rfl
theorem q_94 : (Jvm.Cond.arrayClass Jvm.ClassFile.FieldType.byte) ∈ gG := gG_t (gG_1 (List.mem_of_getElem? (i := 94) rfl)) rfl
theorem q_95 : (Jvm.Cond.arrayClass Jvm.ClassFile.FieldType.int) ∈ gG := gG_t (gG_1 (List.mem_of_getElem? (i := 95) rfl)) rfl
theorem q_96 : (Jvm.Cond.arrayClass Jvm.ClassFile.FieldType.boolean) ∈ gG := gG_t (gG_1 (List.mem_of_getElem? (i := 96) rfl)) rfl
theorem q_97 : (Jvm.Cond.arrayClass Jvm.ClassFile.FieldType.long) ∈ gG := gG_t (gG_1 (List.mem_of_getElem? (i := 97) rfl)) rfl
theorem q_98 : (Jvm.Cond.fieldLink "SessionServer$Store" (11 : Nat) "SessionServer$Store" "tables" "[LSessionServer$Table;") ∈ gG := gG_t (gG_1 (List.mem_of_getElem? (i := 98) rfl)) rfl
theorem q_103 : (Jvm.Cond.fieldLink "SessionServer$Store" (17 : Nat) "SessionServer$Store" "indexTable" "[I") ∈ gG := gG_t (gG_1 (List.mem_of_getElem? (i := 103) rfl)) rfl
theorem q_106 : (Jvm.Cond.fieldLink "SessionServer$Store" (21 : Nat) "SessionServer$Store" "indexColumn" "[I") ∈ gG := gG_t (gG_1 (List.mem_of_getElem? (i := 106) rfl)) rfl
theorem q_109 : (Jvm.Cond.fieldLink "SessionServer$Store" (24 : Nat) "SessionServer$Store" "indexUnique" "[Z") ∈ gG := gG_t (gG_1 (List.mem_of_getElem? (i := 109) rfl)) rfl
theorem q_111 : (Jvm.Cond.fieldLink "SessionServer$Store" (28 : Nat) "SessionServer$Store" "values" "[J") ∈ gG := gG_t (gG_1 (List.mem_of_getElem? (i := 111) rfl)) rfl
theorem q_116 : (Jvm.Cond.fieldLink "SessionServer$Store" (32 : Nat) "SessionServer$Store" "number" "[I") ∈ gG := gG_t (gG_1 (List.mem_of_getElem? (i := 116) rfl)) rfl
theorem q_118 : (Jvm.Cond.fieldLink "SessionServer$Store" (35 : Nat) "SessionServer$Store" "maker" "[I") ∈ gG := gG_t (gG_1 (List.mem_of_getElem? (i := 118) rfl)) rfl
theorem q_122 : (Jvm.Cond.fieldLink "SessionServer$Store" (38 : Nat) "SessionServer$Store" "makerCommand" "[I") ∈ gG := gG_t (gG_1 (List.mem_of_getElem? (i := 122) rfl)) rfl
theorem q_124 : (Jvm.Cond.fieldLink "SessionServer$Store" (41 : Nat) "SessionServer$Store" "end" "[I") ∈ gG := gG_t (gG_1 (List.mem_of_getElem? (i := 124) rfl)) rfl
theorem q_128 : (Jvm.Cond.fieldLink "SessionServer$Store" (44 : Nat) "SessionServer$Store" "endCommand" "[I") ∈ gG := gG_t (gG_1 (List.mem_of_getElem? (i := 128) rfl)) rfl
theorem q_131 : (Jvm.Cond.fieldLink "SessionServer$Store" (47 : Nat) "SessionServer$Store" "next" "[I") ∈ gG := gG_t (gG_1 (List.mem_of_getElem? (i := 131) rfl)) rfl
theorem q_133 : (Jvm.Cond.fieldLink "SessionServer$Store" (50 : Nat) "SessionServer$Store" "locks" "[I") ∈ gG := gG_t (gG_1 (List.mem_of_getElem? (i := 133) rfl)) rfl
theorem q_134 : (Jvm.Cond.fieldLink "SessionServer$Store" (53 : Nat) "SessionServer$Store" "free" "[I") ∈ gG := gG_t (gG_1 (List.mem_of_getElem? (i := 134) rfl)) rfl
theorem q_137 : (Jvm.Cond.fieldLink "SessionServer" (183 : Nat) "SessionServer$Store" "indexes" "I") ∈ gG := gG_t (gG_1 (List.mem_of_getElem? (i := 137) rfl)) rfl
theorem q_140 : (Jvm.Cond.fieldLink "SessionServer" (170 : Nat) "SessionServer$Store" "versions" "I") ∈ gG := gG_t (gG_1 (List.mem_of_getElem? (i := 140) rfl)) rfl
theorem q_141 : (Jvm.Cond.fieldLink "SessionServer" (160 : Nat) "SessionServer$Store" "made" "I") ∈ gG := gG_t (gG_1 (List.mem_of_getElem? (i := 141) rfl)) rfl
theorem q_143 : (Jvm.Cond.laysFinal "SessionServer$Store" "SessionServer$Store" "tables" "[LSessionServer$Table;") ∈ gG := gG_t (gG_1 (List.mem_of_getElem? (i := 143) rfl)) rfl
theorem q_145 : (Jvm.Cond.laysFinal "SessionServer$Store" "SessionServer$Store" "indexTable" "[I") ∈ gG := gG_t (gG_1 (List.mem_of_getElem? (i := 145) rfl)) rfl
theorem q_147 : (Jvm.Cond.laysFinal "SessionServer$Store" "SessionServer$Store" "indexColumn" "[I") ∈ gG := gG_t (gG_1 (List.mem_of_getElem? (i := 147) rfl)) rfl
theorem q_149 : (Jvm.Cond.laysFinal "SessionServer$Store" "SessionServer$Store" "indexUnique" "[Z") ∈ gG := gG_t (gG_1 (List.mem_of_getElem? (i := 149) rfl)) rfl
theorem q_151 : (Jvm.Cond.laysFinal "SessionServer$Store" "SessionServer$Store" "values" "[J") ∈ gG := gG_t (gG_1 (List.mem_of_getElem? (i := 151) rfl)) rfl
theorem q_153 : (Jvm.Cond.laysFinal "SessionServer$Store" "SessionServer$Store" "number" "[I") ∈ gG := gG_t (gG_1 (List.mem_of_getElem? (i := 153) rfl)) rfl
theorem q_155 : (Jvm.Cond.laysFinal "SessionServer$Store" "SessionServer$Store" "maker" "[I") ∈ gG := gG_t (gG_1 (List.mem_of_getElem? (i := 155) rfl)) rfl
theorem q_157 : (Jvm.Cond.laysFinal "SessionServer$Store" "SessionServer$Store" "makerCommand" "[I") ∈ gG := gG_t (gG_1 (List.mem_of_getElem? (i := 157) rfl)) rfl
theorem q_159 : (Jvm.Cond.laysFinal "SessionServer$Store" "SessionServer$Store" "end" "[I") ∈ gG := gG_t (gG_1 (List.mem_of_getElem? (i := 159) rfl)) rfl
theorem q_161 : (Jvm.Cond.laysFinal "SessionServer$Store" "SessionServer$Store" "endCommand" "[I") ∈ gG := gG_t (gG_1 (List.mem_of_getElem? (i := 161) rfl)) rfl
theorem q_163 : (Jvm.Cond.laysFinal "SessionServer$Store" "SessionServer$Store" "next" "[I") ∈ gG := gG_t (gG_1 (List.mem_of_getElem? (i := 163) rfl)) rfl
theorem q_165 : (Jvm.Cond.laysFinal "SessionServer$Store" "SessionServer$Store" "locks" "[I") ∈ gG := gG_t (gG_1 (List.mem_of_getElem? (i := 165) rfl)) rfl
theorem q_167 : (Jvm.Cond.laysFinal "SessionServer$Store" "SessionServer$Store" "free" "[I") ∈ gG := gG_t (gG_1 (List.mem_of_getElem? (i := 167) rfl)) rfl
theorem q_169 : (Jvm.Cond.lays "SessionServer$Store" "SessionServer$Store" "indexes" "I") ∈ gG := gG_t (gG_1 (List.mem_of_getElem? (i := 169) rfl)) rfl
theorem q_171 : (Jvm.Cond.lays "SessionServer$Store" "SessionServer$Store" "serials" "I") ∈ gG := gG_t (gG_1 (List.mem_of_getElem? (i := 171) rfl)) rfl
theorem q_173 : (Jvm.Cond.lays "SessionServer$Store" "SessionServer$Store" "versions" "I") ∈ gG := gG_t (gG_1 (List.mem_of_getElem? (i := 173) rfl)) rfl
theorem q_175 : (Jvm.Cond.lays "SessionServer$Store" "SessionServer$Store" "made" "I") ∈ gG := gG_t (gG_1 (List.mem_of_getElem? (i := 175) rfl)) rfl
theorem q_178 : (Jvm.Cond.classLink "SessionServer" (26 : Nat) "SessionServer$Ledger") ∈ gG := gG_t (gG_1 (List.mem_of_getElem? (i := 178) rfl)) rfl
theorem q_179 : (Jvm.Cond.instantiable "SessionServer$Ledger" (12 : Nat)) ∈ gG := gG_t (gG_1 (List.mem_of_getElem? (i := 179) rfl)) rfl
theorem q_181 : (Jvm.Cond.instanceMethod ({ cls := "SessionServer$Ledger", name := "<init>", desc := "()V" } : Jvm.MethodName)) ∈ gG := gG_t (gG_1 (List.mem_of_getElem? (i := 181) rfl)) rfl
theorem q_182 : (Jvm.Cond.code ({ cls := "SessionServer$Ledger", name := "<init>", desc := "()V" } : Jvm.MethodName) prog_5_method_1_code (1 : Nat) (Option.none : Option Jvm.ClassFile.FieldType)) ∈ gG := gG_t (gG_1 (List.mem_of_getElem? (i := 182) rfl)) rfl
theorem q_183 : (Jvm.Cond.methodLink "SessionServer$Ledger" (3 : Nat) ({ cls := "java/lang/Object", name := "<init>", desc := "()V" } : Jvm.MethodName)) ∈ gG := gG_t (gG_1 (List.mem_of_getElem? (i := 183) rfl)) rfl
theorem q_184 : (Jvm.Cond.fieldLink "SessionServer$Ledger" (9 : Nat) "SessionServer$Ledger" "status" "[B") ∈ gG := gG_t (gG_1 (List.mem_of_getElem? (i := 184) rfl)) rfl
theorem q_188 : (Jvm.Cond.fieldLink "SessionServer$Ledger" (15 : Nat) "SessionServer$Ledger" "owner" "[B") ∈ gG := gG_t (gG_1 (List.mem_of_getElem? (i := 188) rfl)) rfl
theorem q_190 : (Jvm.Cond.fieldLink "SessionServer$Ledger" (18 : Nat) "SessionServer$Ledger" "level" "[B") ∈ gG := gG_t (gG_1 (List.mem_of_getElem? (i := 190) rfl)) rfl
theorem q_191 : (Jvm.Cond.fieldLink "SessionServer$Ledger" (21 : Nat) "SessionServer$Ledger" "guard" "[B") ∈ gG := gG_t (gG_1 (List.mem_of_getElem? (i := 191) rfl)) rfl
theorem q_193 : (Jvm.Cond.fieldLink "SessionServer$Ledger" (24 : Nat) "SessionServer$Ledger" "committedAt" "[I") ∈ gG := gG_t (gG_1 (List.mem_of_getElem? (i := 193) rfl)) rfl
theorem q_198 : (Jvm.Cond.fieldLink "SessionServer" (173 : Nat) "SessionServer$Ledger" "given" "I") ∈ gG := gG_t (gG_1 (List.mem_of_getElem? (i := 198) rfl)) rfl
theorem q_200 : (Jvm.Cond.fieldLink "SessionServer" (176 : Nat) "SessionServer$Ledger" "commits" "I") ∈ gG := gG_t (gG_1 (List.mem_of_getElem? (i := 200) rfl)) rfl
theorem q_203 : (Jvm.Cond.fieldLink "SessionServer$Ledger" (28 : Nat) "SessionServer$Ledger" "charge" "I") ∈ gG := gG_t (gG_1 (List.mem_of_getElem? (i := 203) rfl)) rfl
theorem q_204 : (Jvm.Cond.fieldLink "SessionServer" (143 : Nat) "SessionServer$Ledger" "charge" "I") ∈ gG := gG_t (gG_1 (List.mem_of_getElem? (i := 204) rfl)) rfl
theorem q_209 : (Jvm.Cond.laysFinal "SessionServer$Ledger" "SessionServer$Ledger" "status" "[B") ∈ gG := gG_t (gG_1 (List.mem_of_getElem? (i := 209) rfl)) rfl
theorem q_211 : (Jvm.Cond.laysFinal "SessionServer$Ledger" "SessionServer$Ledger" "owner" "[B") ∈ gG := gG_t (gG_1 (List.mem_of_getElem? (i := 211) rfl)) rfl
theorem q_213 : (Jvm.Cond.laysFinal "SessionServer$Ledger" "SessionServer$Ledger" "level" "[B") ∈ gG := gG_t (gG_1 (List.mem_of_getElem? (i := 213) rfl)) rfl
theorem q_215 : (Jvm.Cond.laysFinal "SessionServer$Ledger" "SessionServer$Ledger" "guard" "[B") ∈ gG := gG_t (gG_1 (List.mem_of_getElem? (i := 215) rfl)) rfl
theorem q_217 : (Jvm.Cond.laysFinal "SessionServer$Ledger" "SessionServer$Ledger" "committedAt" "[I") ∈ gG := gG_t (gG_1 (List.mem_of_getElem? (i := 217) rfl)) rfl
theorem q_219 : (Jvm.Cond.lays "SessionServer$Ledger" "SessionServer$Ledger" "given" "I") ∈ gG := gG_t (gG_1 (List.mem_of_getElem? (i := 219) rfl)) rfl
theorem q_221 : (Jvm.Cond.lays "SessionServer$Ledger" "SessionServer$Ledger" "commits" "I") ∈ gG := gG_t (gG_1 (List.mem_of_getElem? (i := 221) rfl)) rfl
theorem q_223 : (Jvm.Cond.lays "SessionServer$Ledger" "SessionServer$Ledger" "clock" "I") ∈ gG := gG_t (gG_1 (List.mem_of_getElem? (i := 223) rfl)) rfl
theorem q_225 : (Jvm.Cond.lays "SessionServer$Ledger" "SessionServer$Ledger" "charge" "I") ∈ gG := gG_t (gG_1 (List.mem_of_getElem? (i := 225) rfl)) rfl
theorem q_227 : (Jvm.Cond.lays "SessionServer$Ledger" "SessionServer$Ledger" "savedMade" "I") ∈ gG := gG_t (gG_1 (List.mem_of_getElem? (i := 227) rfl)) rfl
theorem q_229 : (Jvm.Cond.lays "SessionServer$Ledger" "SessionServer$Ledger" "savedGiven" "I") ∈ gG := gG_t (gG_1 (List.mem_of_getElem? (i := 229) rfl)) rfl
theorem q_231 : (Jvm.Cond.lays "SessionServer$Ledger" "SessionServer$Ledger" "savedCommits" "I") ∈ gG := gG_t (gG_1 (List.mem_of_getElem? (i := 231) rfl)) rfl
theorem q_234 : (Jvm.Cond.classLink "SessionServer" (33 : Nat) "SessionServer$Serial") ∈ gG := gG_t (gG_1 (List.mem_of_getElem? (i := 234) rfl)) rfl
theorem q_235 : (Jvm.Cond.instantiable "SessionServer$Serial" (14 : Nat)) ∈ gG := gG_t (gG_1 (List.mem_of_getElem? (i := 235) rfl)) rfl
theorem q_236 : (Jvm.Cond.methodLink "SessionServer" (35 : Nat) ({ cls := "SessionServer$Serial", name := "<init>", desc := "(LSessionServer$Store;LSessionServer$Ledger;)V" } : Jvm.MethodName)) ∈ gG := gG_t (gG_1 (List.mem_of_getElem? (i := 236) rfl)) rfl
theorem q_237 : (Jvm.Cond.instanceMethod ({ cls := "SessionServer$Serial", name := "<init>", desc := "(LSessionServer$Store;LSessionServer$Ledger;)V" } : Jvm.MethodName)) ∈ gG := gG_t (gG_1 (List.mem_of_getElem? (i := 237) rfl)) rfl
theorem q_238 : (Jvm.Cond.code ({ cls := "SessionServer$Serial", name := "<init>", desc := "(LSessionServer$Store;LSessionServer$Ledger;)V" } : Jvm.MethodName) prog_8_method_1_code (3 : Nat) (Option.none : Option Jvm.ClassFile.FieldType)) ∈ gG := gG_t (gG_1 (List.mem_of_getElem? (i := 238) rfl)) rfl
theorem q_239 : (Jvm.Cond.methodLink "SessionServer$Serial" (3 : Nat) ({ cls := "java/lang/Object", name := "<init>", desc := "()V" } : Jvm.MethodName)) ∈ gG := gG_t (gG_1 (List.mem_of_getElem? (i := 239) rfl)) rfl
theorem q_240 : (Jvm.Cond.constant "SessionServer$Serial" (44 : Nat) (32768 : Int32)) ∈ gG := gG_t (gG_2 (List.mem_of_getElem? (i := 0) rfl)) rfl
theorem q_241 : (Jvm.Cond.fieldLink "SessionServer$Serial" (48 : Nat) "SessionServer$Serial" "store" "LSessionServer$Store;") ∈ gG := gG_t (gG_2 (List.mem_of_getElem? (i := 1) rfl)) rfl
theorem q_242 : (Jvm.Cond.fieldLink "SessionServer$Serial" (52 : Nat) "SessionServer$Serial" "ledger" "LSessionServer$Ledger;") ∈ gG := gG_t (gG_2 (List.mem_of_getElem? (i := 2) rfl)) rfl
theorem q_243 : (Jvm.Cond.fieldLink "SessionServer$Serial" (9 : Nat) "SessionServer$Serial" "used" "[Z") ∈ gG := gG_t (gG_2 (List.mem_of_getElem? (i := 3) rfl)) rfl
theorem q_244 : (Jvm.Cond.fieldLink "SessionServer$Serial" (15 : Nat) "SessionServer$Serial" "doomed" "[Z") ∈ gG := gG_t (gG_2 (List.mem_of_getElem? (i := 4) rfl)) rfl
theorem q_246 : (Jvm.Cond.fieldLink "SessionServer$Serial" (18 : Nat) "SessionServer$Serial" "began" "[I") ∈ gG := gG_t (gG_2 (List.mem_of_getElem? (i := 6) rfl)) rfl
theorem q_247 : (Jvm.Cond.fieldLink "SessionServer$Serial" (22 : Nat) "SessionServer$Serial" "committed" "[I") ∈ gG := gG_t (gG_2 (List.mem_of_getElem? (i := 7) rfl)) rfl
theorem q_248 : (Jvm.Cond.fieldLink "SessionServer$Serial" (25 : Nat) "SessionServer$Serial" "arrows" "[J") ∈ gG := gG_t (gG_2 (List.mem_of_getElem? (i := 8) rfl)) rfl
theorem q_249 : (Jvm.Cond.fieldLink "SessionServer$Serial" (29 : Nat) "SessionServer$Serial" "goneCommit" "[I") ∈ gG := gG_t (gG_2 (List.mem_of_getElem? (i := 9) rfl)) rfl
theorem q_250 : (Jvm.Cond.fieldLink "SessionServer$Serial" (32 : Nat) "SessionServer$Serial" "whole" "[Z") ∈ gG := gG_t (gG_2 (List.mem_of_getElem? (i := 10) rfl)) rfl
theorem q_251 : (Jvm.Cond.fieldLink "SessionServer$Serial" (35 : Nat) "SessionServer$Serial" "ranges" "[I") ∈ gG := gG_t (gG_2 (List.mem_of_getElem? (i := 11) rfl)) rfl
theorem q_252 : (Jvm.Cond.fieldLink "SessionServer$Serial" (38 : Nat) "SessionServer$Serial" "rangeColumn" "[I") ∈ gG := gG_t (gG_2 (List.mem_of_getElem? (i := 12) rfl)) rfl
theorem q_253 : (Jvm.Cond.fieldLink "SessionServer$Serial" (41 : Nat) "SessionServer$Serial" "rangeFlags" "[I") ∈ gG := gG_t (gG_2 (List.mem_of_getElem? (i := 13) rfl)) rfl
theorem q_254 : (Jvm.Cond.fieldLink "SessionServer$Serial" (45 : Nat) "SessionServer$Serial" "bounds" "[J") ∈ gG := gG_t (gG_2 (List.mem_of_getElem? (i := 14) rfl)) rfl
theorem q_256 : (Jvm.Cond.laysFinal "SessionServer$Serial" "SessionServer$Serial" "store" "LSessionServer$Store;") ∈ gG := gG_t (gG_2 (List.mem_of_getElem? (i := 16) rfl)) rfl
theorem q_258 : (Jvm.Cond.laysFinal "SessionServer$Serial" "SessionServer$Serial" "ledger" "LSessionServer$Ledger;") ∈ gG := gG_t (gG_2 (List.mem_of_getElem? (i := 18) rfl)) rfl
theorem q_260 : (Jvm.Cond.laysFinal "SessionServer$Serial" "SessionServer$Serial" "used" "[Z") ∈ gG := gG_t (gG_2 (List.mem_of_getElem? (i := 20) rfl)) rfl
theorem q_262 : (Jvm.Cond.laysFinal "SessionServer$Serial" "SessionServer$Serial" "doomed" "[Z") ∈ gG := gG_t (gG_2 (List.mem_of_getElem? (i := 22) rfl)) rfl
theorem q_264 : (Jvm.Cond.laysFinal "SessionServer$Serial" "SessionServer$Serial" "began" "[I") ∈ gG := gG_t (gG_2 (List.mem_of_getElem? (i := 24) rfl)) rfl
theorem q_266 : (Jvm.Cond.laysFinal "SessionServer$Serial" "SessionServer$Serial" "committed" "[I") ∈ gG := gG_t (gG_2 (List.mem_of_getElem? (i := 26) rfl)) rfl
theorem q_268 : (Jvm.Cond.laysFinal "SessionServer$Serial" "SessionServer$Serial" "arrows" "[J") ∈ gG := gG_t (gG_2 (List.mem_of_getElem? (i := 28) rfl)) rfl
theorem q_270 : (Jvm.Cond.laysFinal "SessionServer$Serial" "SessionServer$Serial" "goneCommit" "[I") ∈ gG := gG_t (gG_2 (List.mem_of_getElem? (i := 30) rfl)) rfl
theorem q_272 : (Jvm.Cond.laysFinal "SessionServer$Serial" "SessionServer$Serial" "whole" "[Z") ∈ gG := gG_t (gG_2 (List.mem_of_getElem? (i := 32) rfl)) rfl
theorem q_274 : (Jvm.Cond.laysFinal "SessionServer$Serial" "SessionServer$Serial" "ranges" "[I") ∈ gG := gG_t (gG_2 (List.mem_of_getElem? (i := 34) rfl)) rfl
theorem q_276 : (Jvm.Cond.laysFinal "SessionServer$Serial" "SessionServer$Serial" "rangeColumn" "[I") ∈ gG := gG_t (gG_2 (List.mem_of_getElem? (i := 36) rfl)) rfl
theorem q_278 : (Jvm.Cond.laysFinal "SessionServer$Serial" "SessionServer$Serial" "rangeFlags" "[I") ∈ gG := gG_t (gG_2 (List.mem_of_getElem? (i := 38) rfl)) rfl
theorem q_280 : (Jvm.Cond.laysFinal "SessionServer$Serial" "SessionServer$Serial" "bounds" "[J") ∈ gG := gG_t (gG_2 (List.mem_of_getElem? (i := 40) rfl)) rfl
theorem q_282 : (Jvm.Cond.lays "SessionServer$Serial" "SessionServer$Serial" "coming" "J") ∈ gG := gG_t (gG_2 (List.mem_of_getElem? (i := 42) rfl)) rfl
theorem q_285 : (Jvm.Cond.classLink "SessionServer" (42 : Nat) "SessionServer$Machine") ∈ gG := gG_t (gG_2 (List.mem_of_getElem? (i := 45) rfl)) rfl
theorem q_286 : (Jvm.Cond.instantiable "SessionServer$Machine" (6 : Nat)) ∈ gG := gG_t (gG_2 (List.mem_of_getElem? (i := 46) rfl)) rfl
theorem q_287 : (Jvm.Cond.methodLink "SessionServer" (44 : Nat) ({ cls := "SessionServer$Machine", name := "<init>", desc := "(LSessionServer$Store;)V" } : Jvm.MethodName)) ∈ gG := gG_t (gG_2 (List.mem_of_getElem? (i := 47) rfl)) rfl
theorem q_288 : (Jvm.Cond.instanceMethod ({ cls := "SessionServer$Machine", name := "<init>", desc := "(LSessionServer$Store;)V" } : Jvm.MethodName)) ∈ gG := gG_t (gG_2 (List.mem_of_getElem? (i := 48) rfl)) rfl
theorem q_289 : (Jvm.Cond.code ({ cls := "SessionServer$Machine", name := "<init>", desc := "(LSessionServer$Store;)V" } : Jvm.MethodName) prog_6_method_1_code (2 : Nat) (Option.none : Option Jvm.ClassFile.FieldType)) ∈ gG := gG_t (gG_2 (List.mem_of_getElem? (i := 49) rfl)) rfl
theorem q_290 : (Jvm.Cond.methodLink "SessionServer$Machine" (3 : Nat) ({ cls := "java/lang/Object", name := "<init>", desc := "()V" } : Jvm.MethodName)) ∈ gG := gG_t (gG_2 (List.mem_of_getElem? (i := 50) rfl)) rfl
theorem q_291 : (Jvm.Cond.fieldLink "SessionServer$Machine" (25 : Nat) "SessionServer$Machine" "store" "LSessionServer$Store;") ∈ gG := gG_t (gG_2 (List.mem_of_getElem? (i := 51) rfl)) rfl
theorem q_292 : (Jvm.Cond.fieldLink "SessionServer$Machine" (9 : Nat) "SessionServer$Machine" "stack" "[J") ∈ gG := gG_t (gG_2 (List.mem_of_getElem? (i := 52) rfl)) rfl
theorem q_295 : (Jvm.Cond.fieldLink "SessionServer$Machine" (15 : Nat) "SessionServer$Machine" "totals" "[J") ∈ gG := gG_t (gG_2 (List.mem_of_getElem? (i := 55) rfl)) rfl
theorem q_296 : (Jvm.Cond.fieldLink "SessionServer$Machine" (18 : Nat) "SessionServer$Machine" "row" "[I") ∈ gG := gG_t (gG_2 (List.mem_of_getElem? (i := 56) rfl)) rfl
theorem q_299 : (Jvm.Cond.fieldLink "SessionServer$Machine" (22 : Nat) "SessionServer$Machine" "values" "[J") ∈ gG := gG_t (gG_2 (List.mem_of_getElem? (i := 59) rfl)) rfl
theorem q_304 : (Jvm.Cond.laysFinal "SessionServer$Machine" "SessionServer$Machine" "store" "LSessionServer$Store;") ∈ gG := gG_t (gG_2 (List.mem_of_getElem? (i := 64) rfl)) rfl
theorem q_306 : (Jvm.Cond.laysFinal "SessionServer$Machine" "SessionServer$Machine" "stack" "[J") ∈ gG := gG_t (gG_2 (List.mem_of_getElem? (i := 66) rfl)) rfl
theorem q_308 : (Jvm.Cond.laysFinal "SessionServer$Machine" "SessionServer$Machine" "totals" "[J") ∈ gG := gG_t (gG_2 (List.mem_of_getElem? (i := 68) rfl)) rfl
theorem q_310 : (Jvm.Cond.laysFinal "SessionServer$Machine" "SessionServer$Machine" "row" "[I") ∈ gG := gG_t (gG_2 (List.mem_of_getElem? (i := 70) rfl)) rfl
theorem q_312 : (Jvm.Cond.lays "SessionServer$Machine" "SessionServer$Machine" "values" "[J") ∈ gG := gG_t (gG_2 (List.mem_of_getElem? (i := 72) rfl)) rfl
theorem q_314 : (Jvm.Cond.lays "SessionServer$Machine" "SessionServer$Machine" "grouped" "Z") ∈ gG := gG_t (gG_2 (List.mem_of_getElem? (i := 74) rfl)) rfl
theorem q_317 : (Jvm.Cond.classLink "SessionServer" (51 : Nat) "SessionServer$Finder") ∈ gG := gG_t (gG_2 (List.mem_of_getElem? (i := 77) rfl)) rfl
theorem q_318 : (Jvm.Cond.instantiable "SessionServer$Finder" (20 : Nat)) ∈ gG := gG_t (gG_2 (List.mem_of_getElem? (i := 78) rfl)) rfl
theorem q_319 : (Jvm.Cond.methodLink "SessionServer" (53 : Nat) ({ cls := "SessionServer$Finder", name := "<init>", desc := "(LSessionServer$Store;LSessionServer$Ledger;LSessionServer$Serial;LSessionServer$Machine;)V" } : Jvm.MethodName)) ∈ gG := gG_t (gG_2 (List.mem_of_getElem? (i := 79) rfl)) rfl
theorem q_320 : (Jvm.Cond.instanceMethod ({ cls := "SessionServer$Finder", name := "<init>", desc := "(LSessionServer$Store;LSessionServer$Ledger;LSessionServer$Serial;LSessionServer$Machine;)V" } : Jvm.MethodName)) ∈ gG := gG_t (gG_2 (List.mem_of_getElem? (i := 80) rfl)) rfl
theorem q_321 : (Jvm.Cond.code ({ cls := "SessionServer$Finder", name := "<init>", desc := "(LSessionServer$Store;LSessionServer$Ledger;LSessionServer$Serial;LSessionServer$Machine;)V" } : Jvm.MethodName) prog_4_method_1_code (5 : Nat) (Option.none : Option Jvm.ClassFile.FieldType)) ∈ gG := gG_t (gG_2 (List.mem_of_getElem? (i := 81) rfl)) rfl
theorem q_322 : (Jvm.Cond.methodLink "SessionServer$Finder" (3 : Nat) ({ cls := "java/lang/Object", name := "<init>", desc := "()V" } : Jvm.MethodName)) ∈ gG := gG_t (gG_2 (List.mem_of_getElem? (i := 82) rfl)) rfl
theorem q_323 : (Jvm.Cond.constant "SessionServer$Finder" (43 : Nat) (64000 : Int32)) ∈ gG := gG_t (gG_2 (List.mem_of_getElem? (i := 83) rfl)) rfl
theorem q_324 : (Jvm.Cond.fieldLink "SessionServer$Finder" (53 : Nat) "SessionServer$Finder" "store" "LSessionServer$Store;") ∈ gG := gG_t (gG_2 (List.mem_of_getElem? (i := 84) rfl)) rfl
theorem q_325 : (Jvm.Cond.fieldLink "SessionServer$Finder" (57 : Nat) "SessionServer$Finder" "ledger" "LSessionServer$Ledger;") ∈ gG := gG_t (gG_2 (List.mem_of_getElem? (i := 85) rfl)) rfl
theorem q_326 : (Jvm.Cond.fieldLink "SessionServer$Finder" (61 : Nat) "SessionServer$Finder" "serial" "LSessionServer$Serial;") ∈ gG := gG_t (gG_2 (List.mem_of_getElem? (i := 86) rfl)) rfl
theorem q_327 : (Jvm.Cond.fieldLink "SessionServer$Finder" (65 : Nat) "SessionServer$Finder" "machine" "LSessionServer$Machine;") ∈ gG := gG_t (gG_2 (List.mem_of_getElem? (i := 87) rfl)) rfl
theorem q_328 : (Jvm.Cond.fieldLink "SessionServer$Finder" (9 : Nat) "SessionServer$Finder" "flags" "[I") ∈ gG := gG_t (gG_2 (List.mem_of_getElem? (i := 88) rfl)) rfl
theorem q_329 : (Jvm.Cond.fieldLink "SessionServer$Finder" (15 : Nat) "SessionServer$Finder" "column" "[I") ∈ gG := gG_t (gG_2 (List.mem_of_getElem? (i := 89) rfl)) rfl
theorem q_330 : (Jvm.Cond.fieldLink "SessionServer$Finder" (18 : Nat) "SessionServer$Finder" "bounds" "[J") ∈ gG := gG_t (gG_2 (List.mem_of_getElem? (i := 90) rfl)) rfl
theorem q_332 : (Jvm.Cond.fieldLink "SessionServer$Finder" (22 : Nat) "SessionServer$Finder" "conditions" "[I") ∈ gG := gG_t (gG_2 (List.mem_of_getElem? (i := 92) rfl)) rfl
theorem q_334 : (Jvm.Cond.fieldLink "SessionServer$Finder" (25 : Nat) "SessionServer$Finder" "candidates" "[I") ∈ gG := gG_t (gG_2 (List.mem_of_getElem? (i := 94) rfl)) rfl
theorem q_335 : (Jvm.Cond.fieldLink "SessionServer$Finder" (28 : Nat) "SessionServer$Finder" "candidateCount" "[I") ∈ gG := gG_t (gG_2 (List.mem_of_getElem? (i := 95) rfl)) rfl
theorem q_336 : (Jvm.Cond.fieldLink "SessionServer$Finder" (31 : Nat) "SessionServer$Finder" "combos" "[I") ∈ gG := gG_t (gG_2 (List.mem_of_getElem? (i := 96) rfl)) rfl
theorem q_338 : (Jvm.Cond.fieldLink "SessionServer$Finder" (34 : Nat) "SessionServer$Finder" "groupFirst" "[I") ∈ gG := gG_t (gG_2 (List.mem_of_getElem? (i := 98) rfl)) rfl
theorem q_339 : (Jvm.Cond.fieldLink "SessionServer$Finder" (37 : Nat) "SessionServer$Finder" "groupLast" "[I") ∈ gG := gG_t (gG_2 (List.mem_of_getElem? (i := 99) rfl)) rfl
theorem q_340 : (Jvm.Cond.fieldLink "SessionServer$Finder" (40 : Nat) "SessionServer$Finder" "following" "[I") ∈ gG := gG_t (gG_2 (List.mem_of_getElem? (i := 100) rfl)) rfl
theorem q_341 : (Jvm.Cond.fieldLink "SessionServer$Finder" (44 : Nat) "SessionServer$Finder" "cells" "[J") ∈ gG := gG_t (gG_2 (List.mem_of_getElem? (i := 101) rfl)) rfl
theorem q_342 : (Jvm.Cond.fieldLink "SessionServer$Finder" (47 : Nat) "SessionServer$Finder" "order" "[I") ∈ gG := gG_t (gG_2 (List.mem_of_getElem? (i := 102) rfl)) rfl
theorem q_343 : (Jvm.Cond.fieldLink "SessionServer$Finder" (50 : Nat) "SessionServer$Finder" "spare" "[I") ∈ gG := gG_t (gG_2 (List.mem_of_getElem? (i := 103) rfl)) rfl
theorem q_346 : (Jvm.Cond.laysFinal "SessionServer$Finder" "SessionServer$Finder" "store" "LSessionServer$Store;") ∈ gG := gG_t (gG_2 (List.mem_of_getElem? (i := 106) rfl)) rfl
theorem q_348 : (Jvm.Cond.laysFinal "SessionServer$Finder" "SessionServer$Finder" "ledger" "LSessionServer$Ledger;") ∈ gG := gG_t (gG_2 (List.mem_of_getElem? (i := 108) rfl)) rfl
theorem q_350 : (Jvm.Cond.laysFinal "SessionServer$Finder" "SessionServer$Finder" "serial" "LSessionServer$Serial;") ∈ gG := gG_t (gG_2 (List.mem_of_getElem? (i := 110) rfl)) rfl
theorem q_352 : (Jvm.Cond.laysFinal "SessionServer$Finder" "SessionServer$Finder" "machine" "LSessionServer$Machine;") ∈ gG := gG_t (gG_2 (List.mem_of_getElem? (i := 112) rfl)) rfl
theorem q_354 : (Jvm.Cond.laysFinal "SessionServer$Finder" "SessionServer$Finder" "flags" "[I") ∈ gG := gG_t (gG_2 (List.mem_of_getElem? (i := 114) rfl)) rfl
theorem q_356 : (Jvm.Cond.laysFinal "SessionServer$Finder" "SessionServer$Finder" "column" "[I") ∈ gG := gG_t (gG_2 (List.mem_of_getElem? (i := 116) rfl)) rfl
theorem q_358 : (Jvm.Cond.laysFinal "SessionServer$Finder" "SessionServer$Finder" "bounds" "[J") ∈ gG := gG_t (gG_2 (List.mem_of_getElem? (i := 118) rfl)) rfl
theorem q_360 : (Jvm.Cond.laysFinal "SessionServer$Finder" "SessionServer$Finder" "conditions" "[I") ∈ gG := gG_t (gG_2 (List.mem_of_getElem? (i := 120) rfl)) rfl
theorem q_362 : (Jvm.Cond.lays "SessionServer$Finder" "SessionServer$Finder" "conditionCount" "I") ∈ gG := gG_t (gG_2 (List.mem_of_getElem? (i := 122) rfl)) rfl
theorem q_364 : (Jvm.Cond.laysFinal "SessionServer$Finder" "SessionServer$Finder" "candidates" "[I") ∈ gG := gG_t (gG_2 (List.mem_of_getElem? (i := 124) rfl)) rfl
theorem q_366 : (Jvm.Cond.laysFinal "SessionServer$Finder" "SessionServer$Finder" "candidateCount" "[I") ∈ gG := gG_t (gG_2 (List.mem_of_getElem? (i := 126) rfl)) rfl
theorem q_368 : (Jvm.Cond.laysFinal "SessionServer$Finder" "SessionServer$Finder" "combos" "[I") ∈ gG := gG_t (gG_2 (List.mem_of_getElem? (i := 128) rfl)) rfl
theorem q_370 : (Jvm.Cond.lays "SessionServer$Finder" "SessionServer$Finder" "rows" "I") ∈ gG := gG_t (gG_2 (List.mem_of_getElem? (i := 130) rfl)) rfl
theorem q_372 : (Jvm.Cond.laysFinal "SessionServer$Finder" "SessionServer$Finder" "groupFirst" "[I") ∈ gG := gG_t (gG_2 (List.mem_of_getElem? (i := 132) rfl)) rfl
theorem q_374 : (Jvm.Cond.laysFinal "SessionServer$Finder" "SessionServer$Finder" "groupLast" "[I") ∈ gG := gG_t (gG_2 (List.mem_of_getElem? (i := 134) rfl)) rfl
theorem q_376 : (Jvm.Cond.laysFinal "SessionServer$Finder" "SessionServer$Finder" "following" "[I") ∈ gG := gG_t (gG_2 (List.mem_of_getElem? (i := 136) rfl)) rfl
theorem q_378 : (Jvm.Cond.laysFinal "SessionServer$Finder" "SessionServer$Finder" "cells" "[J") ∈ gG := gG_t (gG_2 (List.mem_of_getElem? (i := 138) rfl)) rfl
theorem q_380 : (Jvm.Cond.laysFinal "SessionServer$Finder" "SessionServer$Finder" "order" "[I") ∈ gG := gG_t (gG_2 (List.mem_of_getElem? (i := 140) rfl)) rfl
theorem q_382 : (Jvm.Cond.laysFinal "SessionServer$Finder" "SessionServer$Finder" "spare" "[I") ∈ gG := gG_t (gG_2 (List.mem_of_getElem? (i := 142) rfl)) rfl
theorem q_384 : (Jvm.Cond.lays "SessionServer$Finder" "SessionServer$Finder" "results" "I") ∈ gG := gG_t (gG_2 (List.mem_of_getElem? (i := 144) rfl)) rfl
theorem q_387 : (Jvm.Cond.classLink "SessionServer" (60 : Nat) "SessionServer$Parser") ∈ gG := gG_t (gG_2 (List.mem_of_getElem? (i := 147) rfl)) rfl
theorem q_388 : (Jvm.Cond.instantiable "SessionServer$Parser" (14 : Nat)) ∈ gG := gG_t (gG_2 (List.mem_of_getElem? (i := 148) rfl)) rfl
theorem q_390 : (Jvm.Cond.instanceMethod ({ cls := "SessionServer$Parser", name := "<init>", desc := "()V" } : Jvm.MethodName)) ∈ gG := gG_t (gG_2 (List.mem_of_getElem? (i := 150) rfl)) rfl
theorem q_391 : (Jvm.Cond.code ({ cls := "SessionServer$Parser", name := "<init>", desc := "()V" } : Jvm.MethodName) prog_7_method_1_code (1 : Nat) (Option.none : Option Jvm.ClassFile.FieldType)) ∈ gG := gG_t (gG_2 (List.mem_of_getElem? (i := 151) rfl)) rfl
theorem q_392 : (Jvm.Cond.methodLink "SessionServer$Parser" (3 : Nat) ({ cls := "java/lang/Object", name := "<init>", desc := "()V" } : Jvm.MethodName)) ∈ gG := gG_t (gG_2 (List.mem_of_getElem? (i := 152) rfl)) rfl
theorem q_393 : (Jvm.Cond.fieldLink "SessionServer$Parser" (9 : Nat) "SessionServer$Parser" "token" "[I") ∈ gG := gG_t (gG_2 (List.mem_of_getElem? (i := 153) rfl)) rfl
theorem q_394 : (Jvm.Cond.fieldLink "SessionServer$Parser" (15 : Nat) "SessionServer$Parser" "value" "[J") ∈ gG := gG_t (gG_2 (List.mem_of_getElem? (i := 154) rfl)) rfl
theorem q_395 : (Jvm.Cond.fieldLink "SessionServer$Parser" (19 : Nat) "SessionServer$Parser" "starts" "[I") ∈ gG := gG_t (gG_2 (List.mem_of_getElem? (i := 155) rfl)) rfl
theorem q_396 : (Jvm.Cond.fieldLink "SessionServer$Parser" (22 : Nat) "SessionServer$Parser" "letters" "[B") ∈ gG := gG_t (gG_2 (List.mem_of_getElem? (i := 156) rfl)) rfl
theorem q_397 : (Jvm.Cond.fieldLink "SessionServer$Parser" (26 : Nat) "SessionServer$Parser" "nameEnd" "[I") ∈ gG := gG_t (gG_2 (List.mem_of_getElem? (i := 157) rfl)) rfl
theorem q_409 : (Jvm.Cond.laysFinal "SessionServer$Parser" "SessionServer$Parser" "token" "[I") ∈ gG := gG_t (gG_2 (List.mem_of_getElem? (i := 169) rfl)) rfl
theorem q_411 : (Jvm.Cond.laysFinal "SessionServer$Parser" "SessionServer$Parser" "value" "[J") ∈ gG := gG_t (gG_2 (List.mem_of_getElem? (i := 171) rfl)) rfl
theorem q_413 : (Jvm.Cond.laysFinal "SessionServer$Parser" "SessionServer$Parser" "starts" "[I") ∈ gG := gG_t (gG_2 (List.mem_of_getElem? (i := 173) rfl)) rfl
theorem q_415 : (Jvm.Cond.laysFinal "SessionServer$Parser" "SessionServer$Parser" "letters" "[B") ∈ gG := gG_t (gG_2 (List.mem_of_getElem? (i := 175) rfl)) rfl
theorem q_417 : (Jvm.Cond.laysFinal "SessionServer$Parser" "SessionServer$Parser" "nameEnd" "[I") ∈ gG := gG_t (gG_2 (List.mem_of_getElem? (i := 177) rfl)) rfl
theorem q_419 : (Jvm.Cond.lays "SessionServer$Parser" "SessionServer$Parser" "names" "I") ∈ gG := gG_t (gG_2 (List.mem_of_getElem? (i := 179) rfl)) rfl
theorem q_421 : (Jvm.Cond.lays "SessionServer$Parser" "SessionServer$Parser" "tokens" "I") ∈ gG := gG_t (gG_2 (List.mem_of_getElem? (i := 181) rfl)) rfl
theorem q_423 : (Jvm.Cond.lays "SessionServer$Parser" "SessionServer$Parser" "at" "I") ∈ gG := gG_t (gG_2 (List.mem_of_getElem? (i := 183) rfl)) rfl
theorem q_425 : (Jvm.Cond.lays "SessionServer$Parser" "SessionServer$Parser" "inItems" "Z") ∈ gG := gG_t (gG_2 (List.mem_of_getElem? (i := 185) rfl)) rfl
theorem q_427 : (Jvm.Cond.lays "SessionServer$Parser" "SessionServer$Parser" "text" "[B") ∈ gG := gG_t (gG_2 (List.mem_of_getElem? (i := 187) rfl)) rfl
theorem q_429 : (Jvm.Cond.lays "SessionServer$Parser" "SessionServer$Parser" "length" "I") ∈ gG := gG_t (gG_2 (List.mem_of_getElem? (i := 189) rfl)) rfl
theorem q_431 : (Jvm.Cond.lays "SessionServer$Parser" "SessionServer$Parser" "bodyStart" "I") ∈ gG := gG_t (gG_2 (List.mem_of_getElem? (i := 191) rfl)) rfl
theorem q_433 : (Jvm.Cond.lays "SessionServer$Parser" "SessionServer$Parser" "st" "LSessionServer$Statement;") ∈ gG := gG_t (gG_2 (List.mem_of_getElem? (i := 193) rfl)) rfl
theorem q_435 : (Jvm.Cond.lays "SessionServer$Parser" "SessionServer$Parser" "code" "LSessionServer$Code;") ∈ gG := gG_t (gG_2 (List.mem_of_getElem? (i := 195) rfl)) rfl
theorem q_438 : (Jvm.Cond.classLink "SessionServer" (67 : Nat) "SessionServer$Checker") ∈ gG := gG_t (gG_2 (List.mem_of_getElem? (i := 198) rfl)) rfl
theorem q_439 : (Jvm.Cond.instantiable "SessionServer$Checker" (8 : Nat)) ∈ gG := gG_t (gG_2 (List.mem_of_getElem? (i := 199) rfl)) rfl
theorem q_440 : (Jvm.Cond.methodLink "SessionServer" (69 : Nat) ({ cls := "SessionServer$Checker", name := "<init>", desc := "(LSessionServer$Store;)V" } : Jvm.MethodName)) ∈ gG := gG_t (gG_2 (List.mem_of_getElem? (i := 200) rfl)) rfl
theorem q_441 : (Jvm.Cond.instanceMethod ({ cls := "SessionServer$Checker", name := "<init>", desc := "(LSessionServer$Store;)V" } : Jvm.MethodName)) ∈ gG := gG_t (gG_2 (List.mem_of_getElem? (i := 201) rfl)) rfl
theorem q_442 : (Jvm.Cond.code ({ cls := "SessionServer$Checker", name := "<init>", desc := "(LSessionServer$Store;)V" } : Jvm.MethodName) prog_2_method_1_code (2 : Nat) (Option.none : Option Jvm.ClassFile.FieldType)) ∈ gG := gG_t (gG_2 (List.mem_of_getElem? (i := 202) rfl)) rfl
theorem q_443 : (Jvm.Cond.methodLink "SessionServer$Checker" (3 : Nat) ({ cls := "java/lang/Object", name := "<init>", desc := "()V" } : Jvm.MethodName)) ∈ gG := gG_t (gG_2 (List.mem_of_getElem? (i := 203) rfl)) rfl
theorem q_444 : (Jvm.Cond.fieldLink "SessionServer$Checker" (19 : Nat) "SessionServer$Checker" "store" "LSessionServer$Store;") ∈ gG := gG_t (gG_2 (List.mem_of_getElem? (i := 204) rfl)) rfl
theorem q_445 : (Jvm.Cond.fieldLink "SessionServer$Checker" (9 : Nat) "SessionServer$Checker" "stack" "[I") ∈ gG := gG_t (gG_2 (List.mem_of_getElem? (i := 205) rfl)) rfl
theorem q_446 : (Jvm.Cond.fieldLink "SessionServer$Checker" (15 : Nat) "SessionServer$Checker" "met" "[Z") ∈ gG := gG_t (gG_2 (List.mem_of_getElem? (i := 206) rfl)) rfl
theorem q_452 : (Jvm.Cond.laysFinal "SessionServer$Checker" "SessionServer$Checker" "store" "LSessionServer$Store;") ∈ gG := gG_t (gG_2 (List.mem_of_getElem? (i := 212) rfl)) rfl
theorem q_454 : (Jvm.Cond.laysFinal "SessionServer$Checker" "SessionServer$Checker" "stack" "[I") ∈ gG := gG_t (gG_2 (List.mem_of_getElem? (i := 214) rfl)) rfl
theorem q_456 : (Jvm.Cond.laysFinal "SessionServer$Checker" "SessionServer$Checker" "met" "[Z") ∈ gG := gG_t (gG_2 (List.mem_of_getElem? (i := 216) rfl)) rfl
theorem q_458 : (Jvm.Cond.lays "SessionServer$Checker" "SessionServer$Checker" "st" "LSessionServer$Statement;") ∈ gG := gG_t (gG_2 (List.mem_of_getElem? (i := 218) rfl)) rfl
theorem q_460 : (Jvm.Cond.lays "SessionServer$Checker" "SessionServer$Checker" "code" "LSessionServer$Code;") ∈ gG := gG_t (gG_2 (List.mem_of_getElem? (i := 220) rfl)) rfl
theorem q_462 : (Jvm.Cond.lays "SessionServer$Checker" "SessionServer$Checker" "asking" "Z") ∈ gG := gG_t (gG_2 (List.mem_of_getElem? (i := 222) rfl)) rfl
theorem q_464 : (Jvm.Cond.lays "SessionServer$Checker" "SessionServer$Checker" "foundTable" "I") ∈ gG := gG_t (gG_2 (List.mem_of_getElem? (i := 224) rfl)) rfl
theorem q_466 : (Jvm.Cond.lays "SessionServer$Checker" "SessionServer$Checker" "foundColumn" "I") ∈ gG := gG_t (gG_2 (List.mem_of_getElem? (i := 226) rfl)) rfl
theorem q_469 : (Jvm.Cond.instantiable "SessionServer$Session" (18 : Nat)) ∈ gG := gG_t (gG_2 (List.mem_of_getElem? (i := 229) rfl)) rfl
theorem q_470 : (Jvm.Cond.methodLink "SessionServer" (78 : Nat) ({ cls := "SessionServer$Session", name := "<init>", desc := "(I)V" } : Jvm.MethodName)) ∈ gG := gG_t (gG_2 (List.mem_of_getElem? (i := 230) rfl)) rfl
theorem q_471 : (Jvm.Cond.instanceMethod ({ cls := "SessionServer$Session", name := "<init>", desc := "(I)V" } : Jvm.MethodName)) ∈ gG := gG_t (gG_2 (List.mem_of_getElem? (i := 231) rfl)) rfl
theorem q_472 : (Jvm.Cond.code ({ cls := "SessionServer$Session", name := "<init>", desc := "(I)V" } : Jvm.MethodName) prog_9_method_1_code (2 : Nat) (Option.none : Option Jvm.ClassFile.FieldType)) ∈ gG := gG_t (gG_2 (List.mem_of_getElem? (i := 232) rfl)) rfl
theorem q_473 : (Jvm.Cond.methodLink "SessionServer$Session" (3 : Nat) ({ cls := "java/lang/Object", name := "<init>", desc := "()V" } : Jvm.MethodName)) ∈ gG := gG_t (gG_2 (List.mem_of_getElem? (i := 233) rfl)) rfl
theorem q_474 : (Jvm.Cond.classLink "SessionServer$Session" (9 : Nat) "SessionServer$Statement") ∈ gG := gG_t (gG_2 (List.mem_of_getElem? (i := 234) rfl)) rfl
theorem q_475 : (Jvm.Cond.instantiable "SessionServer$Statement" (20 : Nat)) ∈ gG := gG_t (gG_2 (List.mem_of_getElem? (i := 235) rfl)) rfl
theorem q_477 : (Jvm.Cond.instanceMethod ({ cls := "SessionServer$Statement", name := "<init>", desc := "()V" } : Jvm.MethodName)) ∈ gG := gG_t (gG_2 (List.mem_of_getElem? (i := 237) rfl)) rfl
theorem q_478 : (Jvm.Cond.code ({ cls := "SessionServer$Statement", name := "<init>", desc := "()V" } : Jvm.MethodName) prog_10_method_1_code (1 : Nat) (Option.none : Option Jvm.ClassFile.FieldType)) ∈ gG := gG_t (gG_2 (List.mem_of_getElem? (i := 238) rfl)) rfl
theorem q_479 : (Jvm.Cond.methodLink "SessionServer$Statement" (3 : Nat) ({ cls := "java/lang/Object", name := "<init>", desc := "()V" } : Jvm.MethodName)) ∈ gG := gG_t (gG_2 (List.mem_of_getElem? (i := 239) rfl)) rfl
theorem q_480 : (Jvm.Cond.classLink "SessionServer$Statement" (9 : Nat) "SessionServer$Code") ∈ gG := gG_t (gG_3 (List.mem_of_getElem? (i := 0) rfl)) rfl
theorem q_481 : (Jvm.Cond.instantiable "SessionServer$Code" (18 : Nat)) ∈ gG := gG_t (gG_3 (List.mem_of_getElem? (i := 1) rfl)) rfl
theorem q_483 : (Jvm.Cond.instanceMethod ({ cls := "SessionServer$Code", name := "<init>", desc := "()V" } : Jvm.MethodName)) ∈ gG := gG_t (gG_3 (List.mem_of_getElem? (i := 3) rfl)) rfl
theorem q_484 : (Jvm.Cond.code ({ cls := "SessionServer$Code", name := "<init>", desc := "()V" } : Jvm.MethodName) prog_3_method_1_code (1 : Nat) (Option.none : Option Jvm.ClassFile.FieldType)) ∈ gG := gG_t (gG_3 (List.mem_of_getElem? (i := 4) rfl)) rfl
theorem q_485 : (Jvm.Cond.methodLink "SessionServer$Code" (3 : Nat) ({ cls := "java/lang/Object", name := "<init>", desc := "()V" } : Jvm.MethodName)) ∈ gG := gG_t (gG_3 (List.mem_of_getElem? (i := 5) rfl)) rfl
theorem q_486 : (Jvm.Cond.fieldLink "SessionServer$Code" (11 : Nat) "SessionServer$Code" "op" "[I") ∈ gG := gG_t (gG_3 (List.mem_of_getElem? (i := 6) rfl)) rfl
theorem q_490 : (Jvm.Cond.fieldLink "SessionServer$Code" (15 : Nat) "SessionServer$Code" "left" "[I") ∈ gG := gG_t (gG_3 (List.mem_of_getElem? (i := 10) rfl)) rfl
theorem q_495 : (Jvm.Cond.fieldLink "SessionServer$Code" (18 : Nat) "SessionServer$Code" "right" "[I") ∈ gG := gG_t (gG_3 (List.mem_of_getElem? (i := 15) rfl)) rfl
theorem q_500 : (Jvm.Cond.fieldLink "SessionServer$Code" (21 : Nat) "SessionServer$Code" "begin" "[I") ∈ gG := gG_t (gG_3 (List.mem_of_getElem? (i := 20) rfl)) rfl
theorem q_504 : (Jvm.Cond.fieldLink "SessionServer$Code" (24 : Nat) "SessionServer$Code" "skip" "[I") ∈ gG := gG_t (gG_3 (List.mem_of_getElem? (i := 24) rfl)) rfl
theorem q_507 : (Jvm.Cond.fieldLink "SessionServer$Code" (27 : Nat) "SessionServer$Code" "constant" "[J") ∈ gG := gG_t (gG_3 (List.mem_of_getElem? (i := 27) rfl)) rfl
theorem q_510 : (Jvm.Cond.fieldLink "SessionServer$Code" (31 : Nat) "SessionServer$Code" "from" "[I") ∈ gG := gG_t (gG_3 (List.mem_of_getElem? (i := 30) rfl)) rfl
theorem q_514 : (Jvm.Cond.fieldLink "SessionServer$Code" (34 : Nat) "SessionServer$Code" "to" "[I") ∈ gG := gG_t (gG_3 (List.mem_of_getElem? (i := 34) rfl)) rfl
theorem q_518 : (Jvm.Cond.fieldLink "SessionServer$Code" (37 : Nat) "SessionServer$Code" "type" "[I") ∈ gG := gG_t (gG_3 (List.mem_of_getElem? (i := 38) rfl)) rfl
theorem q_523 : (Jvm.Cond.fieldLink "SessionServer$Code" (40 : Nat) "SessionServer$Code" "parameter" "[I") ∈ gG := gG_t (gG_3 (List.mem_of_getElem? (i := 43) rfl)) rfl
theorem q_559 : (Jvm.Cond.laysFinal "SessionServer$Code" "SessionServer$Code" "op" "[I") ∈ gG := gG_t (gG_3 (List.mem_of_getElem? (i := 79) rfl)) rfl
theorem q_561 : (Jvm.Cond.laysFinal "SessionServer$Code" "SessionServer$Code" "left" "[I") ∈ gG := gG_t (gG_3 (List.mem_of_getElem? (i := 81) rfl)) rfl
theorem q_563 : (Jvm.Cond.laysFinal "SessionServer$Code" "SessionServer$Code" "right" "[I") ∈ gG := gG_t (gG_3 (List.mem_of_getElem? (i := 83) rfl)) rfl
theorem q_565 : (Jvm.Cond.laysFinal "SessionServer$Code" "SessionServer$Code" "begin" "[I") ∈ gG := gG_t (gG_3 (List.mem_of_getElem? (i := 85) rfl)) rfl
theorem q_567 : (Jvm.Cond.laysFinal "SessionServer$Code" "SessionServer$Code" "skip" "[I") ∈ gG := gG_t (gG_3 (List.mem_of_getElem? (i := 87) rfl)) rfl
theorem q_569 : (Jvm.Cond.laysFinal "SessionServer$Code" "SessionServer$Code" "constant" "[J") ∈ gG := gG_t (gG_3 (List.mem_of_getElem? (i := 89) rfl)) rfl
theorem q_571 : (Jvm.Cond.laysFinal "SessionServer$Code" "SessionServer$Code" "from" "[I") ∈ gG := gG_t (gG_3 (List.mem_of_getElem? (i := 91) rfl)) rfl
theorem q_573 : (Jvm.Cond.laysFinal "SessionServer$Code" "SessionServer$Code" "to" "[I") ∈ gG := gG_t (gG_3 (List.mem_of_getElem? (i := 93) rfl)) rfl
theorem q_575 : (Jvm.Cond.laysFinal "SessionServer$Code" "SessionServer$Code" "type" "[I") ∈ gG := gG_t (gG_3 (List.mem_of_getElem? (i := 95) rfl)) rfl
theorem q_577 : (Jvm.Cond.laysFinal "SessionServer$Code" "SessionServer$Code" "parameter" "[I") ∈ gG := gG_t (gG_3 (List.mem_of_getElem? (i := 97) rfl)) rfl
theorem q_579 : (Jvm.Cond.lays "SessionServer$Code" "SessionServer$Code" "size" "I") ∈ gG := gG_t (gG_3 (List.mem_of_getElem? (i := 99) rfl)) rfl
theorem q_581 : (Jvm.Cond.lays "SessionServer$Code" "SessionServer$Code" "exprs" "I") ∈ gG := gG_t (gG_3 (List.mem_of_getElem? (i := 101) rfl)) rfl
theorem q_583 : (Jvm.Cond.lays "SessionServer$Code" "SessionServer$Code" "highest" "I") ∈ gG := gG_t (gG_3 (List.mem_of_getElem? (i := 103) rfl)) rfl
theorem q_585 : (Jvm.Cond.lays "SessionServer$Code" "SessionServer$Code" "whereFrom" "I") ∈ gG := gG_t (gG_3 (List.mem_of_getElem? (i := 105) rfl)) rfl
theorem q_587 : (Jvm.Cond.lays "SessionServer$Code" "SessionServer$Code" "whereTo" "I") ∈ gG := gG_t (gG_3 (List.mem_of_getElem? (i := 107) rfl)) rfl
theorem q_589 : (Jvm.Cond.lays "SessionServer$Code" "SessionServer$Code" "over" "Z") ∈ gG := gG_t (gG_3 (List.mem_of_getElem? (i := 109) rfl)) rfl
theorem q_591 : (Jvm.Cond.lays "SessionServer$Code" "SessionServer$Code" "tooMany" "Z") ∈ gG := gG_t (gG_3 (List.mem_of_getElem? (i := 111) rfl)) rfl
theorem q_593 : (Jvm.Cond.lays "SessionServer$Code" "SessionServer$Code" "aggregates" "Z") ∈ gG := gG_t (gG_3 (List.mem_of_getElem? (i := 113) rfl)) rfl
theorem q_596 : (Jvm.Cond.fieldLink "SessionServer$Statement" (12 : Nat) "SessionServer$Statement" "code" "LSessionServer$Code;") ∈ gG := gG_t (gG_3 (List.mem_of_getElem? (i := 116) rfl)) rfl
theorem q_601 : (Jvm.Cond.fieldLink "SessionServer$Statement" (18 : Nat) "SessionServer$Statement" "slot" "[I") ∈ gG := gG_t (gG_3 (List.mem_of_getElem? (i := 121) rfl)) rfl
theorem q_606 : (Jvm.Cond.fieldLink "SessionServer$Statement" (22 : Nat) "SessionServer$Statement" "alias" "[I") ∈ gG := gG_t (gG_3 (List.mem_of_getElem? (i := 126) rfl)) rfl
theorem q_608 : (Jvm.Cond.fieldLink "SessionServer$Statement" (25 : Nat) "SessionServer$Statement" "serial" "[I") ∈ gG := gG_t (gG_3 (List.mem_of_getElem? (i := 128) rfl)) rfl
theorem q_611 : (Jvm.Cond.fieldLink "SessionServer$Statement" (28 : Nat) "SessionServer$Statement" "column" "[I") ∈ gG := gG_t (gG_3 (List.mem_of_getElem? (i := 131) rfl)) rfl
theorem q_615 : (Jvm.Cond.fieldLink "SessionServer$Statement" (31 : Nat) "SessionServer$Statement" "columnKind" "[I") ∈ gG := gG_t (gG_3 (List.mem_of_getElem? (i := 135) rfl)) rfl
theorem q_617 : (Jvm.Cond.fieldLink "SessionServer$Statement" (34 : Nat) "SessionServer$Statement" "rowEnd" "[I") ∈ gG := gG_t (gG_3 (List.mem_of_getElem? (i := 137) rfl)) rfl
theorem q_621 : (Jvm.Cond.fieldLink "SessionServer$Statement" (37 : Nat) "SessionServer$Statement" "group" "[I") ∈ gG := gG_t (gG_3 (List.mem_of_getElem? (i := 141) rfl)) rfl
theorem q_625 : (Jvm.Cond.fieldLink "SessionServer$Statement" (40 : Nat) "SessionServer$Statement" "order" "[I") ∈ gG := gG_t (gG_3 (List.mem_of_getElem? (i := 145) rfl)) rfl
theorem q_669 : (Jvm.Cond.laysFinal "SessionServer$Statement" "SessionServer$Statement" "code" "LSessionServer$Code;") ∈ gG := gG_t (gG_3 (List.mem_of_getElem? (i := 189) rfl)) rfl
theorem q_671 : (Jvm.Cond.laysFinal "SessionServer$Statement" "SessionServer$Statement" "slot" "[I") ∈ gG := gG_t (gG_3 (List.mem_of_getElem? (i := 191) rfl)) rfl
theorem q_673 : (Jvm.Cond.laysFinal "SessionServer$Statement" "SessionServer$Statement" "alias" "[I") ∈ gG := gG_t (gG_3 (List.mem_of_getElem? (i := 193) rfl)) rfl
theorem q_675 : (Jvm.Cond.laysFinal "SessionServer$Statement" "SessionServer$Statement" "serial" "[I") ∈ gG := gG_t (gG_3 (List.mem_of_getElem? (i := 195) rfl)) rfl
theorem q_677 : (Jvm.Cond.laysFinal "SessionServer$Statement" "SessionServer$Statement" "column" "[I") ∈ gG := gG_t (gG_3 (List.mem_of_getElem? (i := 197) rfl)) rfl
theorem q_679 : (Jvm.Cond.laysFinal "SessionServer$Statement" "SessionServer$Statement" "columnKind" "[I") ∈ gG := gG_t (gG_3 (List.mem_of_getElem? (i := 199) rfl)) rfl
theorem q_681 : (Jvm.Cond.laysFinal "SessionServer$Statement" "SessionServer$Statement" "rowEnd" "[I") ∈ gG := gG_t (gG_3 (List.mem_of_getElem? (i := 201) rfl)) rfl
theorem q_683 : (Jvm.Cond.laysFinal "SessionServer$Statement" "SessionServer$Statement" "group" "[I") ∈ gG := gG_t (gG_3 (List.mem_of_getElem? (i := 203) rfl)) rfl
theorem q_685 : (Jvm.Cond.laysFinal "SessionServer$Statement" "SessionServer$Statement" "order" "[I") ∈ gG := gG_t (gG_3 (List.mem_of_getElem? (i := 205) rfl)) rfl
theorem q_687 : (Jvm.Cond.lays "SessionServer$Statement" "SessionServer$Statement" "kind" "I") ∈ gG := gG_t (gG_3 (List.mem_of_getElem? (i := 207) rfl)) rfl
theorem q_689 : (Jvm.Cond.lays "SessionServer$Statement" "SessionServer$Statement" "body" "I") ∈ gG := gG_t (gG_3 (List.mem_of_getElem? (i := 209) rfl)) rfl
theorem q_691 : (Jvm.Cond.lays "SessionServer$Statement" "SessionServer$Statement" "name" "I") ∈ gG := gG_t (gG_3 (List.mem_of_getElem? (i := 211) rfl)) rfl
theorem q_693 : (Jvm.Cond.lays "SessionServer$Statement" "SessionServer$Statement" "mode" "I") ∈ gG := gG_t (gG_3 (List.mem_of_getElem? (i := 213) rfl)) rfl
theorem q_695 : (Jvm.Cond.lays "SessionServer$Statement" "SessionServer$Statement" "tables" "I") ∈ gG := gG_t (gG_3 (List.mem_of_getElem? (i := 215) rfl)) rfl
theorem q_697 : (Jvm.Cond.lays "SessionServer$Statement" "SessionServer$Statement" "columns" "I") ∈ gG := gG_t (gG_3 (List.mem_of_getElem? (i := 217) rfl)) rfl
theorem q_699 : (Jvm.Cond.lays "SessionServer$Statement" "SessionServer$Statement" "rows" "I") ∈ gG := gG_t (gG_3 (List.mem_of_getElem? (i := 219) rfl)) rfl
theorem q_701 : (Jvm.Cond.lays "SessionServer$Statement" "SessionServer$Statement" "groups" "I") ∈ gG := gG_t (gG_3 (List.mem_of_getElem? (i := 221) rfl)) rfl
theorem q_703 : (Jvm.Cond.lays "SessionServer$Statement" "SessionServer$Statement" "orders" "I") ∈ gG := gG_t (gG_3 (List.mem_of_getElem? (i := 223) rfl)) rfl
theorem q_705 : (Jvm.Cond.lays "SessionServer$Statement" "SessionServer$Statement" "distinct" "Z") ∈ gG := gG_t (gG_3 (List.mem_of_getElem? (i := 225) rfl)) rfl
theorem q_707 : (Jvm.Cond.lays "SessionServer$Statement" "SessionServer$Statement" "limit" "J") ∈ gG := gG_t (gG_3 (List.mem_of_getElem? (i := 227) rfl)) rfl
theorem q_710 : (Jvm.Cond.classLink "SessionServer$Session" (18 : Nat) "SessionServer$Work") ∈ gG := gG_t (gG_3 (List.mem_of_getElem? (i := 230) rfl)) rfl
theorem q_711 : (Jvm.Cond.instantiable "SessionServer$Work" (14 : Nat)) ∈ gG := gG_t (gG_3 (List.mem_of_getElem? (i := 231) rfl)) rfl
theorem q_713 : (Jvm.Cond.instanceMethod ({ cls := "SessionServer$Work", name := "<init>", desc := "()V" } : Jvm.MethodName)) ∈ gG := gG_t (gG_3 (List.mem_of_getElem? (i := 233) rfl)) rfl
theorem q_714 : (Jvm.Cond.code ({ cls := "SessionServer$Work", name := "<init>", desc := "()V" } : Jvm.MethodName) prog_13_method_1_code (1 : Nat) (Option.none : Option Jvm.ClassFile.FieldType)) ∈ gG := gG_t (gG_3 (List.mem_of_getElem? (i := 234) rfl)) rfl
theorem q_715 : (Jvm.Cond.methodLink "SessionServer$Work" (3 : Nat) ({ cls := "java/lang/Object", name := "<init>", desc := "()V" } : Jvm.MethodName)) ∈ gG := gG_t (gG_3 (List.mem_of_getElem? (i := 235) rfl)) rfl
theorem q_716 : (Jvm.Cond.fieldLink "SessionServer$Work" (9 : Nat) "SessionServer$Work" "out" "[B") ∈ gG := gG_t (gG_3 (List.mem_of_getElem? (i := 236) rfl)) rfl
theorem q_718 : (Jvm.Cond.fieldLink "SessionServer$Work" (15 : Nat) "SessionServer$Work" "targets" "[I") ∈ gG := gG_t (gG_3 (List.mem_of_getElem? (i := 238) rfl)) rfl
theorem q_721 : (Jvm.Cond.fieldLink "SessionServer$Work" (19 : Nat) "SessionServer$Work" "row" "[J") ∈ gG := gG_t (gG_4 (List.mem_of_getElem? (i := 1) rfl)) rfl
theorem q_723 : (Jvm.Cond.fieldLink "SessionServer$Work" (23 : Nat) "SessionServer$Work" "values" "[J") ∈ gG := gG_t (gG_4 (List.mem_of_getElem? (i := 3) rfl)) rfl
theorem q_726 : (Jvm.Cond.fieldLink "SessionServer$Work" (26 : Nat) "SessionServer$Work" "valueType" "[I") ∈ gG := gG_t (gG_4 (List.mem_of_getElem? (i := 6) rfl)) rfl
theorem q_730 : (Jvm.Cond.fieldLink "SessionServer$Work" (29 : Nat) "SessionServer$Work" "length" "I") ∈ gG := gG_t (gG_4 (List.mem_of_getElem? (i := 10) rfl)) rfl
theorem q_732 : (Jvm.Cond.fieldLink "SessionServer$Work" (33 : Nat) "SessionServer$Work" "taken" "I") ∈ gG := gG_t (gG_4 (List.mem_of_getElem? (i := 12) rfl)) rfl
theorem q_734 : (Jvm.Cond.fieldLink "SessionServer$Work" (36 : Nat) "SessionServer$Work" "over" "Z") ∈ gG := gG_t (gG_4 (List.mem_of_getElem? (i := 14) rfl)) rfl
theorem q_736 : (Jvm.Cond.fieldLink "SessionServer$Work" (40 : Nat) "SessionServer$Work" "phase" "I") ∈ gG := gG_t (gG_4 (List.mem_of_getElem? (i := 16) rfl)) rfl
theorem q_739 : (Jvm.Cond.fieldLink "SessionServer$Work" (43 : Nat) "SessionServer$Work" "at" "I") ∈ gG := gG_t (gG_4 (List.mem_of_getElem? (i := 19) rfl)) rfl
theorem q_741 : (Jvm.Cond.fieldLink "SessionServer$Work" (46 : Nat) "SessionServer$Work" "rows" "I") ∈ gG := gG_t (gG_4 (List.mem_of_getElem? (i := 21) rfl)) rfl
theorem q_744 : (Jvm.Cond.fieldLink "SessionServer$Work" (49 : Nat) "SessionServer$Work" "done" "I") ∈ gG := gG_t (gG_4 (List.mem_of_getElem? (i := 24) rfl)) rfl
theorem q_746 : (Jvm.Cond.fieldLink "SessionServer$Work" (52 : Nat) "SessionServer$Work" "granted" "Z") ∈ gG := gG_t (gG_4 (List.mem_of_getElem? (i := 26) rfl)) rfl
theorem q_748 : (Jvm.Cond.laysFinal "SessionServer$Work" "SessionServer$Work" "out" "[B") ∈ gG := gG_t (gG_4 (List.mem_of_getElem? (i := 28) rfl)) rfl
theorem q_750 : (Jvm.Cond.laysFinal "SessionServer$Work" "SessionServer$Work" "targets" "[I") ∈ gG := gG_t (gG_4 (List.mem_of_getElem? (i := 30) rfl)) rfl
theorem q_752 : (Jvm.Cond.laysFinal "SessionServer$Work" "SessionServer$Work" "row" "[J") ∈ gG := gG_t (gG_4 (List.mem_of_getElem? (i := 32) rfl)) rfl
theorem q_754 : (Jvm.Cond.laysFinal "SessionServer$Work" "SessionServer$Work" "values" "[J") ∈ gG := gG_t (gG_4 (List.mem_of_getElem? (i := 34) rfl)) rfl
theorem q_756 : (Jvm.Cond.laysFinal "SessionServer$Work" "SessionServer$Work" "valueType" "[I") ∈ gG := gG_t (gG_4 (List.mem_of_getElem? (i := 36) rfl)) rfl
theorem q_758 : (Jvm.Cond.lays "SessionServer$Work" "SessionServer$Work" "cells" "[J") ∈ gG := gG_t (gG_4 (List.mem_of_getElem? (i := 38) rfl)) rfl
theorem q_760 : (Jvm.Cond.lays "SessionServer$Work" "SessionServer$Work" "length" "I") ∈ gG := gG_t (gG_4 (List.mem_of_getElem? (i := 40) rfl)) rfl
theorem q_762 : (Jvm.Cond.lays "SessionServer$Work" "SessionServer$Work" "taken" "I") ∈ gG := gG_t (gG_4 (List.mem_of_getElem? (i := 42) rfl)) rfl
theorem q_764 : (Jvm.Cond.lays "SessionServer$Work" "SessionServer$Work" "over" "Z") ∈ gG := gG_t (gG_4 (List.mem_of_getElem? (i := 44) rfl)) rfl
theorem q_766 : (Jvm.Cond.lays "SessionServer$Work" "SessionServer$Work" "phase" "I") ∈ gG := gG_t (gG_4 (List.mem_of_getElem? (i := 46) rfl)) rfl
theorem q_768 : (Jvm.Cond.lays "SessionServer$Work" "SessionServer$Work" "at" "I") ∈ gG := gG_t (gG_4 (List.mem_of_getElem? (i := 48) rfl)) rfl
theorem q_770 : (Jvm.Cond.lays "SessionServer$Work" "SessionServer$Work" "rows" "I") ∈ gG := gG_t (gG_4 (List.mem_of_getElem? (i := 50) rfl)) rfl
theorem q_772 : (Jvm.Cond.lays "SessionServer$Work" "SessionServer$Work" "done" "I") ∈ gG := gG_t (gG_4 (List.mem_of_getElem? (i := 52) rfl)) rfl
theorem q_774 : (Jvm.Cond.lays "SessionServer$Work" "SessionServer$Work" "granted" "Z") ∈ gG := gG_t (gG_4 (List.mem_of_getElem? (i := 54) rfl)) rfl
theorem q_777 : (Jvm.Cond.classLink "SessionServer$Session" (38 : Nat) "[B") ∈ gG := gG_t (gG_4 (List.mem_of_getElem? (i := 57) rfl)) rfl
theorem q_779 : (Jvm.Cond.classLink "SessionServer$Session" (44 : Nat) "[[I") ∈ gG := gG_t (gG_4 (List.mem_of_getElem? (i := 59) rfl)) rfl
theorem q_781 : (Jvm.Cond.fieldLink "SessionServer$Session" (59 : Nat) "SessionServer$Session" "id" "I") ∈ gG := gG_t (gG_4 (List.mem_of_getElem? (i := 61) rfl)) rfl
theorem q_784 : (Jvm.Cond.fieldLink "SessionServer$Session" (12 : Nat) "SessionServer$Session" "st" "LSessionServer$Statement;") ∈ gG := gG_t (gG_4 (List.mem_of_getElem? (i := 64) rfl)) rfl
theorem q_787 : (Jvm.Cond.fieldLink "SessionServer$Session" (21 : Nat) "SessionServer$Session" "work" "LSessionServer$Work;") ∈ gG := gG_t (gG_4 (List.mem_of_getElem? (i := 67) rfl)) rfl
theorem q_790 : (Jvm.Cond.fieldLink "SessionServer$Session" (25 : Nat) "SessionServer$Session" "savepoint" "[I") ∈ gG := gG_t (gG_4 (List.mem_of_getElem? (i := 70) rfl)) rfl
theorem q_792 : (Jvm.Cond.fieldLink "SessionServer$Session" (29 : Nat) "SessionServer$Session" "number" "[I") ∈ gG := gG_t (gG_4 (List.mem_of_getElem? (i := 72) rfl)) rfl
theorem q_795 : (Jvm.Cond.fieldLink "SessionServer$Session" (32 : Nat) "SessionServer$Session" "held" "[I") ∈ gG := gG_t (gG_4 (List.mem_of_getElem? (i := 75) rfl)) rfl
theorem q_797 : (Jvm.Cond.fieldLink "SessionServer$Session" (35 : Nat) "SessionServer$Session" "preparedName" "[I") ∈ gG := gG_t (gG_4 (List.mem_of_getElem? (i := 77) rfl)) rfl
theorem q_799 : (Jvm.Cond.fieldLink "SessionServer$Session" (40 : Nat) "SessionServer$Session" "preparedText" "[[B") ∈ gG := gG_t (gG_4 (List.mem_of_getElem? (i := 79) rfl)) rfl
theorem q_801 : (Jvm.Cond.fieldLink "SessionServer$Session" (46 : Nat) "SessionServer$Session" "preparedTypes" "[[I") ∈ gG := gG_t (gG_4 (List.mem_of_getElem? (i := 81) rfl)) rfl
theorem q_803 : (Jvm.Cond.fieldLink "SessionServer$Session" (65 : Nat) "SessionServer$Session" "open" "Z") ∈ gG := gG_t (gG_4 (List.mem_of_getElem? (i := 83) rfl)) rfl
theorem q_804 : (Jvm.Cond.fieldLink "SessionServer" (92 : Nat) "SessionServer$Session" "open" "Z") ∈ gG := gG_t (gG_4 (List.mem_of_getElem? (i := 84) rfl)) rfl
theorem q_805 : (Jvm.Cond.fieldLink "SessionServer$Session" (49 : Nat) "SessionServer$Session" "mode" "I") ∈ gG := gG_t (gG_4 (List.mem_of_getElem? (i := 85) rfl)) rfl
theorem q_807 : (Jvm.Cond.fieldLink "SessionServer$Session" (53 : Nat) "SessionServer$Session" "isolation" "I") ∈ gG := gG_t (gG_4 (List.mem_of_getElem? (i := 87) rfl)) rfl
theorem q_809 : (Jvm.Cond.fieldLink "SessionServer$Session" (91 : Nat) "SessionServer$Session" "top" "I") ∈ gG := gG_t (gG_4 (List.mem_of_getElem? (i := 89) rfl)) rfl
theorem q_812 : (Jvm.Cond.fieldLink "SessionServer$Session" (85 : Nat) "SessionServer$Session" "command" "I") ∈ gG := gG_t (gG_4 (List.mem_of_getElem? (i := 92) rfl)) rfl
theorem q_815 : (Jvm.Cond.fieldLink "SessionServer$Session" (88 : Nat) "SessionServer$Session" "snapshot" "I") ∈ gG := gG_t (gG_4 (List.mem_of_getElem? (i := 95) rfl)) rfl
theorem q_818 : (Jvm.Cond.fieldLink "SessionServer$Session" (56 : Nat) "SessionServer$Session" "guard" "I") ∈ gG := gG_t (gG_4 (List.mem_of_getElem? (i := 98) rfl)) rfl
theorem q_822 : (Jvm.Cond.fieldLink "SessionServer$Session" (69 : Nat) "SessionServer$Session" "waitOrder" "I") ∈ gG := gG_t (gG_4 (List.mem_of_getElem? (i := 102) rfl)) rfl
theorem q_823 : (Jvm.Cond.fieldLink "SessionServer" (110 : Nat) "SessionServer$Session" "waitOrder" "I") ∈ gG := gG_t (gG_4 (List.mem_of_getElem? (i := 103) rfl)) rfl
theorem q_825 : (Jvm.Cond.laysFinal "SessionServer$Session" "SessionServer$Session" "id" "I") ∈ gG := gG_t (gG_4 (List.mem_of_getElem? (i := 105) rfl)) rfl
theorem q_827 : (Jvm.Cond.laysFinal "SessionServer$Session" "SessionServer$Session" "st" "LSessionServer$Statement;") ∈ gG := gG_t (gG_4 (List.mem_of_getElem? (i := 107) rfl)) rfl
theorem q_829 : (Jvm.Cond.laysFinal "SessionServer$Session" "SessionServer$Session" "work" "LSessionServer$Work;") ∈ gG := gG_t (gG_4 (List.mem_of_getElem? (i := 109) rfl)) rfl
theorem q_831 : (Jvm.Cond.laysFinal "SessionServer$Session" "SessionServer$Session" "savepoint" "[I") ∈ gG := gG_t (gG_4 (List.mem_of_getElem? (i := 111) rfl)) rfl
theorem q_833 : (Jvm.Cond.laysFinal "SessionServer$Session" "SessionServer$Session" "number" "[I") ∈ gG := gG_t (gG_4 (List.mem_of_getElem? (i := 113) rfl)) rfl
theorem q_835 : (Jvm.Cond.laysFinal "SessionServer$Session" "SessionServer$Session" "held" "[I") ∈ gG := gG_t (gG_4 (List.mem_of_getElem? (i := 115) rfl)) rfl
theorem q_837 : (Jvm.Cond.laysFinal "SessionServer$Session" "SessionServer$Session" "preparedName" "[I") ∈ gG := gG_t (gG_4 (List.mem_of_getElem? (i := 117) rfl)) rfl
theorem q_839 : (Jvm.Cond.laysFinal "SessionServer$Session" "SessionServer$Session" "preparedText" "[[B") ∈ gG := gG_t (gG_4 (List.mem_of_getElem? (i := 119) rfl)) rfl
theorem q_841 : (Jvm.Cond.laysFinal "SessionServer$Session" "SessionServer$Session" "preparedTypes" "[[I") ∈ gG := gG_t (gG_4 (List.mem_of_getElem? (i := 121) rfl)) rfl
theorem q_843 : (Jvm.Cond.lays "SessionServer$Session" "SessionServer$Session" "open" "Z") ∈ gG := gG_t (gG_4 (List.mem_of_getElem? (i := 123) rfl)) rfl
theorem q_845 : (Jvm.Cond.lays "SessionServer$Session" "SessionServer$Session" "mode" "I") ∈ gG := gG_t (gG_4 (List.mem_of_getElem? (i := 125) rfl)) rfl
theorem q_847 : (Jvm.Cond.lays "SessionServer$Session" "SessionServer$Session" "isolation" "I") ∈ gG := gG_t (gG_4 (List.mem_of_getElem? (i := 127) rfl)) rfl
theorem q_849 : (Jvm.Cond.lays "SessionServer$Session" "SessionServer$Session" "top" "I") ∈ gG := gG_t (gG_4 (List.mem_of_getElem? (i := 129) rfl)) rfl
theorem q_851 : (Jvm.Cond.lays "SessionServer$Session" "SessionServer$Session" "command" "I") ∈ gG := gG_t (gG_4 (List.mem_of_getElem? (i := 131) rfl)) rfl
theorem q_853 : (Jvm.Cond.lays "SessionServer$Session" "SessionServer$Session" "snapshot" "I") ∈ gG := gG_t (gG_4 (List.mem_of_getElem? (i := 133) rfl)) rfl
theorem q_855 : (Jvm.Cond.lays "SessionServer$Session" "SessionServer$Session" "guard" "I") ∈ gG := gG_t (gG_4 (List.mem_of_getElem? (i := 135) rfl)) rfl
theorem q_857 : (Jvm.Cond.lays "SessionServer$Session" "SessionServer$Session" "waitOrder" "I") ∈ gG := gG_t (gG_4 (List.mem_of_getElem? (i := 137) rfl)) rfl
theorem q_859 : (Jvm.Cond.lays "SessionServer$Session" "SessionServer$Session" "waitNumber" "I") ∈ gG := gG_t (gG_4 (List.mem_of_getElem? (i := 139) rfl)) rfl
theorem q_862 : (Jvm.Cond.fieldLink "SessionServer" (9 : Nat) "SessionServer" "tape" "[B") ∈ gG := gG_t (gG_4 (List.mem_of_getElem? (i := 142) rfl)) rfl
theorem q_863 : (Jvm.Cond.fieldLink "SessionServer" (15 : Nat) "SessionServer" "sessions" "[LSessionServer$Session;") ∈ gG := gG_t (gG_4 (List.mem_of_getElem? (i := 143) rfl)) rfl
theorem q_864 : (Jvm.Cond.fieldLink "SessionServer" (22 : Nat) "SessionServer" "store" "LSessionServer$Store;") ∈ gG := gG_t (gG_4 (List.mem_of_getElem? (i := 144) rfl)) rfl
theorem q_865 : (Jvm.Cond.fieldLink "SessionServer" (29 : Nat) "SessionServer" "ledger" "LSessionServer$Ledger;") ∈ gG := gG_t (gG_4 (List.mem_of_getElem? (i := 145) rfl)) rfl
theorem q_866 : (Jvm.Cond.fieldLink "SessionServer" (38 : Nat) "SessionServer" "serial" "LSessionServer$Serial;") ∈ gG := gG_t (gG_4 (List.mem_of_getElem? (i := 146) rfl)) rfl
theorem q_867 : (Jvm.Cond.fieldLink "SessionServer" (47 : Nat) "SessionServer" "machine" "LSessionServer$Machine;") ∈ gG := gG_t (gG_4 (List.mem_of_getElem? (i := 147) rfl)) rfl
theorem q_868 : (Jvm.Cond.fieldLink "SessionServer" (56 : Nat) "SessionServer" "finder" "LSessionServer$Finder;") ∈ gG := gG_t (gG_4 (List.mem_of_getElem? (i := 148) rfl)) rfl
theorem q_869 : (Jvm.Cond.fieldLink "SessionServer" (63 : Nat) "SessionServer" "parser" "LSessionServer$Parser;") ∈ gG := gG_t (gG_4 (List.mem_of_getElem? (i := 149) rfl)) rfl
theorem q_870 : (Jvm.Cond.fieldLink "SessionServer" (70 : Nat) "SessionServer" "checker" "LSessionServer$Checker;") ∈ gG := gG_t (gG_4 (List.mem_of_getElem? (i := 150) rfl)) rfl
theorem q_871 : (Jvm.Cond.fieldLink "SessionServer" (81 : Nat) "SessionServer" "taped" "I") ∈ gG := gG_t (gG_4 (List.mem_of_getElem? (i := 151) rfl)) rfl
theorem q_873 : (Jvm.Cond.fieldLink "SessionServer" (74 : Nat) "SessionServer" "up" "Z") ∈ gG := gG_t (gG_4 (List.mem_of_getElem? (i := 153) rfl)) rfl
theorem q_874 : (Jvm.Cond.laysFinal "SessionServer" "SessionServer" "tape" "[B") ∈ gG := gG_t (gG_4 (List.mem_of_getElem? (i := 154) rfl)) rfl
theorem q_876 : (Jvm.Cond.laysFinal "SessionServer" "SessionServer" "sessions" "[LSessionServer$Session;") ∈ gG := gG_t (gG_4 (List.mem_of_getElem? (i := 156) rfl)) rfl
theorem q_878 : (Jvm.Cond.laysFinal "SessionServer" "SessionServer" "store" "LSessionServer$Store;") ∈ gG := gG_t (gG_4 (List.mem_of_getElem? (i := 158) rfl)) rfl
theorem q_880 : (Jvm.Cond.laysFinal "SessionServer" "SessionServer" "ledger" "LSessionServer$Ledger;") ∈ gG := gG_t (gG_4 (List.mem_of_getElem? (i := 160) rfl)) rfl
theorem q_882 : (Jvm.Cond.laysFinal "SessionServer" "SessionServer" "serial" "LSessionServer$Serial;") ∈ gG := gG_t (gG_4 (List.mem_of_getElem? (i := 162) rfl)) rfl
theorem q_884 : (Jvm.Cond.laysFinal "SessionServer" "SessionServer" "machine" "LSessionServer$Machine;") ∈ gG := gG_t (gG_4 (List.mem_of_getElem? (i := 164) rfl)) rfl
theorem q_886 : (Jvm.Cond.laysFinal "SessionServer" "SessionServer" "finder" "LSessionServer$Finder;") ∈ gG := gG_t (gG_4 (List.mem_of_getElem? (i := 166) rfl)) rfl
theorem q_888 : (Jvm.Cond.laysFinal "SessionServer" "SessionServer" "parser" "LSessionServer$Parser;") ∈ gG := gG_t (gG_4 (List.mem_of_getElem? (i := 168) rfl)) rfl
theorem q_890 : (Jvm.Cond.laysFinal "SessionServer" "SessionServer" "checker" "LSessionServer$Checker;") ∈ gG := gG_t (gG_4 (List.mem_of_getElem? (i := 170) rfl)) rfl
theorem q_892 : (Jvm.Cond.lays "SessionServer" "SessionServer" "taped" "I") ∈ gG := gG_t (gG_4 (List.mem_of_getElem? (i := 172) rfl)) rfl
theorem q_894 : (Jvm.Cond.lays "SessionServer" "SessionServer" "waitsBegun" "I") ∈ gG := gG_t (gG_4 (List.mem_of_getElem? (i := 174) rfl)) rfl
theorem q_896 : (Jvm.Cond.lays "SessionServer" "SessionServer" "up" "Z") ∈ gG := gG_t (gG_4 (List.mem_of_getElem? (i := 176) rfl)) rfl
theorem q_899 : (Jvm.Cond.methodLink "SessionServerLaw" (13 : Nat) ({ cls := "SessionServer", name := "feed", desc := "(IIIII)Z" } : Jvm.MethodName)) ∈ gG := gG_t (gG_4 (List.mem_of_getElem? (i := 179) rfl)) rfl
theorem q_900 : (Jvm.Cond.instanceMethod ({ cls := "SessionServer", name := "feed", desc := "(IIIII)Z" } : Jvm.MethodName)) ∈ gG := gG_t (gG_4 (List.mem_of_getElem? (i := 180) rfl)) rfl
theorem q_902 : (Jvm.Cond.code ({ cls := "SessionServer", name := "feed", desc := "(IIIII)Z" } : Jvm.MethodName) prog_1_method_2_code (6 : Nat) (Option.some Jvm.ClassFile.FieldType.boolean)) ∈ gG := gG_t (gG_4 (List.mem_of_getElem? (i := 182) rfl)) rfl
theorem q_903 : (Jvm.Cond.methodLink "SessionServer" (85 : Nat) ({ cls := "SessionServer", name := "tapeInt", desc := "(I)V" } : Jvm.MethodName)) ∈ gG := gG_t (gG_4 (List.mem_of_getElem? (i := 183) rfl)) rfl
theorem q_905 : (Jvm.Cond.instanceMethod ({ cls := "SessionServer", name := "tapeInt", desc := "(I)V" } : Jvm.MethodName)) ∈ gG := gG_t (gG_4 (List.mem_of_getElem? (i := 185) rfl)) rfl
theorem q_906 : (Jvm.Cond.code ({ cls := "SessionServer", name := "tapeInt", desc := "(I)V" } : Jvm.MethodName) prog_1_method_3_code (3 : Nat) (Option.none : Option Jvm.ClassFile.FieldType)) ∈ gG := gG_t (gG_4 (List.mem_of_getElem? (i := 186) rfl)) rfl
theorem q_907 : (Jvm.Cond.methodLink "SessionServerLaw" (18 : Nat) ({ cls := "SessionServer", name := "open", desc := "(I)Z" } : Jvm.MethodName)) ∈ gG := gG_t (gG_4 (List.mem_of_getElem? (i := 187) rfl)) rfl
theorem q_908 : (Jvm.Cond.instanceMethod ({ cls := "SessionServer", name := "open", desc := "(I)Z" } : Jvm.MethodName)) ∈ gG := gG_t (gG_4 (List.mem_of_getElem? (i := 188) rfl)) rfl
theorem q_910 : (Jvm.Cond.code ({ cls := "SessionServer", name := "open", desc := "(I)Z" } : Jvm.MethodName) prog_1_method_4_code (2 : Nat) (Option.some Jvm.ClassFile.FieldType.boolean)) ∈ gG := gG_t (gG_4 (List.mem_of_getElem? (i := 190) rfl)) rfl
theorem q_911 : (Jvm.Cond.methodLink "SessionServer" (88 : Nat) ({ cls := "SessionServer", name := "isSession", desc := "(I)Z" } : Jvm.MethodName)) ∈ gG := gG_t (gG_4 (List.mem_of_getElem? (i := 191) rfl)) rfl
theorem q_912 : (Jvm.Cond.static ({ cls := "SessionServer", name := "isSession", desc := "(I)Z" } : Jvm.MethodName)) ∈ gG := gG_t (gG_4 (List.mem_of_getElem? (i := 192) rfl)) rfl
theorem q_913 : (Jvm.Cond.code ({ cls := "SessionServer", name := "isSession", desc := "(I)Z" } : Jvm.MethodName) prog_1_method_15_code (1 : Nat) (Option.some Jvm.ClassFile.FieldType.boolean)) ∈ gG := gG_t (gG_4 (List.mem_of_getElem? (i := 193) rfl)) rfl
theorem q_914 : (Jvm.Cond.methodLink "SessionServer" (95 : Nat) ({ cls := "SessionServer$Session", name := "reset", desc := "()V" } : Jvm.MethodName)) ∈ gG := gG_t (gG_4 (List.mem_of_getElem? (i := 194) rfl)) rfl
theorem q_915 : (Jvm.Cond.instanceMethod ({ cls := "SessionServer$Session", name := "reset", desc := "()V" } : Jvm.MethodName)) ∈ gG := gG_t (gG_4 (List.mem_of_getElem? (i := 195) rfl)) rfl
theorem q_917 : (Jvm.Cond.code ({ cls := "SessionServer$Session", name := "reset", desc := "()V" } : Jvm.MethodName) prog_9_method_2_code (1 : Nat) (Option.none : Option Jvm.ClassFile.FieldType)) ∈ gG := gG_t (gG_4 (List.mem_of_getElem? (i := 197) rfl)) rfl
theorem q_918 : (Jvm.Cond.methodLink "SessionServer$Session" (62 : Nat) ({ cls := "SessionServer$Session", name := "endTransaction", desc := "()V" } : Jvm.MethodName)) ∈ gG := gG_t (gG_4 (List.mem_of_getElem? (i := 198) rfl)) rfl
theorem q_919 : (Jvm.Cond.instanceMethod ({ cls := "SessionServer$Session", name := "endTransaction", desc := "()V" } : Jvm.MethodName)) ∈ gG := gG_t (gG_4 (List.mem_of_getElem? (i := 199) rfl)) rfl
theorem q_921 : (Jvm.Cond.code ({ cls := "SessionServer$Session", name := "endTransaction", desc := "()V" } : Jvm.MethodName) prog_9_method_3_code (1 : Nat) (Option.none : Option Jvm.ClassFile.FieldType)) ∈ gG := gG_t (gG_4 (List.mem_of_getElem? (i := 201) rfl)) rfl
theorem q_922 : (Jvm.Cond.methodLink "SessionServer$Session" (81 : Nat) ({ cls := "SessionServer$Session", name := "clearLevels", desc := "(I)V" } : Jvm.MethodName)) ∈ gG := gG_t (gG_4 (List.mem_of_getElem? (i := 202) rfl)) rfl
theorem q_923 : (Jvm.Cond.instanceMethod ({ cls := "SessionServer$Session", name := "clearLevels", desc := "(I)V" } : Jvm.MethodName)) ∈ gG := gG_t (gG_4 (List.mem_of_getElem? (i := 203) rfl)) rfl
theorem q_925 : (Jvm.Cond.code ({ cls := "SessionServer$Session", name := "clearLevels", desc := "(I)V" } : Jvm.MethodName) prog_9_method_4_code (4 : Nat) (Option.none : Option Jvm.ClassFile.FieldType)) ∈ gG := gG_t (gG_4 (List.mem_of_getElem? (i := 205) rfl)) rfl
theorem q_926 : (Jvm.Cond.methodLink "SessionServer$Session" (72 : Nat) ({ cls := "SessionServer$Work", name := "clear", desc := "()V" } : Jvm.MethodName)) ∈ gG := gG_t (gG_4 (List.mem_of_getElem? (i := 206) rfl)) rfl
theorem q_927 : (Jvm.Cond.instanceMethod ({ cls := "SessionServer$Work", name := "clear", desc := "()V" } : Jvm.MethodName)) ∈ gG := gG_t (gG_4 (List.mem_of_getElem? (i := 207) rfl)) rfl
theorem q_929 : (Jvm.Cond.code ({ cls := "SessionServer$Work", name := "clear", desc := "()V" } : Jvm.MethodName) prog_13_method_2_code (1 : Nat) (Option.none : Option Jvm.ClassFile.FieldType)) ∈ gG := gG_t (gG_4 (List.mem_of_getElem? (i := 209) rfl)) rfl
theorem q_930 : (Jvm.Cond.methodLink "SessionServer$Session" (75 : Nat) ({ cls := "java/util/Arrays", name := "fill", desc := "([II)V" } : Jvm.MethodName)) ∈ gG := gG_t (gG_4 (List.mem_of_getElem? (i := 210) rfl)) rfl
theorem q_931 : (Jvm.Cond.static ({ cls := "java/util/Arrays", name := "fill", desc := "([II)V" } : Jvm.MethodName)) ∈ gG := gG_t (gG_4 (List.mem_of_getElem? (i := 211) rfl)) rfl
theorem q_932 : (Jvm.Cond.code ({ cls := "java/util/Arrays", name := "fill", desc := "([II)V" } : Jvm.MethodName) prog_29_method_103_code (4 : Nat) (Option.none : Option Jvm.ClassFile.FieldType)) ∈ gG := gG_t (gG_4 (List.mem_of_getElem? (i := 212) rfl)) rfl
theorem q_933 : (Jvm.Cond.methodLink "SessionServerLaw" (23 : Nat) ({ cls := "SessionServer", name := "close", desc := "(I)Z" } : Jvm.MethodName)) ∈ gG := gG_t (gG_4 (List.mem_of_getElem? (i := 213) rfl)) rfl
theorem q_934 : (Jvm.Cond.instanceMethod ({ cls := "SessionServer", name := "close", desc := "(I)Z" } : Jvm.MethodName)) ∈ gG := gG_t (gG_4 (List.mem_of_getElem? (i := 214) rfl)) rfl
theorem q_936 : (Jvm.Cond.code ({ cls := "SessionServer", name := "close", desc := "(I)Z" } : Jvm.MethodName) prog_1_method_5_code (2 : Nat) (Option.some Jvm.ClassFile.FieldType.boolean)) ∈ gG := gG_t (gG_4 (List.mem_of_getElem? (i := 216) rfl)) rfl
theorem q_1376 : (Jvm.Cond.instanceMethod ({ cls := "SessionServer$Store", name := "tablesThere", desc := "()I" } : Jvm.MethodName)) ∈ gG := gG_t (gG_6 (List.mem_of_getElem? (i := 176) rfl)) rfl
theorem q_1378 : (Jvm.Cond.code ({ cls := "SessionServer$Store", name := "tablesThere", desc := "()I" } : Jvm.MethodName) prog_11_method_3_code (3 : Nat) (Option.some Jvm.ClassFile.FieldType.int)) ∈ gG := gG_t (gG_6 (List.mem_of_getElem? (i := 178) rfl)) rfl
theorem q_1574 : (Jvm.Cond.methodLink "SessionServerLaw" (27 : Nat) ({ cls := "SessionServer", name := "send", desc := "(II)I" } : Jvm.MethodName)) ∈ gG := gG_t (gG_7 (List.mem_of_getElem? (i := 134) rfl)) rfl
theorem q_1575 : (Jvm.Cond.instanceMethod ({ cls := "SessionServer", name := "send", desc := "(II)I" } : Jvm.MethodName)) ∈ gG := gG_t (gG_7 (List.mem_of_getElem? (i := 135) rfl)) rfl
theorem q_1577 : (Jvm.Cond.code ({ cls := "SessionServer", name := "send", desc := "(II)I" } : Jvm.MethodName) prog_1_method_6_code (4 : Nat) (Option.some Jvm.ClassFile.FieldType.int)) ∈ gG := gG_t (gG_7 (List.mem_of_getElem? (i := 137) rfl)) rfl
theorem q_1919 : (Jvm.Cond.methodLink "SessionServerLaw" (32 : Nat) ({ cls := "SessionServer", name := "fetch", desc := "(I)J" } : Jvm.MethodName)) ∈ gG := gG_t (gG_8 (List.mem_of_getElem? (i := 239) rfl)) rfl
theorem q_1920 : (Jvm.Cond.instanceMethod ({ cls := "SessionServer", name := "fetch", desc := "(I)J" } : Jvm.MethodName)) ∈ gG := gG_t (gG_9 (List.mem_of_getElem? (i := 0) rfl)) rfl
theorem q_1922 : (Jvm.Cond.code ({ cls := "SessionServer", name := "fetch", desc := "(I)J" } : Jvm.MethodName) prog_1_method_7_code (7 : Nat) (Option.some Jvm.ClassFile.FieldType.long)) ∈ gG := gG_t (gG_9 (List.mem_of_getElem? (i := 2) rfl)) rfl
theorem q_1924 : (Jvm.Cond.methodLink "SessionServerLaw" (37 : Nat) ({ cls := "SessionServer", name := "cancel", desc := "(I)Z" } : Jvm.MethodName)) ∈ gG := gG_t (gG_9 (List.mem_of_getElem? (i := 4) rfl)) rfl
theorem q_1925 : (Jvm.Cond.instanceMethod ({ cls := "SessionServer", name := "cancel", desc := "(I)Z" } : Jvm.MethodName)) ∈ gG := gG_t (gG_9 (List.mem_of_getElem? (i := 5) rfl)) rfl
theorem q_1927 : (Jvm.Cond.code ({ cls := "SessionServer", name := "cancel", desc := "(I)Z" } : Jvm.MethodName) prog_1_method_8_code (2 : Nat) (Option.some Jvm.ClassFile.FieldType.boolean)) ∈ gG := gG_t (gG_9 (List.mem_of_getElem? (i := 7) rfl)) rfl
theorem q_1928 : (Jvm.Cond.methodLink "SessionServerLaw" (41 : Nat) ({ cls := "SessionServer", name := "charge", desc := "(I)Z" } : Jvm.MethodName)) ∈ gG := gG_t (gG_9 (List.mem_of_getElem? (i := 8) rfl)) rfl
theorem q_1929 : (Jvm.Cond.instanceMethod ({ cls := "SessionServer", name := "charge", desc := "(I)Z" } : Jvm.MethodName)) ∈ gG := gG_t (gG_9 (List.mem_of_getElem? (i := 9) rfl)) rfl
theorem q_1931 : (Jvm.Cond.code ({ cls := "SessionServer", name := "charge", desc := "(I)Z" } : Jvm.MethodName) prog_1_method_9_code (2 : Nat) (Option.some Jvm.ClassFile.FieldType.boolean)) ∈ gG := gG_t (gG_9 (List.mem_of_getElem? (i := 11) rfl)) rfl
theorem q_1932 : (Jvm.Cond.methodLink "SessionServerLaw" (45 : Nat) ({ cls := "SessionServer", name := "start", desc := "()Z" } : Jvm.MethodName)) ∈ gG := gG_t (gG_9 (List.mem_of_getElem? (i := 12) rfl)) rfl
theorem q_1933 : (Jvm.Cond.instanceMethod ({ cls := "SessionServer", name := "start", desc := "()Z" } : Jvm.MethodName)) ∈ gG := gG_t (gG_9 (List.mem_of_getElem? (i := 13) rfl)) rfl
theorem q_1935 : (Jvm.Cond.code ({ cls := "SessionServer", name := "start", desc := "()Z" } : Jvm.MethodName) prog_1_method_10_code (2 : Nat) (Option.some Jvm.ClassFile.FieldType.boolean)) ∈ gG := gG_t (gG_9 (List.mem_of_getElem? (i := 15) rfl)) rfl
theorem q_1956 : (Jvm.Cond.methodLink "SessionServerLaw" (50 : Nat) ({ cls := "SessionServer", name := "state", desc := "(I)I" } : Jvm.MethodName)) ∈ gG := gG_t (gG_9 (List.mem_of_getElem? (i := 36) rfl)) rfl
theorem q_1957 : (Jvm.Cond.instanceMethod ({ cls := "SessionServer", name := "state", desc := "(I)I" } : Jvm.MethodName)) ∈ gG := gG_t (gG_9 (List.mem_of_getElem? (i := 37) rfl)) rfl
theorem q_1959 : (Jvm.Cond.code ({ cls := "SessionServer", name := "state", desc := "(I)I" } : Jvm.MethodName) prog_1_method_11_code (3 : Nat) (Option.some Jvm.ClassFile.FieldType.int)) ∈ gG := gG_t (gG_9 (List.mem_of_getElem? (i := 39) rfl)) rfl
theorem q_1960 : (Jvm.Cond.methodLink "SessionServerLaw" (55 : Nat) ({ cls := "SessionServer", name := "rings", desc := "()I" } : Jvm.MethodName)) ∈ gG := gG_t (gG_9 (List.mem_of_getElem? (i := 40) rfl)) rfl
theorem q_1961 : (Jvm.Cond.instanceMethod ({ cls := "SessionServer", name := "rings", desc := "()I" } : Jvm.MethodName)) ∈ gG := gG_t (gG_9 (List.mem_of_getElem? (i := 41) rfl)) rfl
theorem q_1963 : (Jvm.Cond.code ({ cls := "SessionServer", name := "rings", desc := "()I" } : Jvm.MethodName) prog_1_method_12_code (1 : Nat) (Option.some Jvm.ClassFile.FieldType.int)) ∈ gG := gG_t (gG_9 (List.mem_of_getElem? (i := 43) rfl)) rfl
theorem q_1964 : (Jvm.Cond.methodLink "SessionServerLaw" (60 : Nat) ({ cls := "SessionServer", name := "count", desc := "(I)I" } : Jvm.MethodName)) ∈ gG := gG_t (gG_9 (List.mem_of_getElem? (i := 44) rfl)) rfl
theorem q_1965 : (Jvm.Cond.instanceMethod ({ cls := "SessionServer", name := "count", desc := "(I)I" } : Jvm.MethodName)) ∈ gG := gG_t (gG_9 (List.mem_of_getElem? (i := 45) rfl)) rfl
theorem q_1967 : (Jvm.Cond.code ({ cls := "SessionServer", name := "count", desc := "(I)I" } : Jvm.MethodName) prog_1_method_13_code (2 : Nat) (Option.some Jvm.ClassFile.FieldType.int)) ∈ gG := gG_t (gG_9 (List.mem_of_getElem? (i := 47) rfl)) rfl
theorem q_1968 : (Jvm.Cond.methodLink "SessionServer" (179 : Nat) ({ cls := "SessionServer$Store", name := "tablesThere", desc := "()I" } : Jvm.MethodName)) ∈ gG := gG_t (gG_9 (List.mem_of_getElem? (i := 48) rfl)) rfl
theorem q_1969 : (Jvm.Cond.methodLink "SessionServer" (186 : Nat) ({ cls := "SessionServer", name := "waiting", desc := "()I" } : Jvm.MethodName)) ∈ gG := gG_t (gG_9 (List.mem_of_getElem? (i := 49) rfl)) rfl
theorem q_1971 : (Jvm.Cond.instanceMethod ({ cls := "SessionServer", name := "waiting", desc := "()I" } : Jvm.MethodName)) ∈ gG := gG_t (gG_9 (List.mem_of_getElem? (i := 51) rfl)) rfl
theorem q_1972 : (Jvm.Cond.code ({ cls := "SessionServer", name := "waiting", desc := "()I" } : Jvm.MethodName) prog_1_method_14_code (3 : Nat) (Option.some Jvm.ClassFile.FieldType.int)) ∈ gG := gG_t (gG_9 (List.mem_of_getElem? (i := 52) rfl)) rfl
theorem q_1973 : (Jvm.Cond.classLink "SessionServerLaw" (10 : Nat) "SessionServerModel") ∈ gG := gG_t (gG_9 (List.mem_of_getElem? (i := 53) rfl)) rfl
theorem q_1974 : (Jvm.Cond.instantiable "SessionServerModel" (42 : Nat)) ∈ gG := gG_t (gG_9 (List.mem_of_getElem? (i := 54) rfl)) rfl
theorem q_1975 : (Jvm.Cond.methodLink "SessionServerLaw" (12 : Nat) ({ cls := "SessionServerModel", name := "<init>", desc := "()V" } : Jvm.MethodName)) ∈ gG := gG_t (gG_9 (List.mem_of_getElem? (i := 55) rfl)) rfl
theorem q_1976 : (Jvm.Cond.instanceMethod ({ cls := "SessionServerModel", name := "<init>", desc := "()V" } : Jvm.MethodName)) ∈ gG := gG_t (gG_9 (List.mem_of_getElem? (i := 56) rfl)) rfl
theorem q_1977 : (Jvm.Cond.code ({ cls := "SessionServerModel", name := "<init>", desc := "()V" } : Jvm.MethodName) prog_15_method_1_code (2 : Nat) (Option.none : Option Jvm.ClassFile.FieldType)) ∈ gG := gG_t (gG_9 (List.mem_of_getElem? (i := 57) rfl)) rfl
theorem q_1978 : (Jvm.Cond.methodLink "SessionServerModel" (1 : Nat) ({ cls := "java/lang/Object", name := "<init>", desc := "()V" } : Jvm.MethodName)) ∈ gG := gG_t (gG_9 (List.mem_of_getElem? (i := 58) rfl)) rfl
theorem q_1979 : (Jvm.Cond.classLink "SessionServerModel" (21 : Nat) "SessionServerModel$Catalog") ∈ gG := gG_t (gG_9 (List.mem_of_getElem? (i := 59) rfl)) rfl
theorem q_1980 : (Jvm.Cond.instantiable "SessionServerModel$Catalog" (13 : Nat)) ∈ gG := gG_t (gG_9 (List.mem_of_getElem? (i := 60) rfl)) rfl
theorem q_1982 : (Jvm.Cond.instanceMethod ({ cls := "SessionServerModel$Catalog", name := "<init>", desc := "()V" } : Jvm.MethodName)) ∈ gG := gG_t (gG_9 (List.mem_of_getElem? (i := 62) rfl)) rfl
theorem q_1983 : (Jvm.Cond.code ({ cls := "SessionServerModel$Catalog", name := "<init>", desc := "()V" } : Jvm.MethodName) prog_16_method_1_code (1 : Nat) (Option.none : Option Jvm.ClassFile.FieldType)) ∈ gG := gG_t (gG_9 (List.mem_of_getElem? (i := 63) rfl)) rfl
theorem q_1984 : (Jvm.Cond.methodLink "SessionServerModel$Catalog" (1 : Nat) ({ cls := "java/lang/Object", name := "<init>", desc := "()V" } : Jvm.MethodName)) ∈ gG := gG_t (gG_9 (List.mem_of_getElem? (i := 64) rfl)) rfl
theorem q_1986 : (Jvm.Cond.fieldLink "SessionServerModel$Catalog" (9 : Nat) "SessionServerModel$Catalog" "ids" "[I") ∈ gG := gG_t (gG_9 (List.mem_of_getElem? (i := 66) rfl)) rfl
theorem q_1988 : (Jvm.Cond.fieldLink "SessionServerModel$Catalog" (13 : Nat) "SessionServerModel$Catalog" "widths" "[I") ∈ gG := gG_t (gG_9 (List.mem_of_getElem? (i := 68) rfl)) rfl
theorem q_1989 : (Jvm.Cond.fieldLink "SessionServerModel$Catalog" (16 : Nat) "SessionServerModel$Catalog" "names" "[B") ∈ gG := gG_t (gG_9 (List.mem_of_getElem? (i := 69) rfl)) rfl
theorem q_1990 : (Jvm.Cond.fieldLink "SessionServerModel$Catalog" (20 : Nat) "SessionServerModel$Catalog" "sizes" "[I") ∈ gG := gG_t (gG_9 (List.mem_of_getElem? (i := 70) rfl)) rfl
theorem q_1991 : (Jvm.Cond.fieldLink "SessionServerModel$Catalog" (23 : Nat) "SessionServerModel$Catalog" "columnNames" "[B") ∈ gG := gG_t (gG_9 (List.mem_of_getElem? (i := 71) rfl)) rfl
theorem q_1992 : (Jvm.Cond.fieldLink "SessionServerModel$Catalog" (26 : Nat) "SessionServerModel$Catalog" "columnSizes" "[I") ∈ gG := gG_t (gG_9 (List.mem_of_getElem? (i := 72) rfl)) rfl
theorem q_1993 : (Jvm.Cond.fieldLink "SessionServerModel$Catalog" (29 : Nat) "SessionServerModel$Catalog" "types" "[I") ∈ gG := gG_t (gG_9 (List.mem_of_getElem? (i := 73) rfl)) rfl
theorem q_1994 : (Jvm.Cond.fieldLink "SessionServerModel$Catalog" (32 : Nat) "SessionServerModel$Catalog" "never" "[Z") ∈ gG := gG_t (gG_9 (List.mem_of_getElem? (i := 74) rfl)) rfl
theorem q_1998 : (Jvm.Cond.fieldLink "SessionServerModel$Catalog" (36 : Nat) "SessionServerModel$Catalog" "indexTable" "[I") ∈ gG := gG_t (gG_9 (List.mem_of_getElem? (i := 78) rfl)) rfl
theorem q_2000 : (Jvm.Cond.fieldLink "SessionServerModel$Catalog" (39 : Nat) "SessionServerModel$Catalog" "indexColumn" "[I") ∈ gG := gG_t (gG_9 (List.mem_of_getElem? (i := 80) rfl)) rfl
theorem q_2002 : (Jvm.Cond.fieldLink "SessionServerModel$Catalog" (42 : Nat) "SessionServerModel$Catalog" "indexUnique" "[Z") ∈ gG := gG_t (gG_9 (List.mem_of_getElem? (i := 82) rfl)) rfl
theorem q_2004 : (Jvm.Cond.lays "SessionServerModel$Catalog" "SessionServerModel$Catalog" "made" "I") ∈ gG := gG_t (gG_9 (List.mem_of_getElem? (i := 84) rfl)) rfl
theorem q_2006 : (Jvm.Cond.laysFinal "SessionServerModel$Catalog" "SessionServerModel$Catalog" "ids" "[I") ∈ gG := gG_t (gG_9 (List.mem_of_getElem? (i := 86) rfl)) rfl
theorem q_2008 : (Jvm.Cond.laysFinal "SessionServerModel$Catalog" "SessionServerModel$Catalog" "widths" "[I") ∈ gG := gG_t (gG_9 (List.mem_of_getElem? (i := 88) rfl)) rfl
theorem q_2010 : (Jvm.Cond.laysFinal "SessionServerModel$Catalog" "SessionServerModel$Catalog" "names" "[B") ∈ gG := gG_t (gG_9 (List.mem_of_getElem? (i := 90) rfl)) rfl
theorem q_2012 : (Jvm.Cond.laysFinal "SessionServerModel$Catalog" "SessionServerModel$Catalog" "sizes" "[I") ∈ gG := gG_t (gG_9 (List.mem_of_getElem? (i := 92) rfl)) rfl
theorem q_2014 : (Jvm.Cond.laysFinal "SessionServerModel$Catalog" "SessionServerModel$Catalog" "columnNames" "[B") ∈ gG := gG_t (gG_9 (List.mem_of_getElem? (i := 94) rfl)) rfl
theorem q_2016 : (Jvm.Cond.laysFinal "SessionServerModel$Catalog" "SessionServerModel$Catalog" "columnSizes" "[I") ∈ gG := gG_t (gG_9 (List.mem_of_getElem? (i := 96) rfl)) rfl
theorem q_2018 : (Jvm.Cond.laysFinal "SessionServerModel$Catalog" "SessionServerModel$Catalog" "types" "[I") ∈ gG := gG_t (gG_9 (List.mem_of_getElem? (i := 98) rfl)) rfl
theorem q_2020 : (Jvm.Cond.laysFinal "SessionServerModel$Catalog" "SessionServerModel$Catalog" "never" "[Z") ∈ gG := gG_t (gG_9 (List.mem_of_getElem? (i := 100) rfl)) rfl
theorem q_2022 : (Jvm.Cond.lays "SessionServerModel$Catalog" "SessionServerModel$Catalog" "indexes" "I") ∈ gG := gG_t (gG_9 (List.mem_of_getElem? (i := 102) rfl)) rfl
theorem q_2024 : (Jvm.Cond.laysFinal "SessionServerModel$Catalog" "SessionServerModel$Catalog" "indexTable" "[I") ∈ gG := gG_t (gG_9 (List.mem_of_getElem? (i := 104) rfl)) rfl
theorem q_2026 : (Jvm.Cond.laysFinal "SessionServerModel$Catalog" "SessionServerModel$Catalog" "indexColumn" "[I") ∈ gG := gG_t (gG_9 (List.mem_of_getElem? (i := 106) rfl)) rfl
theorem q_2028 : (Jvm.Cond.laysFinal "SessionServerModel$Catalog" "SessionServerModel$Catalog" "indexUnique" "[Z") ∈ gG := gG_t (gG_9 (List.mem_of_getElem? (i := 108) rfl)) rfl
theorem q_2031 : (Jvm.Cond.classLink "SessionServerModel" (28 : Nat) "SessionServerModel$Session") ∈ gG := gG_t (gG_9 (List.mem_of_getElem? (i := 111) rfl)) rfl
theorem q_2033 : (Jvm.Cond.classLink "SessionServerModel" (34 : Nat) "SessionServerModel$Serial") ∈ gG := gG_t (gG_9 (List.mem_of_getElem? (i := 113) rfl)) rfl
theorem q_2034 : (Jvm.Cond.instantiable "SessionServerModel$Serial" (16 : Nat)) ∈ gG := gG_t (gG_9 (List.mem_of_getElem? (i := 114) rfl)) rfl
theorem q_2035 : (Jvm.Cond.methodLink "SessionServerModel" (36 : Nat) ({ cls := "SessionServerModel$Serial", name := "<init>", desc := "()V" } : Jvm.MethodName)) ∈ gG := gG_t (gG_9 (List.mem_of_getElem? (i := 115) rfl)) rfl
theorem q_2036 : (Jvm.Cond.instanceMethod ({ cls := "SessionServerModel$Serial", name := "<init>", desc := "()V" } : Jvm.MethodName)) ∈ gG := gG_t (gG_9 (List.mem_of_getElem? (i := 116) rfl)) rfl
theorem q_2037 : (Jvm.Cond.code ({ cls := "SessionServerModel$Serial", name := "<init>", desc := "()V" } : Jvm.MethodName) prog_19_method_1_code (3 : Nat) (Option.none : Option Jvm.ClassFile.FieldType)) ∈ gG := gG_t (gG_9 (List.mem_of_getElem? (i := 117) rfl)) rfl
theorem q_2038 : (Jvm.Cond.methodLink "SessionServerModel$Serial" (1 : Nat) ({ cls := "java/lang/Object", name := "<init>", desc := "()V" } : Jvm.MethodName)) ∈ gG := gG_t (gG_9 (List.mem_of_getElem? (i := 118) rfl)) rfl
theorem q_2039 : (Jvm.Cond.classLink "SessionServerModel$Serial" (26 : Nat) "[[Z") ∈ gG := gG_t (gG_9 (List.mem_of_getElem? (i := 119) rfl)) rfl
theorem q_2041 : (Jvm.Cond.classLink "SessionServerModel$Serial" (34 : Nat) "[LSessionServerModel$Span;") ∈ gG := gG_t (gG_9 (List.mem_of_getElem? (i := 121) rfl)) rfl
theorem q_2043 : (Jvm.Cond.classLink "SessionServerModel$Serial" (56 : Nat) "SessionServerModel$Span") ∈ gG := gG_t (gG_9 (List.mem_of_getElem? (i := 123) rfl)) rfl
theorem q_2045 : (Jvm.Cond.instantiable "SessionServerModel$Span" (8 : Nat)) ∈ gG := gG_t (gG_9 (List.mem_of_getElem? (i := 125) rfl)) rfl
theorem q_2047 : (Jvm.Cond.instanceMethod ({ cls := "SessionServerModel$Span", name := "<init>", desc := "()V" } : Jvm.MethodName)) ∈ gG := gG_t (gG_9 (List.mem_of_getElem? (i := 127) rfl)) rfl
theorem q_2048 : (Jvm.Cond.code ({ cls := "SessionServerModel$Span", name := "<init>", desc := "()V" } : Jvm.MethodName) prog_21_method_1_code (1 : Nat) (Option.none : Option Jvm.ClassFile.FieldType)) ∈ gG := gG_t (gG_9 (List.mem_of_getElem? (i := 128) rfl)) rfl
theorem q_2049 : (Jvm.Cond.methodLink "SessionServerModel$Span" (1 : Nat) ({ cls := "java/lang/Object", name := "<init>", desc := "()V" } : Jvm.MethodName)) ∈ gG := gG_t (gG_9 (List.mem_of_getElem? (i := 129) rfl)) rfl
theorem q_2050 : (Jvm.Cond.classLink "SessionServerModel$Span" (13 : Nat) "SessionServerModel$Cells") ∈ gG := gG_t (gG_9 (List.mem_of_getElem? (i := 130) rfl)) rfl
theorem q_2051 : (Jvm.Cond.instantiable "SessionServerModel$Cells" (4 : Nat)) ∈ gG := gG_t (gG_9 (List.mem_of_getElem? (i := 131) rfl)) rfl
theorem q_2052 : (Jvm.Cond.methodLink "SessionServerModel$Span" (15 : Nat) ({ cls := "SessionServerModel$Cells", name := "<init>", desc := "(I)V" } : Jvm.MethodName)) ∈ gG := gG_t (gG_9 (List.mem_of_getElem? (i := 132) rfl)) rfl
theorem q_2053 : (Jvm.Cond.instanceMethod ({ cls := "SessionServerModel$Cells", name := "<init>", desc := "(I)V" } : Jvm.MethodName)) ∈ gG := gG_t (gG_9 (List.mem_of_getElem? (i := 133) rfl)) rfl
theorem q_2054 : (Jvm.Cond.code ({ cls := "SessionServerModel$Cells", name := "<init>", desc := "(I)V" } : Jvm.MethodName) prog_17_method_1_code (2 : Nat) (Option.none : Option Jvm.ClassFile.FieldType)) ∈ gG := gG_t (gG_9 (List.mem_of_getElem? (i := 134) rfl)) rfl
theorem q_2055 : (Jvm.Cond.methodLink "SessionServerModel$Cells" (1 : Nat) ({ cls := "java/lang/Object", name := "<init>", desc := "()V" } : Jvm.MethodName)) ∈ gG := gG_t (gG_9 (List.mem_of_getElem? (i := 135) rfl)) rfl
theorem q_2056 : (Jvm.Cond.fieldLink "SessionServerModel$Cells" (7 : Nat) "SessionServerModel$Cells" "kinds" "[B") ∈ gG := gG_t (gG_9 (List.mem_of_getElem? (i := 136) rfl)) rfl
theorem q_2059 : (Jvm.Cond.fieldLink "SessionServerModel$Cells" (13 : Nat) "SessionServerModel$Cells" "numbers" "[J") ∈ gG := gG_t (gG_9 (List.mem_of_getElem? (i := 139) rfl)) rfl
theorem q_2062 : (Jvm.Cond.fieldLink "SessionServerModel$Cells" (17 : Nat) "SessionServerModel$Cells" "lengths" "[B") ∈ gG := gG_t (gG_9 (List.mem_of_getElem? (i := 142) rfl)) rfl
theorem q_2065 : (Jvm.Cond.fieldLink "SessionServerModel$Cells" (20 : Nat) "SessionServerModel$Cells" "words" "[J") ∈ gG := gG_t (gG_9 (List.mem_of_getElem? (i := 145) rfl)) rfl
theorem q_2066 : (Jvm.Cond.laysFinal "SessionServerModel$Cells" "SessionServerModel$Cells" "kinds" "[B") ∈ gG := gG_t (gG_9 (List.mem_of_getElem? (i := 146) rfl)) rfl
theorem q_2068 : (Jvm.Cond.laysFinal "SessionServerModel$Cells" "SessionServerModel$Cells" "numbers" "[J") ∈ gG := gG_t (gG_9 (List.mem_of_getElem? (i := 148) rfl)) rfl
theorem q_2070 : (Jvm.Cond.laysFinal "SessionServerModel$Cells" "SessionServerModel$Cells" "lengths" "[B") ∈ gG := gG_t (gG_9 (List.mem_of_getElem? (i := 150) rfl)) rfl
theorem q_2072 : (Jvm.Cond.laysFinal "SessionServerModel$Cells" "SessionServerModel$Cells" "words" "[J") ∈ gG := gG_t (gG_9 (List.mem_of_getElem? (i := 152) rfl)) rfl
theorem q_2078 : (Jvm.Cond.fieldLink "SessionServerModel$Span" (7 : Nat) "SessionServerModel$Span" "column" "I") ∈ gG := gG_t (gG_9 (List.mem_of_getElem? (i := 158) rfl)) rfl
theorem q_2087 : (Jvm.Cond.fieldLink "SessionServerModel$Span" (18 : Nat) "SessionServerModel$Span" "ends" "LSessionServerModel$Cells;") ∈ gG := gG_t (gG_9 (List.mem_of_getElem? (i := 167) rfl)) rfl
theorem q_2088 : (Jvm.Cond.lays "SessionServerModel$Span" "SessionServerModel$Span" "table" "I") ∈ gG := gG_t (gG_9 (List.mem_of_getElem? (i := 168) rfl)) rfl
theorem q_2090 : (Jvm.Cond.lays "SessionServerModel$Span" "SessionServerModel$Span" "column" "I") ∈ gG := gG_t (gG_9 (List.mem_of_getElem? (i := 170) rfl)) rfl
theorem q_2092 : (Jvm.Cond.lays "SessionServerModel$Span" "SessionServerModel$Span" "hasLow" "Z") ∈ gG := gG_t (gG_9 (List.mem_of_getElem? (i := 172) rfl)) rfl
theorem q_2094 : (Jvm.Cond.lays "SessionServerModel$Span" "SessionServerModel$Span" "lowIn" "Z") ∈ gG := gG_t (gG_9 (List.mem_of_getElem? (i := 174) rfl)) rfl
theorem q_2096 : (Jvm.Cond.lays "SessionServerModel$Span" "SessionServerModel$Span" "hasHigh" "Z") ∈ gG := gG_t (gG_9 (List.mem_of_getElem? (i := 176) rfl)) rfl
theorem q_2098 : (Jvm.Cond.lays "SessionServerModel$Span" "SessionServerModel$Span" "highIn" "Z") ∈ gG := gG_t (gG_9 (List.mem_of_getElem? (i := 178) rfl)) rfl
theorem q_2100 : (Jvm.Cond.lays "SessionServerModel$Span" "SessionServerModel$Span" "none" "Z") ∈ gG := gG_t (gG_9 (List.mem_of_getElem? (i := 180) rfl)) rfl
theorem q_2102 : (Jvm.Cond.laysFinal "SessionServerModel$Span" "SessionServerModel$Span" "ends" "LSessionServerModel$Cells;") ∈ gG := gG_t (gG_9 (List.mem_of_getElem? (i := 182) rfl)) rfl
theorem q_2105 : (Jvm.Cond.fieldLink "SessionServerModel$Serial" (63 : Nat) "SessionServerModel$Serial" "begun" "I") ∈ gG := gG_t (gG_9 (List.mem_of_getElem? (i := 185) rfl)) rfl
theorem q_2109 : (Jvm.Cond.fieldLink "SessionServerModel$Serial" (9 : Nat) "SessionServerModel$Serial" "id" "[I") ∈ gG := gG_t (gG_9 (List.mem_of_getElem? (i := 189) rfl)) rfl
theorem q_2110 : (Jvm.Cond.fieldLink "SessionServerModel$Serial" (13 : Nat) "SessionServerModel$Serial" "since" "[I") ∈ gG := gG_t (gG_9 (List.mem_of_getElem? (i := 190) rfl)) rfl
theorem q_2111 : (Jvm.Cond.fieldLink "SessionServerModel$Serial" (16 : Nat) "SessionServerModel$Serial" "place" "[I") ∈ gG := gG_t (gG_9 (List.mem_of_getElem? (i := 191) rfl)) rfl
theorem q_2112 : (Jvm.Cond.fieldLink "SessionServerModel$Serial" (19 : Nat) "SessionServerModel$Serial" "doomed" "[Z") ∈ gG := gG_t (gG_9 (List.mem_of_getElem? (i := 192) rfl)) rfl
theorem q_2114 : (Jvm.Cond.fieldLink "SessionServerModel$Serial" (23 : Nat) "SessionServerModel$Serial" "least" "[I") ∈ gG := gG_t (gG_9 (List.mem_of_getElem? (i := 194) rfl)) rfl
theorem q_2115 : (Jvm.Cond.fieldLink "SessionServerModel$Serial" (28 : Nat) "SessionServerModel$Serial" "arrows" "[[Z") ∈ gG := gG_t (gG_9 (List.mem_of_getElem? (i := 195) rfl)) rfl
theorem q_2116 : (Jvm.Cond.fieldLink "SessionServerModel$Serial" (31 : Nat) "SessionServerModel$Serial" "ranges" "[I") ∈ gG := gG_t (gG_9 (List.mem_of_getElem? (i := 196) rfl)) rfl
theorem q_2117 : (Jvm.Cond.fieldLink "SessionServerModel$Serial" (36 : Nat) "SessionServerModel$Serial" "spans" "[[LSessionServerModel$Span;") ∈ gG := gG_t (gG_9 (List.mem_of_getElem? (i := 197) rfl)) rfl
theorem q_2118 : (Jvm.Cond.fieldLink "SessionServerModel$Serial" (40 : Nat) "SessionServerModel$Serial" "sinceOf" "[I") ∈ gG := gG_t (gG_9 (List.mem_of_getElem? (i := 198) rfl)) rfl
theorem q_2119 : (Jvm.Cond.fieldLink "SessionServerModel$Serial" (43 : Nat) "SessionServerModel$Serial" "commitOf" "[I") ∈ gG := gG_t (gG_9 (List.mem_of_getElem? (i := 199) rfl)) rfl
theorem q_2120 : (Jvm.Cond.fieldLink "SessionServerModel$Serial" (46 : Nat) "SessionServerModel$Serial" "ever" "[J") ∈ gG := gG_t (gG_9 (List.mem_of_getElem? (i := 200) rfl)) rfl
theorem q_2121 : (Jvm.Cond.fieldLink "SessionServerModel$Serial" (50 : Nat) "SessionServerModel$Serial" "met" "[Z") ∈ gG := gG_t (gG_9 (List.mem_of_getElem? (i := 201) rfl)) rfl
theorem q_2122 : (Jvm.Cond.fieldLink "SessionServerModel$Serial" (53 : Nat) "SessionServerModel$Serial" "row" "[I") ∈ gG := gG_t (gG_9 (List.mem_of_getElem? (i := 202) rfl)) rfl
theorem q_2123 : (Jvm.Cond.lays "SessionServerModel$Serial" "SessionServerModel$Serial" "begun" "I") ∈ gG := gG_t (gG_9 (List.mem_of_getElem? (i := 203) rfl)) rfl
theorem q_2125 : (Jvm.Cond.lays "SessionServerModel$Serial" "SessionServerModel$Serial" "commits" "I") ∈ gG := gG_t (gG_9 (List.mem_of_getElem? (i := 205) rfl)) rfl
theorem q_2127 : (Jvm.Cond.lays "SessionServerModel$Serial" "SessionServerModel$Serial" "kept" "I") ∈ gG := gG_t (gG_9 (List.mem_of_getElem? (i := 207) rfl)) rfl
theorem q_2129 : (Jvm.Cond.laysFinal "SessionServerModel$Serial" "SessionServerModel$Serial" "id" "[I") ∈ gG := gG_t (gG_9 (List.mem_of_getElem? (i := 209) rfl)) rfl
theorem q_2131 : (Jvm.Cond.laysFinal "SessionServerModel$Serial" "SessionServerModel$Serial" "since" "[I") ∈ gG := gG_t (gG_9 (List.mem_of_getElem? (i := 211) rfl)) rfl
theorem q_2133 : (Jvm.Cond.laysFinal "SessionServerModel$Serial" "SessionServerModel$Serial" "place" "[I") ∈ gG := gG_t (gG_9 (List.mem_of_getElem? (i := 213) rfl)) rfl
theorem q_2135 : (Jvm.Cond.laysFinal "SessionServerModel$Serial" "SessionServerModel$Serial" "doomed" "[Z") ∈ gG := gG_t (gG_9 (List.mem_of_getElem? (i := 215) rfl)) rfl
theorem q_2137 : (Jvm.Cond.laysFinal "SessionServerModel$Serial" "SessionServerModel$Serial" "least" "[I") ∈ gG := gG_t (gG_9 (List.mem_of_getElem? (i := 217) rfl)) rfl
theorem q_2139 : (Jvm.Cond.laysFinal "SessionServerModel$Serial" "SessionServerModel$Serial" "arrows" "[[Z") ∈ gG := gG_t (gG_9 (List.mem_of_getElem? (i := 219) rfl)) rfl
theorem q_2141 : (Jvm.Cond.laysFinal "SessionServerModel$Serial" "SessionServerModel$Serial" "ranges" "[I") ∈ gG := gG_t (gG_9 (List.mem_of_getElem? (i := 221) rfl)) rfl
theorem q_2143 : (Jvm.Cond.laysFinal "SessionServerModel$Serial" "SessionServerModel$Serial" "spans" "[[LSessionServerModel$Span;") ∈ gG := gG_t (gG_9 (List.mem_of_getElem? (i := 223) rfl)) rfl
theorem q_2145 : (Jvm.Cond.laysFinal "SessionServerModel$Serial" "SessionServerModel$Serial" "sinceOf" "[I") ∈ gG := gG_t (gG_9 (List.mem_of_getElem? (i := 225) rfl)) rfl
theorem q_2147 : (Jvm.Cond.laysFinal "SessionServerModel$Serial" "SessionServerModel$Serial" "commitOf" "[I") ∈ gG := gG_t (gG_9 (List.mem_of_getElem? (i := 227) rfl)) rfl
theorem q_2149 : (Jvm.Cond.laysFinal "SessionServerModel$Serial" "SessionServerModel$Serial" "ever" "[J") ∈ gG := gG_t (gG_9 (List.mem_of_getElem? (i := 229) rfl)) rfl
theorem q_2151 : (Jvm.Cond.laysFinal "SessionServerModel$Serial" "SessionServerModel$Serial" "met" "[Z") ∈ gG := gG_t (gG_9 (List.mem_of_getElem? (i := 231) rfl)) rfl
theorem q_2153 : (Jvm.Cond.laysFinal "SessionServerModel$Serial" "SessionServerModel$Serial" "row" "[I") ∈ gG := gG_t (gG_9 (List.mem_of_getElem? (i := 233) rfl)) rfl
theorem q_2156 : (Jvm.Cond.classLink "SessionServerModel" (63 : Nat) "SessionServerModel$Cells") ∈ gG := gG_t (gG_9 (List.mem_of_getElem? (i := 236) rfl)) rfl
theorem q_2157 : (Jvm.Cond.methodLink "SessionServerModel" (65 : Nat) ({ cls := "SessionServerModel$Cells", name := "<init>", desc := "(I)V" } : Jvm.MethodName)) ∈ gG := gG_t (gG_9 (List.mem_of_getElem? (i := 237) rfl)) rfl
theorem q_2158 : (Jvm.Cond.classLink "SessionServerModel" (72 : Nat) "SessionServerModel$Work") ∈ gG := gG_t (gG_9 (List.mem_of_getElem? (i := 238) rfl)) rfl
theorem q_2159 : (Jvm.Cond.instantiable "SessionServerModel$Work" (15 : Nat)) ∈ gG := gG_t (gG_9 (List.mem_of_getElem? (i := 239) rfl)) rfl
theorem q_2160 : (Jvm.Cond.methodLink "SessionServerModel" (74 : Nat) ({ cls := "SessionServerModel$Work", name := "<init>", desc := "(LSessionServerModel$Cells;)V" } : Jvm.MethodName)) ∈ gG := gG_t (gG_10 (List.mem_of_getElem? (i := 0) rfl)) rfl
theorem q_2161 : (Jvm.Cond.instanceMethod ({ cls := "SessionServerModel$Work", name := "<init>", desc := "(LSessionServerModel$Cells;)V" } : Jvm.MethodName)) ∈ gG := gG_t (gG_10 (List.mem_of_getElem? (i := 1) rfl)) rfl
theorem q_2162 : (Jvm.Cond.code ({ cls := "SessionServerModel$Work", name := "<init>", desc := "(LSessionServerModel$Cells;)V" } : Jvm.MethodName) prog_22_method_1_code (2 : Nat) (Option.none : Option Jvm.ClassFile.FieldType)) ∈ gG := gG_t (gG_10 (List.mem_of_getElem? (i := 2) rfl)) rfl
theorem q_2163 : (Jvm.Cond.methodLink "SessionServerModel$Work" (1 : Nat) ({ cls := "java/lang/Object", name := "<init>", desc := "()V" } : Jvm.MethodName)) ∈ gG := gG_t (gG_10 (List.mem_of_getElem? (i := 3) rfl)) rfl
theorem q_2164 : (Jvm.Cond.classLink "SessionServerModel$Work" (13 : Nat) "SessionServerModel$Cells") ∈ gG := gG_t (gG_10 (List.mem_of_getElem? (i := 4) rfl)) rfl
theorem q_2165 : (Jvm.Cond.methodLink "SessionServerModel$Work" (15 : Nat) ({ cls := "SessionServerModel$Cells", name := "<init>", desc := "(I)V" } : Jvm.MethodName)) ∈ gG := gG_t (gG_10 (List.mem_of_getElem? (i := 5) rfl)) rfl
theorem q_2166 : (Jvm.Cond.fieldLink "SessionServerModel$Work" (47 : Nat) "SessionServerModel$Work" "versions" "LSessionServerModel$Cells;") ∈ gG := gG_t (gG_10 (List.mem_of_getElem? (i := 6) rfl)) rfl
theorem q_2169 : (Jvm.Cond.fieldLink "SessionServerModel$Work" (7 : Nat) "SessionServerModel$Work" "at" "[I") ∈ gG := gG_t (gG_10 (List.mem_of_getElem? (i := 9) rfl)) rfl
theorem q_2171 : (Jvm.Cond.fieldLink "SessionServerModel$Work" (18 : Nat) "SessionServerModel$Work" "now" "LSessionServerModel$Cells;") ∈ gG := gG_t (gG_10 (List.mem_of_getElem? (i := 11) rfl)) rfl
theorem q_2173 : (Jvm.Cond.fieldLink "SessionServerModel$Work" (22 : Nat) "SessionServerModel$Work" "many" "[J") ∈ gG := gG_t (gG_10 (List.mem_of_getElem? (i := 13) rfl)) rfl
theorem q_2174 : (Jvm.Cond.fieldLink "SessionServerModel$Work" (26 : Nat) "SessionServerModel$Work" "best" "LSessionServerModel$Cells;") ∈ gG := gG_t (gG_10 (List.mem_of_getElem? (i := 14) rfl)) rfl
theorem q_2175 : (Jvm.Cond.fieldLink "SessionServerModel$Work" (29 : Nat) "SessionServerModel$Work" "need" "[I") ∈ gG := gG_t (gG_10 (List.mem_of_getElem? (i := 15) rfl)) rfl
theorem q_2177 : (Jvm.Cond.fieldLink "SessionServerModel$Work" (32 : Nat) "SessionServerModel$Work" "two" "LSessionServerModel$Cells;") ∈ gG := gG_t (gG_10 (List.mem_of_getElem? (i := 17) rfl)) rfl
theorem q_2179 : (Jvm.Cond.fieldLink "SessionServerModel$Work" (35 : Nat) "SessionServerModel$Work" "combinations" "[I") ∈ gG := gG_t (gG_10 (List.mem_of_getElem? (i := 19) rfl)) rfl
theorem q_2180 : (Jvm.Cond.fieldLink "SessionServerModel$Work" (38 : Nat) "SessionServerModel$Work" "next" "[I") ∈ gG := gG_t (gG_10 (List.mem_of_getElem? (i := 20) rfl)) rfl
theorem q_2183 : (Jvm.Cond.fieldLink "SessionServerModel$Work" (41 : Nat) "SessionServerModel$Work" "row" "[I") ∈ gG := gG_t (gG_10 (List.mem_of_getElem? (i := 23) rfl)) rfl
theorem q_2184 : (Jvm.Cond.fieldLink "SessionServerModel$Work" (44 : Nat) "SessionServerModel$Work" "spare" "[I") ∈ gG := gG_t (gG_10 (List.mem_of_getElem? (i := 24) rfl)) rfl
theorem q_2185 : (Jvm.Cond.laysFinal "SessionServerModel$Work" "SessionServerModel$Work" "versions" "LSessionServerModel$Cells;") ∈ gG := gG_t (gG_10 (List.mem_of_getElem? (i := 25) rfl)) rfl
theorem q_2187 : (Jvm.Cond.lays "SessionServerModel$Work" "SessionServerModel$Work" "\x72" "LSessionServerModel$Reader;") ∈ gG := gG_t (gG_10 (List.mem_of_getElem? (i := 27) rfl)) rfl
theorem q_2189 : (Jvm.Cond.lays "SessionServerModel$Work" "SessionServerModel$Work" "given" "LSessionServerModel$Cells;") ∈ gG := gG_t (gG_10 (List.mem_of_getElem? (i := 29) rfl)) rfl
theorem q_2191 : (Jvm.Cond.laysFinal "SessionServerModel$Work" "SessionServerModel$Work" "at" "[I") ∈ gG := gG_t (gG_10 (List.mem_of_getElem? (i := 31) rfl)) rfl
theorem q_2193 : (Jvm.Cond.laysFinal "SessionServerModel$Work" "SessionServerModel$Work" "now" "LSessionServerModel$Cells;") ∈ gG := gG_t (gG_10 (List.mem_of_getElem? (i := 33) rfl)) rfl
theorem q_2195 : (Jvm.Cond.laysFinal "SessionServerModel$Work" "SessionServerModel$Work" "many" "[J") ∈ gG := gG_t (gG_10 (List.mem_of_getElem? (i := 35) rfl)) rfl
theorem q_2197 : (Jvm.Cond.laysFinal "SessionServerModel$Work" "SessionServerModel$Work" "best" "LSessionServerModel$Cells;") ∈ gG := gG_t (gG_10 (List.mem_of_getElem? (i := 37) rfl)) rfl
theorem q_2199 : (Jvm.Cond.laysFinal "SessionServerModel$Work" "SessionServerModel$Work" "need" "[I") ∈ gG := gG_t (gG_10 (List.mem_of_getElem? (i := 39) rfl)) rfl
theorem q_2201 : (Jvm.Cond.laysFinal "SessionServerModel$Work" "SessionServerModel$Work" "two" "LSessionServerModel$Cells;") ∈ gG := gG_t (gG_10 (List.mem_of_getElem? (i := 41) rfl)) rfl
theorem q_2203 : (Jvm.Cond.lays "SessionServerModel$Work" "SessionServerModel$Work" "counted" "I") ∈ gG := gG_t (gG_10 (List.mem_of_getElem? (i := 43) rfl)) rfl
theorem q_2205 : (Jvm.Cond.laysFinal "SessionServerModel$Work" "SessionServerModel$Work" "combinations" "[I") ∈ gG := gG_t (gG_10 (List.mem_of_getElem? (i := 45) rfl)) rfl
theorem q_2207 : (Jvm.Cond.laysFinal "SessionServerModel$Work" "SessionServerModel$Work" "next" "[I") ∈ gG := gG_t (gG_10 (List.mem_of_getElem? (i := 47) rfl)) rfl
theorem q_2209 : (Jvm.Cond.lays "SessionServerModel$Work" "SessionServerModel$Work" "size" "I") ∈ gG := gG_t (gG_10 (List.mem_of_getElem? (i := 49) rfl)) rfl
theorem q_2211 : (Jvm.Cond.laysFinal "SessionServerModel$Work" "SessionServerModel$Work" "row" "[I") ∈ gG := gG_t (gG_10 (List.mem_of_getElem? (i := 51) rfl)) rfl
theorem q_2213 : (Jvm.Cond.laysFinal "SessionServerModel$Work" "SessionServerModel$Work" "spare" "[I") ∈ gG := gG_t (gG_10 (List.mem_of_getElem? (i := 53) rfl)) rfl
theorem q_2216 : (Jvm.Cond.classLink "SessionServerModel" (105 : Nat) "SessionServerModel$Span") ∈ gG := gG_t (gG_10 (List.mem_of_getElem? (i := 56) rfl)) rfl
theorem q_2218 : (Jvm.Cond.classLink "SessionServerModel" (116 : Nat) "[[I") ∈ gG := gG_t (gG_10 (List.mem_of_getElem? (i := 58) rfl)) rfl
theorem q_2219 : (Jvm.Cond.instantiable "SessionServerModel$Session" (44 : Nat)) ∈ gG := gG_t (gG_10 (List.mem_of_getElem? (i := 59) rfl)) rfl
theorem q_2220 : (Jvm.Cond.methodLink "SessionServerModel" (137 : Nat) ({ cls := "SessionServerModel$Session", name := "<init>", desc := "(LSessionServerModel$Catalog;)V" } : Jvm.MethodName)) ∈ gG := gG_t (gG_10 (List.mem_of_getElem? (i := 60) rfl)) rfl
theorem q_2221 : (Jvm.Cond.instanceMethod ({ cls := "SessionServerModel$Session", name := "<init>", desc := "(LSessionServerModel$Catalog;)V" } : Jvm.MethodName)) ∈ gG := gG_t (gG_10 (List.mem_of_getElem? (i := 61) rfl)) rfl
theorem q_2222 : (Jvm.Cond.code ({ cls := "SessionServerModel$Session", name := "<init>", desc := "(LSessionServerModel$Catalog;)V" } : Jvm.MethodName) prog_20_method_1_code (2 : Nat) (Option.none : Option Jvm.ClassFile.FieldType)) ∈ gG := gG_t (gG_10 (List.mem_of_getElem? (i := 62) rfl)) rfl
theorem q_2223 : (Jvm.Cond.methodLink "SessionServerModel$Session" (1 : Nat) ({ cls := "java/lang/Object", name := "<init>", desc := "()V" } : Jvm.MethodName)) ∈ gG := gG_t (gG_10 (List.mem_of_getElem? (i := 63) rfl)) rfl
theorem q_2224 : (Jvm.Cond.classLink "SessionServerModel$Session" (46 : Nat) "SessionServerModel$Cells") ∈ gG := gG_t (gG_10 (List.mem_of_getElem? (i := 64) rfl)) rfl
theorem q_2225 : (Jvm.Cond.methodLink "SessionServerModel$Session" (48 : Nat) ({ cls := "SessionServerModel$Cells", name := "<init>", desc := "(I)V" } : Jvm.MethodName)) ∈ gG := gG_t (gG_10 (List.mem_of_getElem? (i := 65) rfl)) rfl
theorem q_2226 : (Jvm.Cond.classLink "SessionServerModel$Session" (73 : Nat) "SessionServerModel$Reader") ∈ gG := gG_t (gG_10 (List.mem_of_getElem? (i := 66) rfl)) rfl
theorem q_2227 : (Jvm.Cond.instantiable "SessionServerModel$Reader" (62 : Nat)) ∈ gG := gG_t (gG_10 (List.mem_of_getElem? (i := 67) rfl)) rfl
theorem q_2228 : (Jvm.Cond.methodLink "SessionServerModel$Session" (75 : Nat) ({ cls := "SessionServerModel$Reader", name := "<init>", desc := "(LSessionServerModel$Catalog;)V" } : Jvm.MethodName)) ∈ gG := gG_t (gG_10 (List.mem_of_getElem? (i := 68) rfl)) rfl
theorem q_2229 : (Jvm.Cond.instanceMethod ({ cls := "SessionServerModel$Reader", name := "<init>", desc := "(LSessionServerModel$Catalog;)V" } : Jvm.MethodName)) ∈ gG := gG_t (gG_10 (List.mem_of_getElem? (i := 69) rfl)) rfl
theorem q_2230 : (Jvm.Cond.code ({ cls := "SessionServerModel$Reader", name := "<init>", desc := "(LSessionServerModel$Catalog;)V" } : Jvm.MethodName) prog_18_method_1_code (2 : Nat) (Option.none : Option Jvm.ClassFile.FieldType)) ∈ gG := gG_t (gG_10 (List.mem_of_getElem? (i := 70) rfl)) rfl
theorem q_2231 : (Jvm.Cond.methodLink "SessionServerModel$Reader" (1 : Nat) ({ cls := "java/lang/Object", name := "<init>", desc := "()V" } : Jvm.MethodName)) ∈ gG := gG_t (gG_10 (List.mem_of_getElem? (i := 71) rfl)) rfl
theorem q_2232 : (Jvm.Cond.methodLink "SessionServerModel$Reader" (110 : Nat) ({ cls := "SessionServerModel$Reader", name := "forget", desc := "()V" } : Jvm.MethodName)) ∈ gG := gG_t (gG_10 (List.mem_of_getElem? (i := 72) rfl)) rfl
theorem q_2234 : (Jvm.Cond.instanceMethod ({ cls := "SessionServerModel$Reader", name := "forget", desc := "()V" } : Jvm.MethodName)) ∈ gG := gG_t (gG_10 (List.mem_of_getElem? (i := 74) rfl)) rfl
theorem q_2235 : (Jvm.Cond.code ({ cls := "SessionServerModel$Reader", name := "forget", desc := "()V" } : Jvm.MethodName) prog_18_method_2_code (2 : Nat) (Option.none : Option Jvm.ClassFile.FieldType)) ∈ gG := gG_t (gG_10 (List.mem_of_getElem? (i := 75) rfl)) rfl
theorem q_2236 : (Jvm.Cond.constantLong "SessionServerModel$Reader" (145 : Nat) (-1 : Int64)) ∈ gG := gG_t (gG_10 (List.mem_of_getElem? (i := 76) rfl)) rfl
theorem q_2238 : (Jvm.Cond.fieldLink "SessionServerModel$Reader" (7 : Nat) "SessionServerModel$Reader" "text" "[B") ∈ gG := gG_t (gG_10 (List.mem_of_getElem? (i := 78) rfl)) rfl
theorem q_2241 : (Jvm.Cond.fieldLink "SessionServerModel$Reader" (13 : Nat) "SessionServerModel$Reader" "tokenKind" "[I") ∈ gG := gG_t (gG_10 (List.mem_of_getElem? (i := 81) rfl)) rfl
theorem q_2242 : (Jvm.Cond.fieldLink "SessionServerModel$Reader" (17 : Nat) "SessionServerModel$Reader" "from" "[I") ∈ gG := gG_t (gG_10 (List.mem_of_getElem? (i := 82) rfl)) rfl
theorem q_2244 : (Jvm.Cond.fieldLink "SessionServerModel$Reader" (20 : Nat) "SessionServerModel$Reader" "to" "[I") ∈ gG := gG_t (gG_10 (List.mem_of_getElem? (i := 84) rfl)) rfl
theorem q_2247 : (Jvm.Cond.fieldLink "SessionServerModel$Reader" (106 : Nat) "SessionServerModel$Reader" "catalog" "LSessionServerModel$Catalog;") ∈ gG := gG_t (gG_10 (List.mem_of_getElem? (i := 87) rfl)) rfl
theorem q_2248 : (Jvm.Cond.fieldLink "SessionServerModel$Reader" (113 : Nat) "SessionServerModel$Reader" "nodes" "I") ∈ gG := gG_t (gG_10 (List.mem_of_getElem? (i := 88) rfl)) rfl
theorem q_2249 : (Jvm.Cond.fieldLink "SessionServerModel$Reader" (23 : Nat) "SessionServerModel$Reader" "kind" "[I") ∈ gG := gG_t (gG_10 (List.mem_of_getElem? (i := 89) rfl)) rfl
theorem q_2252 : (Jvm.Cond.fieldLink "SessionServerModel$Reader" (26 : Nat) "SessionServerModel$Reader" "left" "[I") ∈ gG := gG_t (gG_10 (List.mem_of_getElem? (i := 92) rfl)) rfl
theorem q_2255 : (Jvm.Cond.fieldLink "SessionServerModel$Reader" (29 : Nat) "SessionServerModel$Reader" "right" "[I") ∈ gG := gG_t (gG_10 (List.mem_of_getElem? (i := 95) rfl)) rfl
theorem q_2258 : (Jvm.Cond.fieldLink "SessionServerModel$Reader" (32 : Nat) "SessionServerModel$Reader" "type" "[I") ∈ gG := gG_t (gG_10 (List.mem_of_getElem? (i := 98) rfl)) rfl
theorem q_2259 : (Jvm.Cond.fieldLink "SessionServerModel$Reader" (35 : Nat) "SessionServerModel$Reader" "before" "[I") ∈ gG := gG_t (gG_10 (List.mem_of_getElem? (i := 99) rfl)) rfl
theorem q_2260 : (Jvm.Cond.fieldLink "SessionServerModel$Reader" (38 : Nat) "SessionServerModel$Reader" "named" "[I") ∈ gG := gG_t (gG_10 (List.mem_of_getElem? (i := 100) rfl)) rfl
theorem q_2261 : (Jvm.Cond.fieldLink "SessionServerModel$Reader" (41 : Nat) "SessionServerModel$Reader" "number" "[J") ∈ gG := gG_t (gG_10 (List.mem_of_getElem? (i := 101) rfl)) rfl
theorem q_2263 : (Jvm.Cond.fieldLink "SessionServerModel$Reader" (45 : Nat) "SessionServerModel$Reader" "letters" "[B") ∈ gG := gG_t (gG_10 (List.mem_of_getElem? (i := 103) rfl)) rfl
theorem q_2265 : (Jvm.Cond.fieldLink "SessionServerModel$Reader" (48 : Nat) "SessionServerModel$Reader" "length" "[I") ∈ gG := gG_t (gG_10 (List.mem_of_getElem? (i := 105) rfl)) rfl
theorem q_2267 : (Jvm.Cond.fieldLink "SessionServerModel$Reader" (117 : Nat) "SessionServerModel$Reader" "checks" "I") ∈ gG := gG_t (gG_10 (List.mem_of_getElem? (i := 107) rfl)) rfl
theorem q_2268 : (Jvm.Cond.fieldLink "SessionServerModel$Reader" (51 : Nat) "SessionServerModel$Reader" "check" "[I") ∈ gG := gG_t (gG_10 (List.mem_of_getElem? (i := 108) rfl)) rfl
theorem q_2269 : (Jvm.Cond.fieldLink "SessionServerModel$Reader" (54 : Nat) "SessionServerModel$Reader" "first" "[I") ∈ gG := gG_t (gG_10 (List.mem_of_getElem? (i := 109) rfl)) rfl
theorem q_2270 : (Jvm.Cond.fieldLink "SessionServerModel$Reader" (57 : Nat) "SessionServerModel$Reader" "second" "[I") ∈ gG := gG_t (gG_10 (List.mem_of_getElem? (i := 110) rfl)) rfl
theorem q_2271 : (Jvm.Cond.fieldLink "SessionServerModel$Reader" (120 : Nat) "SessionServerModel$Reader" "what" "I") ∈ gG := gG_t (gG_10 (List.mem_of_getElem? (i := 111) rfl)) rfl
theorem q_2273 : (Jvm.Cond.fieldLink "SessionServerModel$Reader" (123 : Nat) "SessionServerModel$Reader" "inner" "I") ∈ gG := gG_t (gG_10 (List.mem_of_getElem? (i := 113) rfl)) rfl
theorem q_2274 : (Jvm.Cond.fieldLink "SessionServerModel$Reader" (126 : Nat) "SessionServerModel$Reader" "target" "I") ∈ gG := gG_t (gG_10 (List.mem_of_getElem? (i := 114) rfl)) rfl
theorem q_2276 : (Jvm.Cond.fieldLink "SessionServerModel$Reader" (129 : Nat) "SessionServerModel$Reader" "targetToken" "I") ∈ gG := gG_t (gG_10 (List.mem_of_getElem? (i := 116) rfl)) rfl
theorem q_2277 : (Jvm.Cond.fieldLink "SessionServerModel$Reader" (132 : Nat) "SessionServerModel$Reader" "mode" "I") ∈ gG := gG_t (gG_10 (List.mem_of_getElem? (i := 117) rfl)) rfl
theorem q_2279 : (Jvm.Cond.fieldLink "SessionServerModel$Reader" (135 : Nat) "SessionServerModel$Reader" "named0" "I") ∈ gG := gG_t (gG_10 (List.mem_of_getElem? (i := 119) rfl)) rfl
theorem q_2281 : (Jvm.Cond.fieldLink "SessionServerModel$Reader" (138 : Nat) "SessionServerModel$Reader" "star" "Z") ∈ gG := gG_t (gG_10 (List.mem_of_getElem? (i := 121) rfl)) rfl
theorem q_2282 : (Jvm.Cond.fieldLink "SessionServerModel$Reader" (142 : Nat) "SessionServerModel$Reader" "distinct" "Z") ∈ gG := gG_t (gG_10 (List.mem_of_getElem? (i := 122) rfl)) rfl
theorem q_2284 : (Jvm.Cond.fieldLink "SessionServerModel$Reader" (147 : Nat) "SessionServerModel$Reader" "limit" "J") ∈ gG := gG_t (gG_10 (List.mem_of_getElem? (i := 124) rfl)) rfl
theorem q_2286 : (Jvm.Cond.fieldLink "SessionServerModel$Reader" (151 : Nat) "SessionServerModel$Reader" "where" "I") ∈ gG := gG_t (gG_10 (List.mem_of_getElem? (i := 126) rfl)) rfl
theorem q_2289 : (Jvm.Cond.fieldLink "SessionServerModel$Reader" (154 : Nat) "SessionServerModel$Reader" "items" "I") ∈ gG := gG_t (gG_10 (List.mem_of_getElem? (i := 129) rfl)) rfl
theorem q_2292 : (Jvm.Cond.fieldLink "SessionServerModel$Reader" (60 : Nat) "SessionServerModel$Reader" "item" "[I") ∈ gG := gG_t (gG_10 (List.mem_of_getElem? (i := 132) rfl)) rfl
theorem q_2295 : (Jvm.Cond.fieldLink "SessionServerModel$Reader" (157 : Nat) "SessionServerModel$Reader" "groups" "I") ∈ gG := gG_t (gG_10 (List.mem_of_getElem? (i := 135) rfl)) rfl
theorem q_2297 : (Jvm.Cond.fieldLink "SessionServerModel$Reader" (63 : Nat) "SessionServerModel$Reader" "group" "[I") ∈ gG := gG_t (gG_10 (List.mem_of_getElem? (i := 137) rfl)) rfl
theorem q_2299 : (Jvm.Cond.fieldLink "SessionServerModel$Reader" (160 : Nat) "SessionServerModel$Reader" "orders" "I") ∈ gG := gG_t (gG_10 (List.mem_of_getElem? (i := 139) rfl)) rfl
theorem q_2301 : (Jvm.Cond.fieldLink "SessionServerModel$Reader" (66 : Nat) "SessionServerModel$Reader" "order" "[J") ∈ gG := gG_t (gG_10 (List.mem_of_getElem? (i := 141) rfl)) rfl
theorem q_2303 : (Jvm.Cond.fieldLink "SessionServerModel$Reader" (69 : Nat) "SessionServerModel$Reader" "falls" "[Z") ∈ gG := gG_t (gG_10 (List.mem_of_getElem? (i := 143) rfl)) rfl
theorem q_2305 : (Jvm.Cond.fieldLink "SessionServerModel$Reader" (163 : Nat) "SessionServerModel$Reader" "froms" "I") ∈ gG := gG_t (gG_10 (List.mem_of_getElem? (i := 145) rfl)) rfl
theorem q_2308 : (Jvm.Cond.fieldLink "SessionServerModel$Reader" (73 : Nat) "SessionServerModel$Reader" "fromTable" "[I") ∈ gG := gG_t (gG_10 (List.mem_of_getElem? (i := 148) rfl)) rfl
theorem q_2310 : (Jvm.Cond.fieldLink "SessionServerModel$Reader" (76 : Nat) "SessionServerModel$Reader" "fromToken" "[I") ∈ gG := gG_t (gG_10 (List.mem_of_getElem? (i := 150) rfl)) rfl
theorem q_2311 : (Jvm.Cond.fieldLink "SessionServerModel$Reader" (79 : Nat) "SessionServerModel$Reader" "alias" "[I") ∈ gG := gG_t (gG_10 (List.mem_of_getElem? (i := 151) rfl)) rfl
theorem q_2312 : (Jvm.Cond.fieldLink "SessionServerModel$Reader" (166 : Nat) "SessionServerModel$Reader" "sets" "I") ∈ gG := gG_t (gG_10 (List.mem_of_getElem? (i := 152) rfl)) rfl
theorem q_2314 : (Jvm.Cond.fieldLink "SessionServerModel$Reader" (82 : Nat) "SessionServerModel$Reader" "setToken" "[I") ∈ gG := gG_t (gG_10 (List.mem_of_getElem? (i := 154) rfl)) rfl
theorem q_2315 : (Jvm.Cond.fieldLink "SessionServerModel$Reader" (85 : Nat) "SessionServerModel$Reader" "setColumn" "[I") ∈ gG := gG_t (gG_10 (List.mem_of_getElem? (i := 155) rfl)) rfl
theorem q_2317 : (Jvm.Cond.fieldLink "SessionServerModel$Reader" (88 : Nat) "SessionServerModel$Reader" "setNode" "[I") ∈ gG := gG_t (gG_10 (List.mem_of_getElem? (i := 157) rfl)) rfl
theorem q_2319 : (Jvm.Cond.fieldLink "SessionServerModel$Reader" (169 : Nat) "SessionServerModel$Reader" "rows" "I") ∈ gG := gG_t (gG_10 (List.mem_of_getElem? (i := 159) rfl)) rfl
theorem q_2321 : (Jvm.Cond.fieldLink "SessionServerModel$Reader" (172 : Nat) "SessionServerModel$Reader" "uneven" "Z") ∈ gG := gG_t (gG_10 (List.mem_of_getElem? (i := 161) rfl)) rfl
theorem q_2322 : (Jvm.Cond.fieldLink "SessionServerModel$Reader" (175 : Nat) "SessionServerModel$Reader" "values" "I") ∈ gG := gG_t (gG_10 (List.mem_of_getElem? (i := 162) rfl)) rfl
theorem q_2324 : (Jvm.Cond.fieldLink "SessionServerModel$Reader" (91 : Nat) "SessionServerModel$Reader" "value" "[I") ∈ gG := gG_t (gG_10 (List.mem_of_getElem? (i := 164) rfl)) rfl
theorem q_2326 : (Jvm.Cond.fieldLink "SessionServerModel$Reader" (178 : Nat) "SessionServerModel$Reader" "columns" "I") ∈ gG := gG_t (gG_10 (List.mem_of_getElem? (i := 166) rfl)) rfl
theorem q_2328 : (Jvm.Cond.fieldLink "SessionServerModel$Reader" (94 : Nat) "SessionServerModel$Reader" "newToken" "[I") ∈ gG := gG_t (gG_10 (List.mem_of_getElem? (i := 168) rfl)) rfl
theorem q_2330 : (Jvm.Cond.fieldLink "SessionServerModel$Reader" (97 : Nat) "SessionServerModel$Reader" "newType" "[I") ∈ gG := gG_t (gG_10 (List.mem_of_getElem? (i := 170) rfl)) rfl
theorem q_2332 : (Jvm.Cond.fieldLink "SessionServerModel$Reader" (181 : Nat) "SessionServerModel$Reader" "indexed" "I") ∈ gG := gG_t (gG_10 (List.mem_of_getElem? (i := 172) rfl)) rfl
theorem q_2334 : (Jvm.Cond.fieldLink "SessionServerModel$Reader" (184 : Nat) "SessionServerModel$Reader" "indexedToken" "I") ∈ gG := gG_t (gG_10 (List.mem_of_getElem? (i := 174) rfl)) rfl
theorem q_2335 : (Jvm.Cond.fieldLink "SessionServerModel$Reader" (187 : Nat) "SessionServerModel$Reader" "unique" "Z") ∈ gG := gG_t (gG_10 (List.mem_of_getElem? (i := 175) rfl)) rfl
theorem q_2337 : (Jvm.Cond.fieldLink "SessionServerModel$Reader" (190 : Nat) "SessionServerModel$Reader" "highest" "I") ∈ gG := gG_t (gG_10 (List.mem_of_getElem? (i := 177) rfl)) rfl
theorem q_2339 : (Jvm.Cond.fieldLink "SessionServerModel$Reader" (100 : Nat) "SessionServerModel$Reader" "needed" "[I") ∈ gG := gG_t (gG_10 (List.mem_of_getElem? (i := 179) rfl)) rfl
theorem q_2343 : (Jvm.Cond.fieldLink "SessionServerModel$Reader" (103 : Nat) "SessionServerModel$Reader" "in" "[Z") ∈ gG := gG_t (gG_10 (List.mem_of_getElem? (i := 183) rfl)) rfl
theorem q_2344 : (Jvm.Cond.lays "SessionServerModel$Reader" "SessionServerModel$Reader" "size" "I") ∈ gG := gG_t (gG_10 (List.mem_of_getElem? (i := 184) rfl)) rfl
theorem q_2346 : (Jvm.Cond.laysFinal "SessionServerModel$Reader" "SessionServerModel$Reader" "text" "[B") ∈ gG := gG_t (gG_10 (List.mem_of_getElem? (i := 186) rfl)) rfl
theorem q_2348 : (Jvm.Cond.lays "SessionServerModel$Reader" "SessionServerModel$Reader" "tokens" "I") ∈ gG := gG_t (gG_10 (List.mem_of_getElem? (i := 188) rfl)) rfl
theorem q_2350 : (Jvm.Cond.laysFinal "SessionServerModel$Reader" "SessionServerModel$Reader" "tokenKind" "[I") ∈ gG := gG_t (gG_10 (List.mem_of_getElem? (i := 190) rfl)) rfl
theorem q_2352 : (Jvm.Cond.laysFinal "SessionServerModel$Reader" "SessionServerModel$Reader" "from" "[I") ∈ gG := gG_t (gG_10 (List.mem_of_getElem? (i := 192) rfl)) rfl
theorem q_2354 : (Jvm.Cond.laysFinal "SessionServerModel$Reader" "SessionServerModel$Reader" "to" "[I") ∈ gG := gG_t (gG_10 (List.mem_of_getElem? (i := 194) rfl)) rfl
theorem q_2356 : (Jvm.Cond.lays "SessionServerModel$Reader" "SessionServerModel$Reader" "bad" "Z") ∈ gG := gG_t (gG_10 (List.mem_of_getElem? (i := 196) rfl)) rfl
theorem q_2358 : (Jvm.Cond.laysFinal "SessionServerModel$Reader" "SessionServerModel$Reader" "catalog" "LSessionServerModel$Catalog;") ∈ gG := gG_t (gG_10 (List.mem_of_getElem? (i := 198) rfl)) rfl
theorem q_2360 : (Jvm.Cond.lays "SessionServerModel$Reader" "SessionServerModel$Reader" "nodes" "I") ∈ gG := gG_t (gG_10 (List.mem_of_getElem? (i := 200) rfl)) rfl
theorem q_2362 : (Jvm.Cond.laysFinal "SessionServerModel$Reader" "SessionServerModel$Reader" "kind" "[I") ∈ gG := gG_t (gG_10 (List.mem_of_getElem? (i := 202) rfl)) rfl
theorem q_2364 : (Jvm.Cond.laysFinal "SessionServerModel$Reader" "SessionServerModel$Reader" "left" "[I") ∈ gG := gG_t (gG_10 (List.mem_of_getElem? (i := 204) rfl)) rfl
theorem q_2366 : (Jvm.Cond.laysFinal "SessionServerModel$Reader" "SessionServerModel$Reader" "right" "[I") ∈ gG := gG_t (gG_10 (List.mem_of_getElem? (i := 206) rfl)) rfl
theorem q_2368 : (Jvm.Cond.laysFinal "SessionServerModel$Reader" "SessionServerModel$Reader" "type" "[I") ∈ gG := gG_t (gG_10 (List.mem_of_getElem? (i := 208) rfl)) rfl
theorem q_2370 : (Jvm.Cond.laysFinal "SessionServerModel$Reader" "SessionServerModel$Reader" "before" "[I") ∈ gG := gG_t (gG_10 (List.mem_of_getElem? (i := 210) rfl)) rfl
theorem q_2372 : (Jvm.Cond.laysFinal "SessionServerModel$Reader" "SessionServerModel$Reader" "named" "[I") ∈ gG := gG_t (gG_10 (List.mem_of_getElem? (i := 212) rfl)) rfl
theorem q_2374 : (Jvm.Cond.laysFinal "SessionServerModel$Reader" "SessionServerModel$Reader" "number" "[J") ∈ gG := gG_t (gG_10 (List.mem_of_getElem? (i := 214) rfl)) rfl
theorem q_2376 : (Jvm.Cond.laysFinal "SessionServerModel$Reader" "SessionServerModel$Reader" "letters" "[B") ∈ gG := gG_t (gG_10 (List.mem_of_getElem? (i := 216) rfl)) rfl
theorem q_2378 : (Jvm.Cond.laysFinal "SessionServerModel$Reader" "SessionServerModel$Reader" "length" "[I") ∈ gG := gG_t (gG_10 (List.mem_of_getElem? (i := 218) rfl)) rfl
theorem q_2380 : (Jvm.Cond.lays "SessionServerModel$Reader" "SessionServerModel$Reader" "checks" "I") ∈ gG := gG_t (gG_10 (List.mem_of_getElem? (i := 220) rfl)) rfl
theorem q_2382 : (Jvm.Cond.laysFinal "SessionServerModel$Reader" "SessionServerModel$Reader" "check" "[I") ∈ gG := gG_t (gG_10 (List.mem_of_getElem? (i := 222) rfl)) rfl
theorem q_2384 : (Jvm.Cond.laysFinal "SessionServerModel$Reader" "SessionServerModel$Reader" "first" "[I") ∈ gG := gG_t (gG_10 (List.mem_of_getElem? (i := 224) rfl)) rfl
theorem q_2386 : (Jvm.Cond.laysFinal "SessionServerModel$Reader" "SessionServerModel$Reader" "second" "[I") ∈ gG := gG_t (gG_10 (List.mem_of_getElem? (i := 226) rfl)) rfl
theorem q_2388 : (Jvm.Cond.lays "SessionServerModel$Reader" "SessionServerModel$Reader" "what" "I") ∈ gG := gG_t (gG_10 (List.mem_of_getElem? (i := 228) rfl)) rfl
theorem q_2390 : (Jvm.Cond.lays "SessionServerModel$Reader" "SessionServerModel$Reader" "inner" "I") ∈ gG := gG_t (gG_10 (List.mem_of_getElem? (i := 230) rfl)) rfl
theorem q_2392 : (Jvm.Cond.lays "SessionServerModel$Reader" "SessionServerModel$Reader" "target" "I") ∈ gG := gG_t (gG_10 (List.mem_of_getElem? (i := 232) rfl)) rfl
theorem q_2394 : (Jvm.Cond.lays "SessionServerModel$Reader" "SessionServerModel$Reader" "targetToken" "I") ∈ gG := gG_t (gG_10 (List.mem_of_getElem? (i := 234) rfl)) rfl
theorem q_2396 : (Jvm.Cond.lays "SessionServerModel$Reader" "SessionServerModel$Reader" "mode" "I") ∈ gG := gG_t (gG_10 (List.mem_of_getElem? (i := 236) rfl)) rfl
theorem q_2398 : (Jvm.Cond.lays "SessionServerModel$Reader" "SessionServerModel$Reader" "named0" "I") ∈ gG := gG_t (gG_10 (List.mem_of_getElem? (i := 238) rfl)) rfl
theorem q_2400 : (Jvm.Cond.lays "SessionServerModel$Reader" "SessionServerModel$Reader" "star" "Z") ∈ gG := gG_t (gG_11 (List.mem_of_getElem? (i := 0) rfl)) rfl
theorem q_2402 : (Jvm.Cond.lays "SessionServerModel$Reader" "SessionServerModel$Reader" "distinct" "Z") ∈ gG := gG_t (gG_11 (List.mem_of_getElem? (i := 2) rfl)) rfl
theorem q_2404 : (Jvm.Cond.lays "SessionServerModel$Reader" "SessionServerModel$Reader" "limit" "J") ∈ gG := gG_t (gG_11 (List.mem_of_getElem? (i := 4) rfl)) rfl
theorem q_2406 : (Jvm.Cond.lays "SessionServerModel$Reader" "SessionServerModel$Reader" "where" "I") ∈ gG := gG_t (gG_11 (List.mem_of_getElem? (i := 6) rfl)) rfl
theorem q_2408 : (Jvm.Cond.lays "SessionServerModel$Reader" "SessionServerModel$Reader" "items" "I") ∈ gG := gG_t (gG_11 (List.mem_of_getElem? (i := 8) rfl)) rfl
theorem q_2410 : (Jvm.Cond.laysFinal "SessionServerModel$Reader" "SessionServerModel$Reader" "item" "[I") ∈ gG := gG_t (gG_11 (List.mem_of_getElem? (i := 10) rfl)) rfl
theorem q_2412 : (Jvm.Cond.lays "SessionServerModel$Reader" "SessionServerModel$Reader" "groups" "I") ∈ gG := gG_t (gG_11 (List.mem_of_getElem? (i := 12) rfl)) rfl
theorem q_2414 : (Jvm.Cond.laysFinal "SessionServerModel$Reader" "SessionServerModel$Reader" "group" "[I") ∈ gG := gG_t (gG_11 (List.mem_of_getElem? (i := 14) rfl)) rfl
theorem q_2416 : (Jvm.Cond.lays "SessionServerModel$Reader" "SessionServerModel$Reader" "orders" "I") ∈ gG := gG_t (gG_11 (List.mem_of_getElem? (i := 16) rfl)) rfl
theorem q_2418 : (Jvm.Cond.laysFinal "SessionServerModel$Reader" "SessionServerModel$Reader" "order" "[J") ∈ gG := gG_t (gG_11 (List.mem_of_getElem? (i := 18) rfl)) rfl
theorem q_2420 : (Jvm.Cond.laysFinal "SessionServerModel$Reader" "SessionServerModel$Reader" "falls" "[Z") ∈ gG := gG_t (gG_11 (List.mem_of_getElem? (i := 20) rfl)) rfl
theorem q_2422 : (Jvm.Cond.lays "SessionServerModel$Reader" "SessionServerModel$Reader" "froms" "I") ∈ gG := gG_t (gG_11 (List.mem_of_getElem? (i := 22) rfl)) rfl
theorem q_2424 : (Jvm.Cond.laysFinal "SessionServerModel$Reader" "SessionServerModel$Reader" "fromTable" "[I") ∈ gG := gG_t (gG_11 (List.mem_of_getElem? (i := 24) rfl)) rfl
theorem q_2426 : (Jvm.Cond.laysFinal "SessionServerModel$Reader" "SessionServerModel$Reader" "fromToken" "[I") ∈ gG := gG_t (gG_11 (List.mem_of_getElem? (i := 26) rfl)) rfl
theorem q_2428 : (Jvm.Cond.laysFinal "SessionServerModel$Reader" "SessionServerModel$Reader" "alias" "[I") ∈ gG := gG_t (gG_11 (List.mem_of_getElem? (i := 28) rfl)) rfl
theorem q_2430 : (Jvm.Cond.lays "SessionServerModel$Reader" "SessionServerModel$Reader" "sets" "I") ∈ gG := gG_t (gG_11 (List.mem_of_getElem? (i := 30) rfl)) rfl
theorem q_2432 : (Jvm.Cond.laysFinal "SessionServerModel$Reader" "SessionServerModel$Reader" "setToken" "[I") ∈ gG := gG_t (gG_11 (List.mem_of_getElem? (i := 32) rfl)) rfl
theorem q_2434 : (Jvm.Cond.laysFinal "SessionServerModel$Reader" "SessionServerModel$Reader" "setColumn" "[I") ∈ gG := gG_t (gG_11 (List.mem_of_getElem? (i := 34) rfl)) rfl
theorem q_2436 : (Jvm.Cond.laysFinal "SessionServerModel$Reader" "SessionServerModel$Reader" "setNode" "[I") ∈ gG := gG_t (gG_11 (List.mem_of_getElem? (i := 36) rfl)) rfl
theorem q_2438 : (Jvm.Cond.lays "SessionServerModel$Reader" "SessionServerModel$Reader" "rows" "I") ∈ gG := gG_t (gG_11 (List.mem_of_getElem? (i := 38) rfl)) rfl
theorem q_2440 : (Jvm.Cond.lays "SessionServerModel$Reader" "SessionServerModel$Reader" "uneven" "Z") ∈ gG := gG_t (gG_11 (List.mem_of_getElem? (i := 40) rfl)) rfl
theorem q_2442 : (Jvm.Cond.lays "SessionServerModel$Reader" "SessionServerModel$Reader" "values" "I") ∈ gG := gG_t (gG_11 (List.mem_of_getElem? (i := 42) rfl)) rfl
theorem q_2444 : (Jvm.Cond.laysFinal "SessionServerModel$Reader" "SessionServerModel$Reader" "value" "[I") ∈ gG := gG_t (gG_11 (List.mem_of_getElem? (i := 44) rfl)) rfl
theorem q_2446 : (Jvm.Cond.lays "SessionServerModel$Reader" "SessionServerModel$Reader" "columns" "I") ∈ gG := gG_t (gG_11 (List.mem_of_getElem? (i := 46) rfl)) rfl
theorem q_2448 : (Jvm.Cond.laysFinal "SessionServerModel$Reader" "SessionServerModel$Reader" "newToken" "[I") ∈ gG := gG_t (gG_11 (List.mem_of_getElem? (i := 48) rfl)) rfl
theorem q_2450 : (Jvm.Cond.laysFinal "SessionServerModel$Reader" "SessionServerModel$Reader" "newType" "[I") ∈ gG := gG_t (gG_11 (List.mem_of_getElem? (i := 50) rfl)) rfl
theorem q_2452 : (Jvm.Cond.lays "SessionServerModel$Reader" "SessionServerModel$Reader" "indexed" "I") ∈ gG := gG_t (gG_11 (List.mem_of_getElem? (i := 52) rfl)) rfl
theorem q_2454 : (Jvm.Cond.lays "SessionServerModel$Reader" "SessionServerModel$Reader" "indexedToken" "I") ∈ gG := gG_t (gG_11 (List.mem_of_getElem? (i := 54) rfl)) rfl
theorem q_2456 : (Jvm.Cond.lays "SessionServerModel$Reader" "SessionServerModel$Reader" "unique" "Z") ∈ gG := gG_t (gG_11 (List.mem_of_getElem? (i := 56) rfl)) rfl
theorem q_2458 : (Jvm.Cond.lays "SessionServerModel$Reader" "SessionServerModel$Reader" "highest" "I") ∈ gG := gG_t (gG_11 (List.mem_of_getElem? (i := 58) rfl)) rfl
theorem q_2460 : (Jvm.Cond.laysFinal "SessionServerModel$Reader" "SessionServerModel$Reader" "needed" "[I") ∈ gG := gG_t (gG_11 (List.mem_of_getElem? (i := 60) rfl)) rfl
theorem q_2462 : (Jvm.Cond.lays "SessionServerModel$Reader" "SessionServerModel$Reader" "inItems" "Z") ∈ gG := gG_t (gG_11 (List.mem_of_getElem? (i := 62) rfl)) rfl
theorem q_2464 : (Jvm.Cond.lays "SessionServerModel$Reader" "SessionServerModel$Reader" "place" "I") ∈ gG := gG_t (gG_11 (List.mem_of_getElem? (i := 64) rfl)) rfl
theorem q_2466 : (Jvm.Cond.laysFinal "SessionServerModel$Reader" "SessionServerModel$Reader" "in" "[Z") ∈ gG := gG_t (gG_11 (List.mem_of_getElem? (i := 66) rfl)) rfl
theorem q_2470 : (Jvm.Cond.fieldLink "SessionServerModel$Session" (82 : Nat) "SessionServerModel$Session" "explicit" "Z") ∈ gG := gG_t (gG_11 (List.mem_of_getElem? (i := 70) rfl)) rfl
theorem q_2472 : (Jvm.Cond.fieldLink "SessionServerModel$Session" (86 : Nat) "SessionServerModel$Session" "failed" "Z") ∈ gG := gG_t (gG_11 (List.mem_of_getElem? (i := 72) rfl)) rfl
theorem q_2474 : (Jvm.Cond.fieldLink "SessionServerModel$Session" (89 : Nat) "SessionServerModel$Session" "mode" "I") ∈ gG := gG_t (gG_11 (List.mem_of_getElem? (i := 74) rfl)) rfl
theorem q_2476 : (Jvm.Cond.fieldLink "SessionServerModel$Session" (92 : Nat) "SessionServerModel$Session" "command" "I") ∈ gG := gG_t (gG_11 (List.mem_of_getElem? (i := 76) rfl)) rfl
theorem q_2478 : (Jvm.Cond.fieldLink "SessionServerModel$Session" (7 : Nat) "SessionServerModel$Session" "snapshot" "I") ∈ gG := gG_t (gG_11 (List.mem_of_getElem? (i := 78) rfl)) rfl
theorem q_2480 : (Jvm.Cond.fieldLink "SessionServerModel$Session" (95 : Nat) "SessionServerModel$Session" "serial" "I") ∈ gG := gG_t (gG_11 (List.mem_of_getElem? (i := 80) rfl)) rfl
theorem q_2482 : (Jvm.Cond.fieldLink "SessionServerModel$Session" (98 : Nat) "SessionServerModel$Session" "top" "I") ∈ gG := gG_t (gG_11 (List.mem_of_getElem? (i := 82) rfl)) rfl
theorem q_2484 : (Jvm.Cond.fieldLink "SessionServerModel$Session" (13 : Nat) "SessionServerModel$Session" "numbers" "[I") ∈ gG := gG_t (gG_11 (List.mem_of_getElem? (i := 84) rfl)) rfl
theorem q_2486 : (Jvm.Cond.fieldLink "SessionServerModel$Session" (17 : Nat) "SessionServerModel$Session" "names" "[B") ∈ gG := gG_t (gG_11 (List.mem_of_getElem? (i := 86) rfl)) rfl
theorem q_2488 : (Jvm.Cond.fieldLink "SessionServerModel$Session" (21 : Nat) "SessionServerModel$Session" "sizes" "[I") ∈ gG := gG_t (gG_11 (List.mem_of_getElem? (i := 88) rfl)) rfl
theorem q_2491 : (Jvm.Cond.fieldLink "SessionServerModel$Session" (24 : Nat) "SessionServerModel$Session" "preparedNames" "[B") ∈ gG := gG_t (gG_11 (List.mem_of_getElem? (i := 91) rfl)) rfl
theorem q_2493 : (Jvm.Cond.fieldLink "SessionServerModel$Session" (27 : Nat) "SessionServerModel$Session" "preparedSizes" "[I") ∈ gG := gG_t (gG_11 (List.mem_of_getElem? (i := 93) rfl)) rfl
theorem q_2495 : (Jvm.Cond.fieldLink "SessionServerModel$Session" (30 : Nat) "SessionServerModel$Session" "preparedTexts" "[J") ∈ gG := gG_t (gG_11 (List.mem_of_getElem? (i := 95) rfl)) rfl
theorem q_2497 : (Jvm.Cond.fieldLink "SessionServerModel$Session" (34 : Nat) "SessionServerModel$Session" "preparedLengths" "[I") ∈ gG := gG_t (gG_11 (List.mem_of_getElem? (i := 97) rfl)) rfl
theorem q_2499 : (Jvm.Cond.fieldLink "SessionServerModel$Session" (37 : Nat) "SessionServerModel$Session" "preparedTypes" "[I") ∈ gG := gG_t (gG_11 (List.mem_of_getElem? (i := 99) rfl)) rfl
theorem q_2501 : (Jvm.Cond.fieldLink "SessionServerModel$Session" (40 : Nat) "SessionServerModel$Session" "preparedHighest" "[I") ∈ gG := gG_t (gG_11 (List.mem_of_getElem? (i := 101) rfl)) rfl
theorem q_2503 : (Jvm.Cond.fieldLink "SessionServerModel$Session" (43 : Nat) "SessionServerModel$Session" "text" "[B") ∈ gG := gG_t (gG_11 (List.mem_of_getElem? (i := 103) rfl)) rfl
theorem q_2506 : (Jvm.Cond.fieldLink "SessionServerModel$Session" (78 : Nat) "SessionServerModel$Session" "reader" "LSessionServerModel$Reader;") ∈ gG := gG_t (gG_11 (List.mem_of_getElem? (i := 106) rfl)) rfl
theorem q_2508 : (Jvm.Cond.fieldLink "SessionServerModel$Session" (51 : Nat) "SessionServerModel$Session" "given" "LSessionServerModel$Cells;") ∈ gG := gG_t (gG_11 (List.mem_of_getElem? (i := 108) rfl)) rfl
theorem q_2512 : (Jvm.Cond.fieldLink "SessionServerModel$Session" (55 : Nat) "SessionServerModel$Session" "lockPlace" "[I") ∈ gG := gG_t (gG_11 (List.mem_of_getElem? (i := 112) rfl)) rfl
theorem q_2514 : (Jvm.Cond.fieldLink "SessionServerModel$Session" (58 : Nat) "SessionServerModel$Session" "lockId" "[I") ∈ gG := gG_t (gG_11 (List.mem_of_getElem? (i := 114) rfl)) rfl
theorem q_2516 : (Jvm.Cond.fieldLink "SessionServerModel$Session" (61 : Nat) "SessionServerModel$Session" "lockMode" "[I") ∈ gG := gG_t (gG_11 (List.mem_of_getElem? (i := 116) rfl)) rfl
theorem q_2523 : (Jvm.Cond.fieldLink "SessionServerModel$Session" (64 : Nat) "SessionServerModel$Session" "target" "[I") ∈ gG := gG_t (gG_11 (List.mem_of_getElem? (i := 123) rfl)) rfl
theorem q_2525 : (Jvm.Cond.fieldLink "SessionServerModel$Session" (67 : Nat) "SessionServerModel$Session" "rows" "LSessionServerModel$Cells;") ∈ gG := gG_t (gG_11 (List.mem_of_getElem? (i := 125) rfl)) rfl
theorem q_2534 : (Jvm.Cond.fieldLink "SessionServerModel$Session" (70 : Nat) "SessionServerModel$Session" "answer" "[B") ∈ gG := gG_t (gG_11 (List.mem_of_getElem? (i := 134) rfl)) rfl
theorem q_2539 : (Jvm.Cond.lays "SessionServerModel$Session" "SessionServerModel$Session" "open" "Z") ∈ gG := gG_t (gG_11 (List.mem_of_getElem? (i := 139) rfl)) rfl
theorem q_2541 : (Jvm.Cond.lays "SessionServerModel$Session" "SessionServerModel$Session" "explicit" "Z") ∈ gG := gG_t (gG_11 (List.mem_of_getElem? (i := 141) rfl)) rfl
theorem q_2543 : (Jvm.Cond.lays "SessionServerModel$Session" "SessionServerModel$Session" "failed" "Z") ∈ gG := gG_t (gG_11 (List.mem_of_getElem? (i := 143) rfl)) rfl
theorem q_2545 : (Jvm.Cond.lays "SessionServerModel$Session" "SessionServerModel$Session" "mode" "I") ∈ gG := gG_t (gG_11 (List.mem_of_getElem? (i := 145) rfl)) rfl
theorem q_2547 : (Jvm.Cond.lays "SessionServerModel$Session" "SessionServerModel$Session" "command" "I") ∈ gG := gG_t (gG_11 (List.mem_of_getElem? (i := 147) rfl)) rfl
theorem q_2549 : (Jvm.Cond.lays "SessionServerModel$Session" "SessionServerModel$Session" "snapshot" "I") ∈ gG := gG_t (gG_11 (List.mem_of_getElem? (i := 149) rfl)) rfl
theorem q_2551 : (Jvm.Cond.lays "SessionServerModel$Session" "SessionServerModel$Session" "serial" "I") ∈ gG := gG_t (gG_11 (List.mem_of_getElem? (i := 151) rfl)) rfl
theorem q_2553 : (Jvm.Cond.lays "SessionServerModel$Session" "SessionServerModel$Session" "top" "I") ∈ gG := gG_t (gG_11 (List.mem_of_getElem? (i := 153) rfl)) rfl
theorem q_2555 : (Jvm.Cond.laysFinal "SessionServerModel$Session" "SessionServerModel$Session" "numbers" "[I") ∈ gG := gG_t (gG_11 (List.mem_of_getElem? (i := 155) rfl)) rfl
theorem q_2557 : (Jvm.Cond.laysFinal "SessionServerModel$Session" "SessionServerModel$Session" "names" "[B") ∈ gG := gG_t (gG_11 (List.mem_of_getElem? (i := 157) rfl)) rfl
theorem q_2559 : (Jvm.Cond.laysFinal "SessionServerModel$Session" "SessionServerModel$Session" "sizes" "[I") ∈ gG := gG_t (gG_11 (List.mem_of_getElem? (i := 159) rfl)) rfl
theorem q_2561 : (Jvm.Cond.lays "SessionServerModel$Session" "SessionServerModel$Session" "prepared" "I") ∈ gG := gG_t (gG_11 (List.mem_of_getElem? (i := 161) rfl)) rfl
theorem q_2563 : (Jvm.Cond.laysFinal "SessionServerModel$Session" "SessionServerModel$Session" "preparedNames" "[B") ∈ gG := gG_t (gG_11 (List.mem_of_getElem? (i := 163) rfl)) rfl
theorem q_2565 : (Jvm.Cond.laysFinal "SessionServerModel$Session" "SessionServerModel$Session" "preparedSizes" "[I") ∈ gG := gG_t (gG_11 (List.mem_of_getElem? (i := 165) rfl)) rfl
theorem q_2567 : (Jvm.Cond.laysFinal "SessionServerModel$Session" "SessionServerModel$Session" "preparedTexts" "[J") ∈ gG := gG_t (gG_11 (List.mem_of_getElem? (i := 167) rfl)) rfl
theorem q_2569 : (Jvm.Cond.laysFinal "SessionServerModel$Session" "SessionServerModel$Session" "preparedLengths" "[I") ∈ gG := gG_t (gG_11 (List.mem_of_getElem? (i := 169) rfl)) rfl
theorem q_2571 : (Jvm.Cond.laysFinal "SessionServerModel$Session" "SessionServerModel$Session" "preparedTypes" "[I") ∈ gG := gG_t (gG_11 (List.mem_of_getElem? (i := 171) rfl)) rfl
theorem q_2573 : (Jvm.Cond.laysFinal "SessionServerModel$Session" "SessionServerModel$Session" "preparedHighest" "[I") ∈ gG := gG_t (gG_11 (List.mem_of_getElem? (i := 173) rfl)) rfl
theorem q_2575 : (Jvm.Cond.laysFinal "SessionServerModel$Session" "SessionServerModel$Session" "text" "[B") ∈ gG := gG_t (gG_11 (List.mem_of_getElem? (i := 175) rfl)) rfl
theorem q_2577 : (Jvm.Cond.lays "SessionServerModel$Session" "SessionServerModel$Session" "length" "I") ∈ gG := gG_t (gG_11 (List.mem_of_getElem? (i := 177) rfl)) rfl
theorem q_2579 : (Jvm.Cond.laysFinal "SessionServerModel$Session" "SessionServerModel$Session" "reader" "LSessionServerModel$Reader;") ∈ gG := gG_t (gG_11 (List.mem_of_getElem? (i := 179) rfl)) rfl
theorem q_2581 : (Jvm.Cond.laysFinal "SessionServerModel$Session" "SessionServerModel$Session" "given" "LSessionServerModel$Cells;") ∈ gG := gG_t (gG_11 (List.mem_of_getElem? (i := 181) rfl)) rfl
theorem q_2583 : (Jvm.Cond.lays "SessionServerModel$Session" "SessionServerModel$Session" "first" "I") ∈ gG := gG_t (gG_11 (List.mem_of_getElem? (i := 183) rfl)) rfl
theorem q_2585 : (Jvm.Cond.lays "SessionServerModel$Session" "SessionServerModel$Session" "locks" "I") ∈ gG := gG_t (gG_11 (List.mem_of_getElem? (i := 185) rfl)) rfl
theorem q_2587 : (Jvm.Cond.laysFinal "SessionServerModel$Session" "SessionServerModel$Session" "lockPlace" "[I") ∈ gG := gG_t (gG_11 (List.mem_of_getElem? (i := 187) rfl)) rfl
theorem q_2589 : (Jvm.Cond.laysFinal "SessionServerModel$Session" "SessionServerModel$Session" "lockId" "[I") ∈ gG := gG_t (gG_11 (List.mem_of_getElem? (i := 189) rfl)) rfl
theorem q_2591 : (Jvm.Cond.laysFinal "SessionServerModel$Session" "SessionServerModel$Session" "lockMode" "[I") ∈ gG := gG_t (gG_11 (List.mem_of_getElem? (i := 191) rfl)) rfl
theorem q_2593 : (Jvm.Cond.lays "SessionServerModel$Session" "SessionServerModel$Session" "lockAt" "I") ∈ gG := gG_t (gG_11 (List.mem_of_getElem? (i := 193) rfl)) rfl
theorem q_2595 : (Jvm.Cond.lays "SessionServerModel$Session" "SessionServerModel$Session" "phase" "I") ∈ gG := gG_t (gG_11 (List.mem_of_getElem? (i := 195) rfl)) rfl
theorem q_2597 : (Jvm.Cond.lays "SessionServerModel$Session" "SessionServerModel$Session" "many" "I") ∈ gG := gG_t (gG_11 (List.mem_of_getElem? (i := 197) rfl)) rfl
theorem q_2599 : (Jvm.Cond.lays "SessionServerModel$Session" "SessionServerModel$Session" "at" "I") ∈ gG := gG_t (gG_11 (List.mem_of_getElem? (i := 199) rfl)) rfl
theorem q_2601 : (Jvm.Cond.lays "SessionServerModel$Session" "SessionServerModel$Session" "done" "I") ∈ gG := gG_t (gG_11 (List.mem_of_getElem? (i := 201) rfl)) rfl
theorem q_2603 : (Jvm.Cond.laysFinal "SessionServerModel$Session" "SessionServerModel$Session" "target" "[I") ∈ gG := gG_t (gG_11 (List.mem_of_getElem? (i := 203) rfl)) rfl
theorem q_2605 : (Jvm.Cond.laysFinal "SessionServerModel$Session" "SessionServerModel$Session" "rows" "LSessionServerModel$Cells;") ∈ gG := gG_t (gG_11 (List.mem_of_getElem? (i := 205) rfl)) rfl
theorem q_2607 : (Jvm.Cond.lays "SessionServerModel$Session" "SessionServerModel$Session" "wait" "I") ∈ gG := gG_t (gG_11 (List.mem_of_getElem? (i := 207) rfl)) rfl
theorem q_2609 : (Jvm.Cond.lays "SessionServerModel$Session" "SessionServerModel$Session" "waitMode" "I") ∈ gG := gG_t (gG_11 (List.mem_of_getElem? (i := 209) rfl)) rfl
theorem q_2611 : (Jvm.Cond.lays "SessionServerModel$Session" "SessionServerModel$Session" "waitPlace" "I") ∈ gG := gG_t (gG_11 (List.mem_of_getElem? (i := 211) rfl)) rfl
theorem q_2613 : (Jvm.Cond.lays "SessionServerModel$Session" "SessionServerModel$Session" "waitLevel" "I") ∈ gG := gG_t (gG_11 (List.mem_of_getElem? (i := 213) rfl)) rfl
theorem q_2615 : (Jvm.Cond.lays "SessionServerModel$Session" "SessionServerModel$Session" "dropped" "Z") ∈ gG := gG_t (gG_11 (List.mem_of_getElem? (i := 215) rfl)) rfl
theorem q_2617 : (Jvm.Cond.lays "SessionServerModel$Session" "SessionServerModel$Session" "waitNumber" "I") ∈ gG := gG_t (gG_11 (List.mem_of_getElem? (i := 217) rfl)) rfl
theorem q_2619 : (Jvm.Cond.lays "SessionServerModel$Session" "SessionServerModel$Session" "since" "I") ∈ gG := gG_t (gG_11 (List.mem_of_getElem? (i := 219) rfl)) rfl
theorem q_2621 : (Jvm.Cond.laysFinal "SessionServerModel$Session" "SessionServerModel$Session" "answer" "[B") ∈ gG := gG_t (gG_11 (List.mem_of_getElem? (i := 221) rfl)) rfl
theorem q_2623 : (Jvm.Cond.lays "SessionServerModel$Session" "SessionServerModel$Session" "size" "I") ∈ gG := gG_t (gG_11 (List.mem_of_getElem? (i := 223) rfl)) rfl
theorem q_2625 : (Jvm.Cond.lays "SessionServerModel$Session" "SessionServerModel$Session" "taken" "I") ∈ gG := gG_t (gG_11 (List.mem_of_getElem? (i := 225) rfl)) rfl
theorem q_2628 : (Jvm.Cond.fieldLink "SessionServerModel" (7 : Nat) "SessionServerModel" "up" "Z") ∈ gG := gG_t (gG_11 (List.mem_of_getElem? (i := 228) rfl)) rfl
theorem q_2629 : (Jvm.Cond.fieldLink "SessionServerModel" (13 : Nat) "SessionServerModel" "charge" "I") ∈ gG := gG_t (gG_11 (List.mem_of_getElem? (i := 229) rfl)) rfl
theorem q_2630 : (Jvm.Cond.fieldLink "SessionServerModel" (17 : Nat) "SessionServerModel" "tape" "[B") ∈ gG := gG_t (gG_11 (List.mem_of_getElem? (i := 230) rfl)) rfl
theorem q_2631 : (Jvm.Cond.fieldLink "SessionServerModel" (902 : Nat) "SessionServerModel" "taped" "I") ∈ gG := gG_t (gG_11 (List.mem_of_getElem? (i := 231) rfl)) rfl
theorem q_2632 : (Jvm.Cond.fieldLink "SessionServerModel" (24 : Nat) "SessionServerModel" "catalog" "LSessionServerModel$Catalog;") ∈ gG := gG_t (gG_11 (List.mem_of_getElem? (i := 232) rfl)) rfl
theorem q_2633 : (Jvm.Cond.fieldLink "SessionServerModel" (30 : Nat) "SessionServerModel" "sessions" "[LSessionServerModel$Session;") ∈ gG := gG_t (gG_11 (List.mem_of_getElem? (i := 233) rfl)) rfl
theorem q_2634 : (Jvm.Cond.fieldLink "SessionServerModel" (37 : Nat) "SessionServerModel" "serials" "LSessionServerModel$Serial;") ∈ gG := gG_t (gG_11 (List.mem_of_getElem? (i := 234) rfl)) rfl
theorem q_2635 : (Jvm.Cond.fieldLink "SessionServerModel" (421 : Nat) "SessionServerModel" "count" "I") ∈ gG := gG_t (gG_11 (List.mem_of_getElem? (i := 235) rfl)) rfl
theorem q_2636 : (Jvm.Cond.fieldLink "SessionServerModel" (204 : Nat) "SessionServerModel" "made" "I") ∈ gG := gG_t (gG_11 (List.mem_of_getElem? (i := 236) rfl)) rfl
theorem q_2637 : (Jvm.Cond.fieldLink "SessionServerModel" (41 : Nat) "SessionServerModel" "number" "[I") ∈ gG := gG_t (gG_11 (List.mem_of_getElem? (i := 237) rfl)) rfl
theorem q_2638 : (Jvm.Cond.fieldLink "SessionServerModel" (45 : Nat) "SessionServerModel" "table" "[I") ∈ gG := gG_t (gG_11 (List.mem_of_getElem? (i := 238) rfl)) rfl
theorem q_2639 : (Jvm.Cond.fieldLink "SessionServerModel" (48 : Nat) "SessionServerModel" "maker" "[I") ∈ gG := gG_t (gG_11 (List.mem_of_getElem? (i := 239) rfl)) rfl
theorem q_2640 : (Jvm.Cond.fieldLink "SessionServerModel" (51 : Nat) "SessionServerModel" "makerCommand" "[I") ∈ gG := gG_t (gG_12 (List.mem_of_getElem? (i := 0) rfl)) rfl
theorem q_2641 : (Jvm.Cond.fieldLink "SessionServerModel" (54 : Nat) "SessionServerModel" "ender" "[I") ∈ gG := gG_t (gG_12 (List.mem_of_getElem? (i := 1) rfl)) rfl
theorem q_2642 : (Jvm.Cond.fieldLink "SessionServerModel" (57 : Nat) "SessionServerModel" "enderCommand" "[I") ∈ gG := gG_t (gG_12 (List.mem_of_getElem? (i := 2) rfl)) rfl
theorem q_2643 : (Jvm.Cond.fieldLink "SessionServerModel" (60 : Nat) "SessionServerModel" "behind" "[I") ∈ gG := gG_t (gG_12 (List.mem_of_getElem? (i := 3) rfl)) rfl
theorem q_2644 : (Jvm.Cond.fieldLink "SessionServerModel" (68 : Nat) "SessionServerModel" "cells" "LSessionServerModel$Cells;") ∈ gG := gG_t (gG_12 (List.mem_of_getElem? (i := 4) rfl)) rfl
theorem q_2645 : (Jvm.Cond.fieldLink "SessionServerModel" (77 : Nat) "SessionServerModel" "work" "LSessionServerModel$Work;") ∈ gG := gG_t (gG_12 (List.mem_of_getElem? (i := 5) rfl)) rfl
theorem q_2646 : (Jvm.Cond.fieldLink "SessionServerModel" (210 : Nat) "SessionServerModel" "given" "I") ∈ gG := gG_t (gG_12 (List.mem_of_getElem? (i := 6) rfl)) rfl
theorem q_2647 : (Jvm.Cond.fieldLink "SessionServerModel" (216 : Nat) "SessionServerModel" "commits" "I") ∈ gG := gG_t (gG_12 (List.mem_of_getElem? (i := 7) rfl)) rfl
theorem q_2648 : (Jvm.Cond.fieldLink "SessionServerModel" (81 : Nat) "SessionServerModel" "state" "[I") ∈ gG := gG_t (gG_12 (List.mem_of_getElem? (i := 8) rfl)) rfl
theorem q_2649 : (Jvm.Cond.fieldLink "SessionServerModel" (84 : Nat) "SessionServerModel" "belongs" "[I") ∈ gG := gG_t (gG_12 (List.mem_of_getElem? (i := 9) rfl)) rfl
theorem q_2650 : (Jvm.Cond.fieldLink "SessionServerModel" (87 : Nat) "SessionServerModel" "place" "[I") ∈ gG := gG_t (gG_12 (List.mem_of_getElem? (i := 10) rfl)) rfl
theorem q_2651 : (Jvm.Cond.fieldLink "SessionServerModel" (90 : Nat) "SessionServerModel" "serialOf" "[I") ∈ gG := gG_t (gG_12 (List.mem_of_getElem? (i := 11) rfl)) rfl
theorem q_2655 : (Jvm.Cond.fieldLink "SessionServerModel" (93 : Nat) "SessionServerModel" "held" "[I") ∈ gG := gG_t (gG_12 (List.mem_of_getElem? (i := 15) rfl)) rfl
theorem q_2657 : (Jvm.Cond.fieldLink "SessionServerModel" (96 : Nat) "SessionServerModel" "lockRow" "[I") ∈ gG := gG_t (gG_12 (List.mem_of_getElem? (i := 17) rfl)) rfl
theorem q_2658 : (Jvm.Cond.fieldLink "SessionServerModel" (99 : Nat) "SessionServerModel" "lockBy" "[I") ∈ gG := gG_t (gG_12 (List.mem_of_getElem? (i := 18) rfl)) rfl
theorem q_2659 : (Jvm.Cond.fieldLink "SessionServerModel" (102 : Nat) "SessionServerModel" "lockHow" "[I") ∈ gG := gG_t (gG_12 (List.mem_of_getElem? (i := 19) rfl)) rfl
theorem q_2661 : (Jvm.Cond.fieldLink "SessionServerModel" (108 : Nat) "SessionServerModel" "span" "LSessionServerModel$Span;") ∈ gG := gG_t (gG_12 (List.mem_of_getElem? (i := 21) rfl)) rfl
theorem q_2662 : (Jvm.Cond.fieldLink "SessionServerModel" (112 : Nat) "SessionServerModel" "spans" "[LSessionServerModel$Span;") ∈ gG := gG_t (gG_12 (List.mem_of_getElem? (i := 22) rfl)) rfl
theorem q_2663 : (Jvm.Cond.fieldLink "SessionServerModel" (118 : Nat) "SessionServerModel" "lists" "[[I") ∈ gG := gG_t (gG_12 (List.mem_of_getElem? (i := 23) rfl)) rfl
theorem q_2664 : (Jvm.Cond.fieldLink "SessionServerModel" (121 : Nat) "SessionServerModel" "counts" "[I") ∈ gG := gG_t (gG_12 (List.mem_of_getElem? (i := 24) rfl)) rfl
theorem q_2665 : (Jvm.Cond.fieldLink "SessionServerModel" (124 : Nat) "SessionServerModel" "fresh" "LSessionServerModel$Cells;") ∈ gG := gG_t (gG_12 (List.mem_of_getElem? (i := 25) rfl)) rfl
theorem q_2667 : (Jvm.Cond.fieldLink "SessionServerModel" (127 : Nat) "SessionServerModel" "conditionOf" "[I") ∈ gG := gG_t (gG_12 (List.mem_of_getElem? (i := 27) rfl)) rfl
theorem q_2668 : (Jvm.Cond.fieldLink "SessionServerModel" (130 : Nat) "SessionServerModel" "joined" "[Z") ∈ gG := gG_t (gG_12 (List.mem_of_getElem? (i := 28) rfl)) rfl
theorem q_2669 : (Jvm.Cond.fieldLink "SessionServerModel" (134 : Nat) "SessionServerModel" "kept" "LSessionServerModel$Cells;") ∈ gG := gG_t (gG_12 (List.mem_of_getElem? (i := 29) rfl)) rfl
theorem q_2670 : (Jvm.Cond.lays "SessionServerModel" "SessionServerModel" "up" "Z") ∈ gG := gG_t (gG_12 (List.mem_of_getElem? (i := 30) rfl)) rfl
theorem q_2672 : (Jvm.Cond.lays "SessionServerModel" "SessionServerModel" "charge" "I") ∈ gG := gG_t (gG_12 (List.mem_of_getElem? (i := 32) rfl)) rfl
theorem q_2674 : (Jvm.Cond.laysFinal "SessionServerModel" "SessionServerModel" "tape" "[B") ∈ gG := gG_t (gG_12 (List.mem_of_getElem? (i := 34) rfl)) rfl
theorem q_2676 : (Jvm.Cond.lays "SessionServerModel" "SessionServerModel" "taped" "I") ∈ gG := gG_t (gG_12 (List.mem_of_getElem? (i := 36) rfl)) rfl
theorem q_2678 : (Jvm.Cond.laysFinal "SessionServerModel" "SessionServerModel" "catalog" "LSessionServerModel$Catalog;") ∈ gG := gG_t (gG_12 (List.mem_of_getElem? (i := 38) rfl)) rfl
theorem q_2680 : (Jvm.Cond.laysFinal "SessionServerModel" "SessionServerModel" "sessions" "[LSessionServerModel$Session;") ∈ gG := gG_t (gG_12 (List.mem_of_getElem? (i := 40) rfl)) rfl
theorem q_2682 : (Jvm.Cond.laysFinal "SessionServerModel" "SessionServerModel" "serials" "LSessionServerModel$Serial;") ∈ gG := gG_t (gG_12 (List.mem_of_getElem? (i := 42) rfl)) rfl
theorem q_2684 : (Jvm.Cond.lays "SessionServerModel" "SessionServerModel" "count" "I") ∈ gG := gG_t (gG_12 (List.mem_of_getElem? (i := 44) rfl)) rfl
theorem q_2686 : (Jvm.Cond.lays "SessionServerModel" "SessionServerModel" "made" "I") ∈ gG := gG_t (gG_12 (List.mem_of_getElem? (i := 46) rfl)) rfl
theorem q_2688 : (Jvm.Cond.laysFinal "SessionServerModel" "SessionServerModel" "number" "[I") ∈ gG := gG_t (gG_12 (List.mem_of_getElem? (i := 48) rfl)) rfl
theorem q_2690 : (Jvm.Cond.laysFinal "SessionServerModel" "SessionServerModel" "table" "[I") ∈ gG := gG_t (gG_12 (List.mem_of_getElem? (i := 50) rfl)) rfl
theorem q_2692 : (Jvm.Cond.laysFinal "SessionServerModel" "SessionServerModel" "maker" "[I") ∈ gG := gG_t (gG_12 (List.mem_of_getElem? (i := 52) rfl)) rfl
theorem q_2694 : (Jvm.Cond.laysFinal "SessionServerModel" "SessionServerModel" "makerCommand" "[I") ∈ gG := gG_t (gG_12 (List.mem_of_getElem? (i := 54) rfl)) rfl
theorem q_2696 : (Jvm.Cond.laysFinal "SessionServerModel" "SessionServerModel" "ender" "[I") ∈ gG := gG_t (gG_12 (List.mem_of_getElem? (i := 56) rfl)) rfl
theorem q_2698 : (Jvm.Cond.laysFinal "SessionServerModel" "SessionServerModel" "enderCommand" "[I") ∈ gG := gG_t (gG_12 (List.mem_of_getElem? (i := 58) rfl)) rfl
theorem q_2700 : (Jvm.Cond.laysFinal "SessionServerModel" "SessionServerModel" "behind" "[I") ∈ gG := gG_t (gG_12 (List.mem_of_getElem? (i := 60) rfl)) rfl
theorem q_2702 : (Jvm.Cond.laysFinal "SessionServerModel" "SessionServerModel" "cells" "LSessionServerModel$Cells;") ∈ gG := gG_t (gG_12 (List.mem_of_getElem? (i := 62) rfl)) rfl
theorem q_2704 : (Jvm.Cond.laysFinal "SessionServerModel" "SessionServerModel" "work" "LSessionServerModel$Work;") ∈ gG := gG_t (gG_12 (List.mem_of_getElem? (i := 64) rfl)) rfl
theorem q_2706 : (Jvm.Cond.lays "SessionServerModel" "SessionServerModel" "given" "I") ∈ gG := gG_t (gG_12 (List.mem_of_getElem? (i := 66) rfl)) rfl
theorem q_2708 : (Jvm.Cond.lays "SessionServerModel" "SessionServerModel" "commits" "I") ∈ gG := gG_t (gG_12 (List.mem_of_getElem? (i := 68) rfl)) rfl
theorem q_2710 : (Jvm.Cond.laysFinal "SessionServerModel" "SessionServerModel" "state" "[I") ∈ gG := gG_t (gG_12 (List.mem_of_getElem? (i := 70) rfl)) rfl
theorem q_2712 : (Jvm.Cond.laysFinal "SessionServerModel" "SessionServerModel" "belongs" "[I") ∈ gG := gG_t (gG_12 (List.mem_of_getElem? (i := 72) rfl)) rfl
theorem q_2714 : (Jvm.Cond.laysFinal "SessionServerModel" "SessionServerModel" "place" "[I") ∈ gG := gG_t (gG_12 (List.mem_of_getElem? (i := 74) rfl)) rfl
theorem q_2716 : (Jvm.Cond.laysFinal "SessionServerModel" "SessionServerModel" "serialOf" "[I") ∈ gG := gG_t (gG_12 (List.mem_of_getElem? (i := 76) rfl)) rfl
theorem q_2718 : (Jvm.Cond.lays "SessionServerModel" "SessionServerModel" "sureMade" "I") ∈ gG := gG_t (gG_12 (List.mem_of_getElem? (i := 78) rfl)) rfl
theorem q_2720 : (Jvm.Cond.lays "SessionServerModel" "SessionServerModel" "sureGiven" "I") ∈ gG := gG_t (gG_12 (List.mem_of_getElem? (i := 80) rfl)) rfl
theorem q_2722 : (Jvm.Cond.lays "SessionServerModel" "SessionServerModel" "sureCommits" "I") ∈ gG := gG_t (gG_12 (List.mem_of_getElem? (i := 82) rfl)) rfl
theorem q_2724 : (Jvm.Cond.laysFinal "SessionServerModel" "SessionServerModel" "held" "[I") ∈ gG := gG_t (gG_12 (List.mem_of_getElem? (i := 84) rfl)) rfl
theorem q_2726 : (Jvm.Cond.lays "SessionServerModel" "SessionServerModel" "locked" "I") ∈ gG := gG_t (gG_12 (List.mem_of_getElem? (i := 86) rfl)) rfl
theorem q_2728 : (Jvm.Cond.laysFinal "SessionServerModel" "SessionServerModel" "lockRow" "[I") ∈ gG := gG_t (gG_12 (List.mem_of_getElem? (i := 88) rfl)) rfl
theorem q_2730 : (Jvm.Cond.laysFinal "SessionServerModel" "SessionServerModel" "lockBy" "[I") ∈ gG := gG_t (gG_12 (List.mem_of_getElem? (i := 90) rfl)) rfl
theorem q_2732 : (Jvm.Cond.laysFinal "SessionServerModel" "SessionServerModel" "lockHow" "[I") ∈ gG := gG_t (gG_12 (List.mem_of_getElem? (i := 92) rfl)) rfl
theorem q_2734 : (Jvm.Cond.lays "SessionServerModel" "SessionServerModel" "clock" "I") ∈ gG := gG_t (gG_12 (List.mem_of_getElem? (i := 94) rfl)) rfl
theorem q_2736 : (Jvm.Cond.laysFinal "SessionServerModel" "SessionServerModel" "span" "LSessionServerModel$Span;") ∈ gG := gG_t (gG_12 (List.mem_of_getElem? (i := 96) rfl)) rfl
theorem q_2738 : (Jvm.Cond.laysFinal "SessionServerModel" "SessionServerModel" "spans" "[LSessionServerModel$Span;") ∈ gG := gG_t (gG_12 (List.mem_of_getElem? (i := 98) rfl)) rfl
theorem q_2740 : (Jvm.Cond.laysFinal "SessionServerModel" "SessionServerModel" "lists" "[[I") ∈ gG := gG_t (gG_12 (List.mem_of_getElem? (i := 100) rfl)) rfl
theorem q_2742 : (Jvm.Cond.laysFinal "SessionServerModel" "SessionServerModel" "counts" "[I") ∈ gG := gG_t (gG_12 (List.mem_of_getElem? (i := 102) rfl)) rfl
theorem q_2744 : (Jvm.Cond.laysFinal "SessionServerModel" "SessionServerModel" "fresh" "LSessionServerModel$Cells;") ∈ gG := gG_t (gG_12 (List.mem_of_getElem? (i := 104) rfl)) rfl
theorem q_2746 : (Jvm.Cond.lays "SessionServerModel" "SessionServerModel" "conditions" "I") ∈ gG := gG_t (gG_12 (List.mem_of_getElem? (i := 106) rfl)) rfl
theorem q_2748 : (Jvm.Cond.laysFinal "SessionServerModel" "SessionServerModel" "conditionOf" "[I") ∈ gG := gG_t (gG_12 (List.mem_of_getElem? (i := 108) rfl)) rfl
theorem q_2750 : (Jvm.Cond.laysFinal "SessionServerModel" "SessionServerModel" "joined" "[Z") ∈ gG := gG_t (gG_12 (List.mem_of_getElem? (i := 110) rfl)) rfl
theorem q_2752 : (Jvm.Cond.laysFinal "SessionServerModel" "SessionServerModel" "kept" "LSessionServerModel$Cells;") ∈ gG := gG_t (gG_12 (List.mem_of_getElem? (i := 112) rfl)) rfl
theorem q_2755 : (Jvm.Cond.methodLink "SessionServerLaw" (17 : Nat) ({ cls := "SessionServerModel", name := "feed", desc := "(IIIII)Z" } : Jvm.MethodName)) ∈ gG := gG_t (gG_12 (List.mem_of_getElem? (i := 115) rfl)) rfl
theorem q_2756 : (Jvm.Cond.instanceMethod ({ cls := "SessionServerModel", name := "feed", desc := "(IIIII)Z" } : Jvm.MethodName)) ∈ gG := gG_t (gG_12 (List.mem_of_getElem? (i := 116) rfl)) rfl
theorem q_2758 : (Jvm.Cond.code ({ cls := "SessionServerModel", name := "feed", desc := "(IIIII)Z" } : Jvm.MethodName) prog_15_method_81_code (8 : Nat) (Option.some Jvm.ClassFile.FieldType.boolean)) ∈ gG := gG_t (gG_12 (List.mem_of_getElem? (i := 118) rfl)) rfl
theorem q_2759 : (Jvm.Cond.methodLink "SessionServerLaw" (22 : Nat) ({ cls := "SessionServerModel", name := "open", desc := "(I)Z" } : Jvm.MethodName)) ∈ gG := gG_t (gG_12 (List.mem_of_getElem? (i := 119) rfl)) rfl
theorem q_2760 : (Jvm.Cond.instanceMethod ({ cls := "SessionServerModel", name := "open", desc := "(I)Z" } : Jvm.MethodName)) ∈ gG := gG_t (gG_12 (List.mem_of_getElem? (i := 120) rfl)) rfl
theorem q_2762 : (Jvm.Cond.code ({ cls := "SessionServerModel", name := "open", desc := "(I)Z" } : Jvm.MethodName) prog_15_method_82_code (3 : Nat) (Option.some Jvm.ClassFile.FieldType.boolean)) ∈ gG := gG_t (gG_12 (List.mem_of_getElem? (i := 122) rfl)) rfl
theorem q_2763 : (Jvm.Cond.methodLink "SessionServerModel" (269 : Nat) ({ cls := "SessionServerModel$Session", name := "clear", desc := "()V" } : Jvm.MethodName)) ∈ gG := gG_t (gG_12 (List.mem_of_getElem? (i := 123) rfl)) rfl
theorem q_2764 : (Jvm.Cond.instanceMethod ({ cls := "SessionServerModel$Session", name := "clear", desc := "()V" } : Jvm.MethodName)) ∈ gG := gG_t (gG_12 (List.mem_of_getElem? (i := 124) rfl)) rfl
theorem q_2766 : (Jvm.Cond.code ({ cls := "SessionServerModel$Session", name := "clear", desc := "()V" } : Jvm.MethodName) prog_20_method_2_code (1 : Nat) (Option.none : Option Jvm.ClassFile.FieldType)) ∈ gG := gG_t (gG_12 (List.mem_of_getElem? (i := 126) rfl)) rfl
theorem q_2767 : (Jvm.Cond.methodLink "SessionServerLaw" (26 : Nat) ({ cls := "SessionServerModel", name := "close", desc := "(I)Z" } : Jvm.MethodName)) ∈ gG := gG_t (gG_12 (List.mem_of_getElem? (i := 127) rfl)) rfl
theorem q_2768 : (Jvm.Cond.instanceMethod ({ cls := "SessionServerModel", name := "close", desc := "(I)Z" } : Jvm.MethodName)) ∈ gG := gG_t (gG_12 (List.mem_of_getElem? (i := 128) rfl)) rfl
theorem q_2770 : (Jvm.Cond.code ({ cls := "SessionServerModel", name := "close", desc := "(I)Z" } : Jvm.MethodName) prog_15_method_83_code (3 : Nat) (Option.some Jvm.ClassFile.FieldType.boolean)) ∈ gG := gG_t (gG_12 (List.mem_of_getElem? (i := 130) rfl)) rfl
theorem q_2771 : (Jvm.Cond.methodLink "SessionServerModel" (905 : Nat) ({ cls := "SessionServerModel", name := "isOpen", desc := "(I)Z" } : Jvm.MethodName)) ∈ gG := gG_t (gG_12 (List.mem_of_getElem? (i := 131) rfl)) rfl
theorem q_2773 : (Jvm.Cond.instanceMethod ({ cls := "SessionServerModel", name := "isOpen", desc := "(I)Z" } : Jvm.MethodName)) ∈ gG := gG_t (gG_12 (List.mem_of_getElem? (i := 133) rfl)) rfl
theorem q_2774 : (Jvm.Cond.code ({ cls := "SessionServerModel", name := "isOpen", desc := "(I)Z" } : Jvm.MethodName) prog_15_method_80_code (2 : Nat) (Option.some Jvm.ClassFile.FieldType.boolean)) ∈ gG := gG_t (gG_12 (List.mem_of_getElem? (i := 134) rfl)) rfl
theorem q_3439 : (Jvm.Cond.methodLink "SessionServerLaw" (31 : Nat) ({ cls := "SessionServerModel", name := "send", desc := "(II)I" } : Jvm.MethodName)) ∈ gG := gG_t (gG_15 (List.mem_of_getElem? (i := 79) rfl)) rfl
theorem q_3440 : (Jvm.Cond.instanceMethod ({ cls := "SessionServerModel", name := "send", desc := "(II)I" } : Jvm.MethodName)) ∈ gG := gG_t (gG_15 (List.mem_of_getElem? (i := 80) rfl)) rfl
theorem q_3442 : (Jvm.Cond.code ({ cls := "SessionServerModel", name := "send", desc := "(II)I" } : Jvm.MethodName) prog_15_method_84_code (5 : Nat) (Option.some Jvm.ClassFile.FieldType.int)) ∈ gG := gG_t (gG_15 (List.mem_of_getElem? (i := 82) rfl)) rfl
theorem q_3851 : (Jvm.Cond.methodLink "SessionServerModel" (742 : Nat) ({ cls := "SessionServerModel$Catalog", name := "tables", desc := "()I" } : Jvm.MethodName)) ∈ gG := gG_t (gG_17 (List.mem_of_getElem? (i := 11) rfl)) rfl
theorem q_3852 : (Jvm.Cond.instanceMethod ({ cls := "SessionServerModel$Catalog", name := "tables", desc := "()I" } : Jvm.MethodName)) ∈ gG := gG_t (gG_17 (List.mem_of_getElem? (i := 12) rfl)) rfl
theorem q_3854 : (Jvm.Cond.code ({ cls := "SessionServerModel$Catalog", name := "tables", desc := "()I" } : Jvm.MethodName) prog_16_method_7_code (3 : Nat) (Option.some Jvm.ClassFile.FieldType.int)) ∈ gG := gG_t (gG_17 (List.mem_of_getElem? (i := 14) rfl)) rfl
theorem q_3863 : (Jvm.Cond.methodLink "SessionServerLaw" (36 : Nat) ({ cls := "SessionServerModel", name := "fetch", desc := "(I)J" } : Jvm.MethodName)) ∈ gG := gG_t (gG_17 (List.mem_of_getElem? (i := 23) rfl)) rfl
theorem q_3864 : (Jvm.Cond.instanceMethod ({ cls := "SessionServerModel", name := "fetch", desc := "(I)J" } : Jvm.MethodName)) ∈ gG := gG_t (gG_17 (List.mem_of_getElem? (i := 24) rfl)) rfl
theorem q_3866 : (Jvm.Cond.code ({ cls := "SessionServerModel", name := "fetch", desc := "(I)J" } : Jvm.MethodName) prog_15_method_85_code (7 : Nat) (Option.some Jvm.ClassFile.FieldType.long)) ∈ gG := gG_t (gG_17 (List.mem_of_getElem? (i := 26) rfl)) rfl
theorem q_3867 : (Jvm.Cond.methodLink "SessionServerLaw" (40 : Nat) ({ cls := "SessionServerModel", name := "cancel", desc := "(I)Z" } : Jvm.MethodName)) ∈ gG := gG_t (gG_17 (List.mem_of_getElem? (i := 27) rfl)) rfl
theorem q_3868 : (Jvm.Cond.instanceMethod ({ cls := "SessionServerModel", name := "cancel", desc := "(I)Z" } : Jvm.MethodName)) ∈ gG := gG_t (gG_17 (List.mem_of_getElem? (i := 28) rfl)) rfl
theorem q_3870 : (Jvm.Cond.code ({ cls := "SessionServerModel", name := "cancel", desc := "(I)Z" } : Jvm.MethodName) prog_15_method_86_code (2 : Nat) (Option.some Jvm.ClassFile.FieldType.boolean)) ∈ gG := gG_t (gG_17 (List.mem_of_getElem? (i := 30) rfl)) rfl
theorem q_3871 : (Jvm.Cond.methodLink "SessionServerLaw" (44 : Nat) ({ cls := "SessionServerModel", name := "charge", desc := "(I)Z" } : Jvm.MethodName)) ∈ gG := gG_t (gG_17 (List.mem_of_getElem? (i := 31) rfl)) rfl
theorem q_3872 : (Jvm.Cond.instanceMethod ({ cls := "SessionServerModel", name := "charge", desc := "(I)Z" } : Jvm.MethodName)) ∈ gG := gG_t (gG_17 (List.mem_of_getElem? (i := 32) rfl)) rfl
theorem q_3874 : (Jvm.Cond.code ({ cls := "SessionServerModel", name := "charge", desc := "(I)Z" } : Jvm.MethodName) prog_15_method_87_code (2 : Nat) (Option.some Jvm.ClassFile.FieldType.boolean)) ∈ gG := gG_t (gG_17 (List.mem_of_getElem? (i := 34) rfl)) rfl
theorem q_3875 : (Jvm.Cond.methodLink "SessionServerLaw" (49 : Nat) ({ cls := "SessionServerModel", name := "start", desc := "()Z" } : Jvm.MethodName)) ∈ gG := gG_t (gG_17 (List.mem_of_getElem? (i := 35) rfl)) rfl
theorem q_3876 : (Jvm.Cond.instanceMethod ({ cls := "SessionServerModel", name := "start", desc := "()Z" } : Jvm.MethodName)) ∈ gG := gG_t (gG_17 (List.mem_of_getElem? (i := 36) rfl)) rfl
theorem q_3878 : (Jvm.Cond.code ({ cls := "SessionServerModel", name := "start", desc := "()Z" } : Jvm.MethodName) prog_15_method_88_code (3 : Nat) (Option.some Jvm.ClassFile.FieldType.boolean)) ∈ gG := gG_t (gG_17 (List.mem_of_getElem? (i := 38) rfl)) rfl
theorem q_3879 : (Jvm.Cond.methodLink "SessionServerLaw" (54 : Nat) ({ cls := "SessionServerModel", name := "state", desc := "(I)I" } : Jvm.MethodName)) ∈ gG := gG_t (gG_17 (List.mem_of_getElem? (i := 39) rfl)) rfl
theorem q_3880 : (Jvm.Cond.instanceMethod ({ cls := "SessionServerModel", name := "state", desc := "(I)I" } : Jvm.MethodName)) ∈ gG := gG_t (gG_17 (List.mem_of_getElem? (i := 40) rfl)) rfl
theorem q_3882 : (Jvm.Cond.code ({ cls := "SessionServerModel", name := "state", desc := "(I)I" } : Jvm.MethodName) prog_15_method_89_code (4 : Nat) (Option.some Jvm.ClassFile.FieldType.int)) ∈ gG := gG_t (gG_17 (List.mem_of_getElem? (i := 42) rfl)) rfl
theorem q_3883 : (Jvm.Cond.methodLink "SessionServerLaw" (59 : Nat) ({ cls := "SessionServerModel", name := "rings", desc := "()I" } : Jvm.MethodName)) ∈ gG := gG_t (gG_17 (List.mem_of_getElem? (i := 43) rfl)) rfl
theorem q_3884 : (Jvm.Cond.instanceMethod ({ cls := "SessionServerModel", name := "rings", desc := "()I" } : Jvm.MethodName)) ∈ gG := gG_t (gG_17 (List.mem_of_getElem? (i := 44) rfl)) rfl
theorem q_3886 : (Jvm.Cond.code ({ cls := "SessionServerModel", name := "rings", desc := "()I" } : Jvm.MethodName) prog_15_method_90_code (1 : Nat) (Option.some Jvm.ClassFile.FieldType.int)) ∈ gG := gG_t (gG_17 (List.mem_of_getElem? (i := 46) rfl)) rfl
theorem q_3887 : (Jvm.Cond.methodLink "SessionServerModel" (922 : Nat) ({ cls := "SessionServerModel$Serial", name := "countRings", desc := "()I" } : Jvm.MethodName)) ∈ gG := gG_t (gG_17 (List.mem_of_getElem? (i := 47) rfl)) rfl
theorem q_3888 : (Jvm.Cond.instanceMethod ({ cls := "SessionServerModel$Serial", name := "countRings", desc := "()I" } : Jvm.MethodName)) ∈ gG := gG_t (gG_17 (List.mem_of_getElem? (i := 48) rfl)) rfl
theorem q_3890 : (Jvm.Cond.code ({ cls := "SessionServerModel$Serial", name := "countRings", desc := "()I" } : Jvm.MethodName) prog_19_method_22_code (3 : Nat) (Option.some Jvm.ClassFile.FieldType.int)) ∈ gG := gG_t (gG_17 (List.mem_of_getElem? (i := 50) rfl)) rfl
theorem q_3899 : (Jvm.Cond.methodLink "SessionServerLaw" (63 : Nat) ({ cls := "SessionServerModel", name := "count", desc := "(I)I" } : Jvm.MethodName)) ∈ gG := gG_t (gG_17 (List.mem_of_getElem? (i := 59) rfl)) rfl
theorem q_3900 : (Jvm.Cond.instanceMethod ({ cls := "SessionServerModel", name := "count", desc := "(I)I" } : Jvm.MethodName)) ∈ gG := gG_t (gG_17 (List.mem_of_getElem? (i := 60) rfl)) rfl
theorem q_3902 : (Jvm.Cond.code ({ cls := "SessionServerModel", name := "count", desc := "(I)I" } : Jvm.MethodName) prog_15_method_91_code (4 : Nat) (Option.some Jvm.ClassFile.FieldType.int)) ∈ gG := gG_t (gG_17 (List.mem_of_getElem? (i := 62) rfl)) rfl
theorem sel_Server_feed : (Jvm.Cond.selects "SessionServer" ({ cls := "SessionServer", name := "feed", desc := "(IIIII)Z" } : Jvm.MethodName) ({ cls := "SessionServer", name := "feed", desc := "(IIIII)Z" } : Jvm.MethodName)) ∈ gG := gG_t (gG_4 (List.mem_of_getElem? (i := 181) rfl)) rfl
theorem sel_Server_tapeInt : (Jvm.Cond.selects "SessionServer" ({ cls := "SessionServer", name := "tapeInt", desc := "(I)V" } : Jvm.MethodName) ({ cls := "SessionServer", name := "tapeInt", desc := "(I)V" } : Jvm.MethodName)) ∈ gG := gG_s (List.mem_map.mpr ⟨(⟨"SessionServer", "tapeInt", "(I)V"⟩, 12), List.mem_of_getElem? (i := 0) rfl, rfl⟩) rfl
theorem sel_Server_open : (Jvm.Cond.selects "SessionServer" ({ cls := "SessionServer", name := "open", desc := "(I)Z" } : Jvm.MethodName) ({ cls := "SessionServer", name := "open", desc := "(I)Z" } : Jvm.MethodName)) ∈ gG := gG_t (gG_4 (List.mem_of_getElem? (i := 189) rfl)) rfl
theorem sel_SSession_reset : (Jvm.Cond.selects "SessionServer$Session" ({ cls := "SessionServer$Session", name := "reset", desc := "()V" } : Jvm.MethodName) ({ cls := "SessionServer$Session", name := "reset", desc := "()V" } : Jvm.MethodName)) ∈ gG := gG_t (gG_4 (List.mem_of_getElem? (i := 196) rfl)) rfl
theorem sel_SSession_endTransaction : (Jvm.Cond.selects "SessionServer$Session" ({ cls := "SessionServer$Session", name := "endTransaction", desc := "()V" } : Jvm.MethodName) ({ cls := "SessionServer$Session", name := "endTransaction", desc := "()V" } : Jvm.MethodName)) ∈ gG := gG_t (gG_4 (List.mem_of_getElem? (i := 200) rfl)) rfl
theorem sel_SSession_clearLevels : (Jvm.Cond.selects "SessionServer$Session" ({ cls := "SessionServer$Session", name := "clearLevels", desc := "(I)V" } : Jvm.MethodName) ({ cls := "SessionServer$Session", name := "clearLevels", desc := "(I)V" } : Jvm.MethodName)) ∈ gG := gG_t (gG_4 (List.mem_of_getElem? (i := 204) rfl)) rfl
theorem sel_SWork_clear : (Jvm.Cond.selects "SessionServer$Work" ({ cls := "SessionServer$Work", name := "clear", desc := "()V" } : Jvm.MethodName) ({ cls := "SessionServer$Work", name := "clear", desc := "()V" } : Jvm.MethodName)) ∈ gG := gG_t (gG_4 (List.mem_of_getElem? (i := 208) rfl)) rfl
theorem sel_Server_close : (Jvm.Cond.selects "SessionServer" ({ cls := "SessionServer", name := "close", desc := "(I)Z" } : Jvm.MethodName) ({ cls := "SessionServer", name := "close", desc := "(I)Z" } : Jvm.MethodName)) ∈ gG := gG_t (gG_4 (List.mem_of_getElem? (i := 215) rfl)) rfl
theorem sel_SStore_tablesThere : (Jvm.Cond.selects "SessionServer$Store" ({ cls := "SessionServer$Store", name := "tablesThere", desc := "()I" } : Jvm.MethodName) ({ cls := "SessionServer$Store", name := "tablesThere", desc := "()I" } : Jvm.MethodName)) ∈ gG := gG_t (gG_6 (List.mem_of_getElem? (i := 177) rfl)) rfl
theorem sel_Server_send : (Jvm.Cond.selects "SessionServer" ({ cls := "SessionServer", name := "send", desc := "(II)I" } : Jvm.MethodName) ({ cls := "SessionServer", name := "send", desc := "(II)I" } : Jvm.MethodName)) ∈ gG := gG_t (gG_7 (List.mem_of_getElem? (i := 136) rfl)) rfl
theorem sel_Server_fetch : (Jvm.Cond.selects "SessionServer" ({ cls := "SessionServer", name := "fetch", desc := "(I)J" } : Jvm.MethodName) ({ cls := "SessionServer", name := "fetch", desc := "(I)J" } : Jvm.MethodName)) ∈ gG := gG_t (gG_9 (List.mem_of_getElem? (i := 1) rfl)) rfl
theorem sel_Server_cancel : (Jvm.Cond.selects "SessionServer" ({ cls := "SessionServer", name := "cancel", desc := "(I)Z" } : Jvm.MethodName) ({ cls := "SessionServer", name := "cancel", desc := "(I)Z" } : Jvm.MethodName)) ∈ gG := gG_t (gG_9 (List.mem_of_getElem? (i := 6) rfl)) rfl
theorem sel_Server_charge : (Jvm.Cond.selects "SessionServer" ({ cls := "SessionServer", name := "charge", desc := "(I)Z" } : Jvm.MethodName) ({ cls := "SessionServer", name := "charge", desc := "(I)Z" } : Jvm.MethodName)) ∈ gG := gG_t (gG_9 (List.mem_of_getElem? (i := 10) rfl)) rfl
theorem sel_Server_start : (Jvm.Cond.selects "SessionServer" ({ cls := "SessionServer", name := "start", desc := "()Z" } : Jvm.MethodName) ({ cls := "SessionServer", name := "start", desc := "()Z" } : Jvm.MethodName)) ∈ gG := gG_t (gG_9 (List.mem_of_getElem? (i := 14) rfl)) rfl
theorem sel_Server_state : (Jvm.Cond.selects "SessionServer" ({ cls := "SessionServer", name := "state", desc := "(I)I" } : Jvm.MethodName) ({ cls := "SessionServer", name := "state", desc := "(I)I" } : Jvm.MethodName)) ∈ gG := gG_t (gG_9 (List.mem_of_getElem? (i := 38) rfl)) rfl
theorem sel_Server_rings : (Jvm.Cond.selects "SessionServer" ({ cls := "SessionServer", name := "rings", desc := "()I" } : Jvm.MethodName) ({ cls := "SessionServer", name := "rings", desc := "()I" } : Jvm.MethodName)) ∈ gG := gG_t (gG_9 (List.mem_of_getElem? (i := 42) rfl)) rfl
theorem sel_Server_count : (Jvm.Cond.selects "SessionServer" ({ cls := "SessionServer", name := "count", desc := "(I)I" } : Jvm.MethodName) ({ cls := "SessionServer", name := "count", desc := "(I)I" } : Jvm.MethodName)) ∈ gG := gG_t (gG_9 (List.mem_of_getElem? (i := 46) rfl)) rfl
theorem sel_Server_waiting : (Jvm.Cond.selects "SessionServer" ({ cls := "SessionServer", name := "waiting", desc := "()I" } : Jvm.MethodName) ({ cls := "SessionServer", name := "waiting", desc := "()I" } : Jvm.MethodName)) ∈ gG := gG_s (List.mem_map.mpr ⟨(⟨"SessionServer", "waiting", "()I"⟩, 12), List.mem_of_getElem? (i := 1) rfl, rfl⟩) rfl
theorem sel_MReader_forget : (Jvm.Cond.selects "SessionServerModel$Reader" ({ cls := "SessionServerModel$Reader", name := "forget", desc := "()V" } : Jvm.MethodName) ({ cls := "SessionServerModel$Reader", name := "forget", desc := "()V" } : Jvm.MethodName)) ∈ gG := gG_s (List.mem_map.mpr ⟨(⟨"SessionServerModel$Reader", "forget", "()V"⟩, 62), List.mem_of_getElem? (i := 2) rfl, rfl⟩) rfl
theorem sel_Model_feed : (Jvm.Cond.selects "SessionServerModel" ({ cls := "SessionServerModel", name := "feed", desc := "(IIIII)Z" } : Jvm.MethodName) ({ cls := "SessionServerModel", name := "feed", desc := "(IIIII)Z" } : Jvm.MethodName)) ∈ gG := gG_t (gG_12 (List.mem_of_getElem? (i := 117) rfl)) rfl
theorem sel_Model_open : (Jvm.Cond.selects "SessionServerModel" ({ cls := "SessionServerModel", name := "open", desc := "(I)Z" } : Jvm.MethodName) ({ cls := "SessionServerModel", name := "open", desc := "(I)Z" } : Jvm.MethodName)) ∈ gG := gG_t (gG_12 (List.mem_of_getElem? (i := 121) rfl)) rfl
theorem sel_MSession_clear : (Jvm.Cond.selects "SessionServerModel$Session" ({ cls := "SessionServerModel$Session", name := "clear", desc := "()V" } : Jvm.MethodName) ({ cls := "SessionServerModel$Session", name := "clear", desc := "()V" } : Jvm.MethodName)) ∈ gG := gG_t (gG_12 (List.mem_of_getElem? (i := 125) rfl)) rfl
theorem sel_Model_close : (Jvm.Cond.selects "SessionServerModel" ({ cls := "SessionServerModel", name := "close", desc := "(I)Z" } : Jvm.MethodName) ({ cls := "SessionServerModel", name := "close", desc := "(I)Z" } : Jvm.MethodName)) ∈ gG := gG_t (gG_12 (List.mem_of_getElem? (i := 129) rfl)) rfl
theorem sel_Model_isOpen : (Jvm.Cond.selects "SessionServerModel" ({ cls := "SessionServerModel", name := "isOpen", desc := "(I)Z" } : Jvm.MethodName) ({ cls := "SessionServerModel", name := "isOpen", desc := "(I)Z" } : Jvm.MethodName)) ∈ gG := gG_s (List.mem_map.mpr ⟨(⟨"SessionServerModel", "isOpen", "(I)Z"⟩, 42), List.mem_of_getElem? (i := 3) rfl, rfl⟩) rfl
theorem sel_Model_send : (Jvm.Cond.selects "SessionServerModel" ({ cls := "SessionServerModel", name := "send", desc := "(II)I" } : Jvm.MethodName) ({ cls := "SessionServerModel", name := "send", desc := "(II)I" } : Jvm.MethodName)) ∈ gG := gG_t (gG_15 (List.mem_of_getElem? (i := 81) rfl)) rfl
theorem sel_MCatalog_tables : (Jvm.Cond.selects "SessionServerModel$Catalog" ({ cls := "SessionServerModel$Catalog", name := "tables", desc := "()I" } : Jvm.MethodName) ({ cls := "SessionServerModel$Catalog", name := "tables", desc := "()I" } : Jvm.MethodName)) ∈ gG := gG_t (gG_17 (List.mem_of_getElem? (i := 13) rfl)) rfl
theorem sel_Model_fetch : (Jvm.Cond.selects "SessionServerModel" ({ cls := "SessionServerModel", name := "fetch", desc := "(I)J" } : Jvm.MethodName) ({ cls := "SessionServerModel", name := "fetch", desc := "(I)J" } : Jvm.MethodName)) ∈ gG := gG_t (gG_17 (List.mem_of_getElem? (i := 25) rfl)) rfl
theorem sel_Model_cancel : (Jvm.Cond.selects "SessionServerModel" ({ cls := "SessionServerModel", name := "cancel", desc := "(I)Z" } : Jvm.MethodName) ({ cls := "SessionServerModel", name := "cancel", desc := "(I)Z" } : Jvm.MethodName)) ∈ gG := gG_t (gG_17 (List.mem_of_getElem? (i := 29) rfl)) rfl
theorem sel_Model_charge : (Jvm.Cond.selects "SessionServerModel" ({ cls := "SessionServerModel", name := "charge", desc := "(I)Z" } : Jvm.MethodName) ({ cls := "SessionServerModel", name := "charge", desc := "(I)Z" } : Jvm.MethodName)) ∈ gG := gG_t (gG_17 (List.mem_of_getElem? (i := 33) rfl)) rfl
theorem sel_Model_start : (Jvm.Cond.selects "SessionServerModel" ({ cls := "SessionServerModel", name := "start", desc := "()Z" } : Jvm.MethodName) ({ cls := "SessionServerModel", name := "start", desc := "()Z" } : Jvm.MethodName)) ∈ gG := gG_t (gG_17 (List.mem_of_getElem? (i := 37) rfl)) rfl
theorem sel_Model_state : (Jvm.Cond.selects "SessionServerModel" ({ cls := "SessionServerModel", name := "state", desc := "(I)I" } : Jvm.MethodName) ({ cls := "SessionServerModel", name := "state", desc := "(I)I" } : Jvm.MethodName)) ∈ gG := gG_t (gG_17 (List.mem_of_getElem? (i := 41) rfl)) rfl
theorem sel_Model_rings : (Jvm.Cond.selects "SessionServerModel" ({ cls := "SessionServerModel", name := "rings", desc := "()I" } : Jvm.MethodName) ({ cls := "SessionServerModel", name := "rings", desc := "()I" } : Jvm.MethodName)) ∈ gG := gG_t (gG_17 (List.mem_of_getElem? (i := 45) rfl)) rfl
theorem sel_MSerial_countRings : (Jvm.Cond.selects "SessionServerModel$Serial" ({ cls := "SessionServerModel$Serial", name := "countRings", desc := "()I" } : Jvm.MethodName) ({ cls := "SessionServerModel$Serial", name := "countRings", desc := "()I" } : Jvm.MethodName)) ∈ gG := gG_t (gG_17 (List.mem_of_getElem? (i := 49) rfl)) rfl
theorem sel_Model_count : (Jvm.Cond.selects "SessionServerModel" ({ cls := "SessionServerModel", name := "count", desc := "(I)I" } : Jvm.MethodName) ({ cls := "SessionServerModel", name := "count", desc := "(I)I" } : Jvm.MethodName)) ∈ gG := gG_t (gG_17 (List.mem_of_getElem? (i := 61) rfl)) rfl
