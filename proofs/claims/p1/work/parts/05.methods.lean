abbrev R_JArrays : String := "java/util/Arrays"
abbrev b_Server_init : ByteArray := prog_1_method_1_code
abbrev y_Server_init : MethodName := ⟨"SessionServer", "<init>", "()V"⟩
abbrev w_Server_init : List Cond := .code y_Server_init b_Server_init 2 none :: gG
abbrev b_SStore_init : ByteArray := prog_11_method_1_code
abbrev y_SStore_init : MethodName := ⟨"SessionServer$Store", "<init>", "()V"⟩
abbrev w_SStore_init : List Cond := .code y_SStore_init b_SStore_init 2 none :: gG
abbrev b_STable_init : ByteArray := prog_12_method_1_code
abbrev y_STable_init : MethodName := ⟨"SessionServer$Table", "<init>", "()V"⟩
abbrev w_STable_init : List Cond := .code y_STable_init b_STable_init 1 none :: gG
abbrev b_SLedger_init : ByteArray := prog_5_method_1_code
abbrev y_SLedger_init : MethodName := ⟨"SessionServer$Ledger", "<init>", "()V"⟩
abbrev w_SLedger_init : List Cond := .code y_SLedger_init b_SLedger_init 1 none :: gG
abbrev b_SSerial_init : ByteArray := prog_8_method_1_code
abbrev y_SSerial_init : MethodName := ⟨"SessionServer$Serial", "<init>", "(LSessionServer$Store;LSessionServer$Ledger;)V"⟩
abbrev w_SSerial_init : List Cond := .code y_SSerial_init b_SSerial_init 3 none :: gG
abbrev b_SMachine_init : ByteArray := prog_6_method_1_code
abbrev y_SMachine_init : MethodName := ⟨"SessionServer$Machine", "<init>", "(LSessionServer$Store;)V"⟩
abbrev w_SMachine_init : List Cond := .code y_SMachine_init b_SMachine_init 2 none :: gG
abbrev b_SFinder_init : ByteArray := prog_4_method_1_code
abbrev y_SFinder_init : MethodName := ⟨"SessionServer$Finder", "<init>", "(LSessionServer$Store;LSessionServer$Ledger;LSessionServer$Serial;LSessionServer$Machine;)V"⟩
abbrev w_SFinder_init : List Cond := .code y_SFinder_init b_SFinder_init 5 none :: gG
abbrev b_SParser_init : ByteArray := prog_7_method_1_code
abbrev y_SParser_init : MethodName := ⟨"SessionServer$Parser", "<init>", "()V"⟩
abbrev w_SParser_init : List Cond := .code y_SParser_init b_SParser_init 1 none :: gG
abbrev b_SChecker_init : ByteArray := prog_2_method_1_code
abbrev y_SChecker_init : MethodName := ⟨"SessionServer$Checker", "<init>", "(LSessionServer$Store;)V"⟩
abbrev w_SChecker_init : List Cond := .code y_SChecker_init b_SChecker_init 2 none :: gG
abbrev b_SSession_init : ByteArray := prog_9_method_1_code
abbrev y_SSession_init : MethodName := ⟨"SessionServer$Session", "<init>", "(I)V"⟩
abbrev w_SSession_init : List Cond := .code y_SSession_init b_SSession_init 2 none :: gG
abbrev b_SStatement_init : ByteArray := prog_10_method_1_code
abbrev y_SStatement_init : MethodName := ⟨"SessionServer$Statement", "<init>", "()V"⟩
abbrev w_SStatement_init : List Cond := .code y_SStatement_init b_SStatement_init 1 none :: gG
abbrev b_SCode_init : ByteArray := prog_3_method_1_code
abbrev y_SCode_init : MethodName := ⟨"SessionServer$Code", "<init>", "()V"⟩
abbrev w_SCode_init : List Cond := .code y_SCode_init b_SCode_init 1 none :: gG
abbrev b_SWork_init : ByteArray := prog_13_method_1_code
abbrev y_SWork_init : MethodName := ⟨"SessionServer$Work", "<init>", "()V"⟩
abbrev w_SWork_init : List Cond := .code y_SWork_init b_SWork_init 1 none :: gG
abbrev b_Server_feed : ByteArray := prog_1_method_2_code
abbrev y_Server_feed : MethodName := ⟨"SessionServer", "feed", "(IIIII)Z"⟩
abbrev w_Server_feed : List Cond := .code y_Server_feed b_Server_feed 6 (some .boolean) :: gG
abbrev b_Server_tapeInt : ByteArray := prog_1_method_3_code
abbrev y_Server_tapeInt : MethodName := ⟨"SessionServer", "tapeInt", "(I)V"⟩
abbrev w_Server_tapeInt : List Cond := .code y_Server_tapeInt b_Server_tapeInt 3 none :: gG
abbrev b_Server_open : ByteArray := prog_1_method_4_code
abbrev y_Server_open : MethodName := ⟨"SessionServer", "open", "(I)Z"⟩
abbrev w_Server_open : List Cond := .code y_Server_open b_Server_open 2 (some .boolean) :: gG
abbrev b_Server_isSession : ByteArray := prog_1_method_15_code
abbrev y_Server_isSession : MethodName := ⟨"SessionServer", "isSession", "(I)Z"⟩
abbrev w_Server_isSession : List Cond := .code y_Server_isSession b_Server_isSession 1 (some .boolean) :: gG
abbrev b_SSession_reset : ByteArray := prog_9_method_2_code
abbrev y_SSession_reset : MethodName := ⟨"SessionServer$Session", "reset", "()V"⟩
abbrev w_SSession_reset : List Cond := .code y_SSession_reset b_SSession_reset 1 none :: gG
abbrev b_SSession_endTransaction : ByteArray := prog_9_method_3_code
abbrev y_SSession_endTransaction : MethodName := ⟨"SessionServer$Session", "endTransaction", "()V"⟩
abbrev w_SSession_endTransaction : List Cond := .code y_SSession_endTransaction b_SSession_endTransaction 1 none :: gG
abbrev b_SSession_clearLevels : ByteArray := prog_9_method_4_code
abbrev y_SSession_clearLevels : MethodName := ⟨"SessionServer$Session", "clearLevels", "(I)V"⟩
abbrev w_SSession_clearLevels : List Cond := .code y_SSession_clearLevels b_SSession_clearLevels 4 none :: gG
abbrev b_SWork_clear : ByteArray := prog_13_method_2_code
abbrev y_SWork_clear : MethodName := ⟨"SessionServer$Work", "clear", "()V"⟩
abbrev w_SWork_clear : List Cond := .code y_SWork_clear b_SWork_clear 1 none :: gG
abbrev b_JArrays_fill0 : ByteArray := prog_29_method_103_code
abbrev y_JArrays_fill0 : MethodName := ⟨"java/util/Arrays", "fill", "([II)V"⟩
abbrev w_JArrays_fill0 : List Cond := .code y_JArrays_fill0 b_JArrays_fill0 4 none :: gG
abbrev b_Server_close : ByteArray := prog_1_method_5_code
abbrev y_Server_close : MethodName := ⟨"SessionServer", "close", "(I)Z"⟩
abbrev w_Server_close : List Cond := .code y_Server_close b_Server_close 2 (some .boolean) :: gG
abbrev b_SStore_tablesThere : ByteArray := prog_11_method_3_code
abbrev y_SStore_tablesThere : MethodName := ⟨"SessionServer$Store", "tablesThere", "()I"⟩
abbrev w_SStore_tablesThere : List Cond := .code y_SStore_tablesThere b_SStore_tablesThere 3 (some .int) :: gG
abbrev b_Server_send : ByteArray := prog_1_method_6_code
abbrev y_Server_send : MethodName := ⟨"SessionServer", "send", "(II)I"⟩
abbrev w_Server_send : List Cond := .code y_Server_send b_Server_send 4 (some .int) :: gG
abbrev b_Server_fetch : ByteArray := prog_1_method_7_code
abbrev y_Server_fetch : MethodName := ⟨"SessionServer", "fetch", "(I)J"⟩
abbrev w_Server_fetch : List Cond := .code y_Server_fetch b_Server_fetch 7 (some .long) :: gG
abbrev b_Server_cancel : ByteArray := prog_1_method_8_code
abbrev y_Server_cancel : MethodName := ⟨"SessionServer", "cancel", "(I)Z"⟩
abbrev w_Server_cancel : List Cond := .code y_Server_cancel b_Server_cancel 2 (some .boolean) :: gG
abbrev b_Server_charge : ByteArray := prog_1_method_9_code
abbrev y_Server_charge : MethodName := ⟨"SessionServer", "charge", "(I)Z"⟩
abbrev w_Server_charge : List Cond := .code y_Server_charge b_Server_charge 2 (some .boolean) :: gG
abbrev b_Server_start : ByteArray := prog_1_method_10_code
abbrev y_Server_start : MethodName := ⟨"SessionServer", "start", "()Z"⟩
abbrev w_Server_start : List Cond := .code y_Server_start b_Server_start 2 (some .boolean) :: gG
abbrev b_Server_state : ByteArray := prog_1_method_11_code
abbrev y_Server_state : MethodName := ⟨"SessionServer", "state", "(I)I"⟩
abbrev w_Server_state : List Cond := .code y_Server_state b_Server_state 3 (some .int) :: gG
abbrev b_Server_rings : ByteArray := prog_1_method_12_code
abbrev y_Server_rings : MethodName := ⟨"SessionServer", "rings", "()I"⟩
abbrev w_Server_rings : List Cond := .code y_Server_rings b_Server_rings 1 (some .int) :: gG
abbrev b_Server_count : ByteArray := prog_1_method_13_code
abbrev y_Server_count : MethodName := ⟨"SessionServer", "count", "(I)I"⟩
abbrev w_Server_count : List Cond := .code y_Server_count b_Server_count 2 (some .int) :: gG
abbrev b_Server_waiting : ByteArray := prog_1_method_14_code
abbrev y_Server_waiting : MethodName := ⟨"SessionServer", "waiting", "()I"⟩
abbrev w_Server_waiting : List Cond := .code y_Server_waiting b_Server_waiting 3 (some .int) :: gG
abbrev b_Model_init : ByteArray := prog_15_method_1_code
abbrev y_Model_init : MethodName := ⟨"SessionServerModel", "<init>", "()V"⟩
abbrev w_Model_init : List Cond := .code y_Model_init b_Model_init 2 none :: gG
abbrev b_MCatalog_init : ByteArray := prog_16_method_1_code
abbrev y_MCatalog_init : MethodName := ⟨"SessionServerModel$Catalog", "<init>", "()V"⟩
abbrev w_MCatalog_init : List Cond := .code y_MCatalog_init b_MCatalog_init 1 none :: gG
abbrev b_MSerial_init : ByteArray := prog_19_method_1_code
abbrev y_MSerial_init : MethodName := ⟨"SessionServerModel$Serial", "<init>", "()V"⟩
abbrev w_MSerial_init : List Cond := .code y_MSerial_init b_MSerial_init 3 none :: gG
abbrev b_MSpan_init : ByteArray := prog_21_method_1_code
abbrev y_MSpan_init : MethodName := ⟨"SessionServerModel$Span", "<init>", "()V"⟩
abbrev w_MSpan_init : List Cond := .code y_MSpan_init b_MSpan_init 1 none :: gG
abbrev b_MCells_init : ByteArray := prog_17_method_1_code
abbrev y_MCells_init : MethodName := ⟨"SessionServerModel$Cells", "<init>", "(I)V"⟩
abbrev w_MCells_init : List Cond := .code y_MCells_init b_MCells_init 2 none :: gG
abbrev b_MWork_init : ByteArray := prog_22_method_1_code
abbrev y_MWork_init : MethodName := ⟨"SessionServerModel$Work", "<init>", "(LSessionServerModel$Cells;)V"⟩
abbrev w_MWork_init : List Cond := .code y_MWork_init b_MWork_init 2 none :: gG
abbrev b_MSession_init : ByteArray := prog_20_method_1_code
abbrev y_MSession_init : MethodName := ⟨"SessionServerModel$Session", "<init>", "(LSessionServerModel$Catalog;)V"⟩
abbrev w_MSession_init : List Cond := .code y_MSession_init b_MSession_init 2 none :: gG
abbrev b_MReader_init : ByteArray := prog_18_method_1_code
abbrev y_MReader_init : MethodName := ⟨"SessionServerModel$Reader", "<init>", "(LSessionServerModel$Catalog;)V"⟩
abbrev w_MReader_init : List Cond := .code y_MReader_init b_MReader_init 2 none :: gG
abbrev b_MReader_forget : ByteArray := prog_18_method_2_code
abbrev y_MReader_forget : MethodName := ⟨"SessionServerModel$Reader", "forget", "()V"⟩
abbrev w_MReader_forget : List Cond := .code y_MReader_forget b_MReader_forget 2 none :: gG
abbrev b_Model_feed : ByteArray := prog_15_method_81_code
abbrev y_Model_feed : MethodName := ⟨"SessionServerModel", "feed", "(IIIII)Z"⟩
abbrev w_Model_feed : List Cond := .code y_Model_feed b_Model_feed 8 (some .boolean) :: gG
abbrev b_Model_open : ByteArray := prog_15_method_82_code
abbrev y_Model_open : MethodName := ⟨"SessionServerModel", "open", "(I)Z"⟩
abbrev w_Model_open : List Cond := .code y_Model_open b_Model_open 3 (some .boolean) :: gG
abbrev b_MSession_clear : ByteArray := prog_20_method_2_code
abbrev y_MSession_clear : MethodName := ⟨"SessionServerModel$Session", "clear", "()V"⟩
abbrev w_MSession_clear : List Cond := .code y_MSession_clear b_MSession_clear 1 none :: gG
abbrev b_Model_close : ByteArray := prog_15_method_83_code
abbrev y_Model_close : MethodName := ⟨"SessionServerModel", "close", "(I)Z"⟩
abbrev w_Model_close : List Cond := .code y_Model_close b_Model_close 3 (some .boolean) :: gG
abbrev b_Model_isOpen : ByteArray := prog_15_method_80_code
abbrev y_Model_isOpen : MethodName := ⟨"SessionServerModel", "isOpen", "(I)Z"⟩
abbrev w_Model_isOpen : List Cond := .code y_Model_isOpen b_Model_isOpen 2 (some .boolean) :: gG
abbrev b_Model_send : ByteArray := prog_15_method_84_code
abbrev y_Model_send : MethodName := ⟨"SessionServerModel", "send", "(II)I"⟩
abbrev w_Model_send : List Cond := .code y_Model_send b_Model_send 5 (some .int) :: gG
abbrev b_MCatalog_tables : ByteArray := prog_16_method_7_code
abbrev y_MCatalog_tables : MethodName := ⟨"SessionServerModel$Catalog", "tables", "()I"⟩
abbrev w_MCatalog_tables : List Cond := .code y_MCatalog_tables b_MCatalog_tables 3 (some .int) :: gG
abbrev b_Model_fetch : ByteArray := prog_15_method_85_code
abbrev y_Model_fetch : MethodName := ⟨"SessionServerModel", "fetch", "(I)J"⟩
abbrev w_Model_fetch : List Cond := .code y_Model_fetch b_Model_fetch 7 (some .long) :: gG
abbrev b_Model_cancel : ByteArray := prog_15_method_86_code
abbrev y_Model_cancel : MethodName := ⟨"SessionServerModel", "cancel", "(I)Z"⟩
abbrev w_Model_cancel : List Cond := .code y_Model_cancel b_Model_cancel 2 (some .boolean) :: gG
abbrev b_Model_charge : ByteArray := prog_15_method_87_code
abbrev y_Model_charge : MethodName := ⟨"SessionServerModel", "charge", "(I)Z"⟩
abbrev w_Model_charge : List Cond := .code y_Model_charge b_Model_charge 2 (some .boolean) :: gG
abbrev b_Model_start : ByteArray := prog_15_method_88_code
abbrev y_Model_start : MethodName := ⟨"SessionServerModel", "start", "()Z"⟩
abbrev w_Model_start : List Cond := .code y_Model_start b_Model_start 3 (some .boolean) :: gG
abbrev b_Model_state : ByteArray := prog_15_method_89_code
abbrev y_Model_state : MethodName := ⟨"SessionServerModel", "state", "(I)I"⟩
abbrev w_Model_state : List Cond := .code y_Model_state b_Model_state 4 (some .int) :: gG
abbrev b_Model_rings : ByteArray := prog_15_method_90_code
abbrev y_Model_rings : MethodName := ⟨"SessionServerModel", "rings", "()I"⟩
abbrev w_Model_rings : List Cond := .code y_Model_rings b_Model_rings 1 (some .int) :: gG
abbrev b_MSerial_countRings : ByteArray := prog_19_method_22_code
abbrev y_MSerial_countRings : MethodName := ⟨"SessionServerModel$Serial", "countRings", "()I"⟩
abbrev w_MSerial_countRings : List Cond := .code y_MSerial_countRings b_MSerial_countRings 3 (some .int) :: gG
abbrev b_Model_count : ByteArray := prog_15_method_91_code
abbrev y_Model_count : MethodName := ⟨"SessionServerModel", "count", "(I)I"⟩
abbrev w_Model_count : List Cond := .code y_Model_count b_Model_count 4 (some .int) :: gG
abbrev bx_nf : List (String × Nat × String × String × String × String) := [("SessionServerModel", 192, "SessionServerModel$Session", "open", "Z", "SessionServerModel"), ("SessionServerModel", 700, "SessionServerModel$Session", "prepared", "I", "SessionServerModel"), ("SessionServerModel", 195, "SessionServerModel$Session", "wait", "I", "SessionServerModel"), ("SessionServerModel", 198, "SessionServerModel$Session", "size", "I", "SessionServerModel"), ("SessionServerModel", 201, "SessionServerModel$Session", "taken", "I", "SessionServerModel"), ("SessionServerModel", 377, "SessionServerModel$Catalog", "indexes", "I", "SessionServerModel")]
abbrev bx_nm : List (String × Nat × MethodName × String) := [("SessionServer$Statement", 11, y_SCode_init, "SessionServer"), ("SessionServer$Session", 11, y_SStatement_init, "SessionServer"), ("SessionServer$Session", 20, y_SWork_init, "SessionServer"), ("SessionServer$Store", 56, y_STable_init, "SessionServer"), ("SessionServer", 28, y_SLedger_init, "SessionServer"), ("SessionServer", 62, y_SParser_init, "SessionServer"), ("SessionServerModel$Serial", 58, y_MSpan_init, "SessionServerModel"), ("SessionServerModel", 23, y_MCatalog_init, "SessionServerModel"), ("SessionServerModel", 107, y_MSpan_init, "SessionServerModel")]
abbrev bx_ao : List String := ["SessionServer$Session", "SessionServer$Table", "SessionServerModel$Session", "SessionServerModel$Span"]
abbrev bx_ta : List FieldType := [.byte, .int, .boolean, (.object "SessionServerModel$Span")]
def bx_N (U : State) : Prop := (∀ q ∈ bx_nf, va_Nw (.fieldLinkNest q.1 q.2.1 q.2.2.1 q.2.2.2.1 q.2.2.2.2.1 q.2.2.2.2.2) U) ∧ (∀ q ∈ bx_nm, va_Nw (.methodLinkNest q.1 q.2.1 q.2.2.1 q.2.2.2) U) ∧ (∀ C ∈ bx_ao, va_AO C U) ∧ (∀ t ∈ bx_ta, ax_O t U)
theorem bx_N.warm {s U : State} (hW : s.WarmedH U.vm) (h : bx_N s) : bx_N U := ⟨fun q hq => va_Nw.warmF hW (h.1 q hq), fun q hq => va_Nw.warmM hW (h.2.1 q hq), fun C hC => va_AO.moved hW.alike (h.2.2.1 C hC), fun t ht => ax_O.moved hW.alike (h.2.2.2 t ht)⟩
theorem bx_N.same {u U : State} (e : u.vm = U.vm) (h : bx_N u) : bx_N U := ⟨fun q hq => va_Nw.same rfl e (h.1 q hq), fun q hq => va_Nw.same rfl e (h.2.1 q hq), fun C hC => va_AO.moved (by rw [e]; exact Vm.Alike.refl _) (h.2.2.1 C hC), fun t ht => ax_O.moved (by rw [e]; exact Vm.Alike.refl _) (h.2.2.2 t ht)⟩
theorem bx_f {U : State} (h : bx_N U) (q : String × Nat × String × String × String × String) (hq : q ∈ bx_nf) : va_Nw (.fieldLinkNest q.1 q.2.1 q.2.2.1 q.2.2.2.1 q.2.2.2.2.1 q.2.2.2.2.2) U := h.1 q hq
theorem bx_m {U : State} (h : bx_N U) (q : String × Nat × MethodName × String) (hq : q ∈ bx_nm) : va_Nw (.methodLinkNest q.1 q.2.1 q.2.2.1 q.2.2.2) U := h.2.1 q hq
theorem bx_o {U : State} (h : bx_N U) {C : String} (hq : C ∈ bx_ao) : va_AO C U := h.2.2.1 C hq
theorem bx_over {U : State} (h : bx_N U) {t : FieldType} (hq : t ∈ bx_ta) : ax_O t U := h.2.2.2 t hq
section BXT
variable {p : Program} {l : Launch} {e : Env} {R : Room} {s : State} {m : MethodId} {args : Array Value} {below : List Frame} {meth : Method} {c : Code} {H : Heap} {locs : List Loc} {cells slots : Nat} {Q : State → Prop} {pc : Nat} {ls : Array Slot} {rest : List Value}
theorem bx_top {x y : Int32} (h : x = y) (k : W p l e R s m args below meth c H locs cells slots Q (F0 m pc ls (.int y :: rest))) : W p l e R s m args below meth c H locs cells slots Q (F0 m pc ls (.int x :: rest)) := by
  subst h
  exact k
theorem bx_heap {H H' : Heap} {locs : List Loc} {cells slots : Nat} {g : JFrame} (h : H = H') (k : W p l e R s m args below meth c H' locs cells slots Q g) : W p l e R s m args below meth c H locs cells slots Q g := by
  subst h
  exact k
end BXT
def bx_in (z : Int32) : Int32 := if z < 0 then 0 else if 6 ≤ z then 0 else 1
def bx_st (z : Int32) : Int32 := if z < 0 then -1 else if 6 ≤ z then -1 else 0
def bx_chg (z : Int32) : Int32 := if z < 0 then 0 else if z ≤ 999 then 1 else 0
def bx_cnt (z : Int32) : Int32 := if z < 0 then -1 else if z ≤ 8 then (if z = 0 then 1 else 0) else -1
theorem bx_six {z : Int32} (h1 : ¬ z < 0) (h2 : ¬ 6 ≤ z) : z = 0 ∨ z = 1 ∨ z = 2 ∨ z = 3 ∨ z = 4 ∨ z = 5 := by
  obtain ⟨j, hj, rfl⟩ := nI_of h1
  have h3 : j < 6 := by
    rcases Nat.lt_or_ge j 6 with h | h
    · exact h
    · exact absurd (show nI 6 ≤ nI j from nI_le h hj) h2
  match j, h3 with
  | 0, _ => exact Or.inl rfl
  | 1, _ => exact Or.inr (Or.inl rfl)
  | 2, _ => exact Or.inr (Or.inr (Or.inl rfl))
  | 3, _ => exact Or.inr (Or.inr (Or.inr (Or.inl rfl)))
  | 4, _ => exact Or.inr (Or.inr (Or.inr (Or.inr (Or.inl rfl))))
  | 5, _ => exact Or.inr (Or.inr (Or.inr (Or.inr (Or.inr rfl))))
  | j + 6, h => exact absurd h (by omega)
theorem bx_nine {z : Int32} (h1 : ¬ z < 0) (h2 : z ≤ 8) : z = 0 ∨ z = 1 ∨ z = 2 ∨ z = 3 ∨ z = 4 ∨ z = 5 ∨ z = 6 ∨ z = 7 ∨ z = 8 := by
  obtain ⟨j, hj, rfl⟩ := nI_of h1
  have h3 : j < 9 := by
    rcases Nat.lt_or_ge j 9 with h | h
    · exact h
    · exact absurd h2 (show ¬ nI j ≤ nI 8 from nI_ge (by omega) hj)
  match j, h3 with
  | 0, _ => exact Or.inl rfl
  | 1, _ => exact Or.inr (Or.inl rfl)
  | 2, _ => exact Or.inr (Or.inr (Or.inl rfl))
  | 3, _ => exact Or.inr (Or.inr (Or.inr (Or.inl rfl)))
  | 4, _ => exact Or.inr (Or.inr (Or.inr (Or.inr (Or.inl rfl))))
  | 5, _ => exact Or.inr (Or.inr (Or.inr (Or.inr (Or.inr (Or.inl rfl)))))
  | 6, _ => exact Or.inr (Or.inr (Or.inr (Or.inr (Or.inr (Or.inr (Or.inl rfl))))))
  | 7, _ => exact Or.inr (Or.inr (Or.inr (Or.inr (Or.inr (Or.inr (Or.inr (Or.inl rfl)))))))
  | 8, _ => exact Or.inr (Or.inr (Or.inr (Or.inr (Or.inr (Or.inr (Or.inr (Or.inr rfl)))))))
  | j + 9, h => exact absurd h (by omega)
theorem bx_in_ne {z : Int32} (h : ¬ bx_in z = 0) : z = 0 ∨ z = 1 ∨ z = 2 ∨ z = 3 ∨ z = 4 ∨ z = 5 := by
  by_cases h1 : z < 0
  · exact absurd (by simp [bx_in, h1]) h
  by_cases h2 : 6 ≤ z
  · exact absurd (by simp [bx_in, h1, h2]) h
  · exact bx_six h1 h2
theorem bx_st_in {z : Int32} (h : bx_in z = 0) : bx_st z = -1 := by
  by_cases h1 : z < 0
  · simp [bx_st, h1]
  by_cases h2 : 6 ≤ z
  · simp [bx_st, h1, h2]
  · simp [bx_in, h1, h2] at h
theorem bx_dead {z : Int32} (h1 : ¬ z < 1) (h2 : z ≤ 0) : False := by
  have a := Int32.le_iff_toInt_le.mp h2
  have b : ¬ z.toInt < 1 := fun q => h1 (Int32.lt_iff_toInt_lt.mpr q)
  simp at a
  omega
theorem va_P.none {D : va_G} {cl : List vw_C} {H : Heap} : va_P D cl [] H := fun k q h => by simp at h
theorem va_D.none {A : Nat → Prop} : va_D A [] := ⟨fun i j p q h => by simp at h, fun k q h => by simp at h⟩
