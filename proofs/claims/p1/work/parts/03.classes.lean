abbrev R_STable : String := "SessionServer$Table"
def F_STable : u_T := fun k => match k with
  | 0 => ("SessionServer$Table", "columnName", "[I", true)
  | 1 => ("SessionServer$Table", "columnType", "[I", true)
  | 2 => ("SessionServer$Table", "notNull", "[Z", true)
  | 3 => ("SessionServer$Table", "order", "[I", true)
  | 4 => ("SessionServer$Table", "name", "I", false)
  | 5 => ("SessionServer$Table", "serial", "I", false)
  | 6 => ("SessionServer$Table", "columns", "I", false)
  | _ => ("SessionServer$Table", "versions", "I", false)
def t_STable : Nat → FieldType := fun k => match k with
  | 0 => .array .int
  | 1 => .array .int
  | 2 => .array .boolean
  | 3 => .array .int
  | 4 => .int
  | 5 => .int
  | 6 => .int
  | _ => .int
theorem n_STable : ∀ a, a < 8 → ∀ b, b < 8 → a ≠ b → (F_STable a).2.1 ≠ (F_STable b).2.1 := by decide +kernel
theorem t_STable_ok : ∀ k, k < 8 → parseFieldDescriptor (F_STable k).2.2.1 = some (t_STable k) := by decide +kernel
theorem i0_STable : ∀ w ∈ u_ws R_STable F_STable 8, w ∈ gG := by
  intro w hw
  obtain ⟨k, hk, rfl⟩ := List.mem_map.mp hw
  have hk := List.mem_range.mp hk
  match k, hk with
  | 0, _ => exact q_77
  | 1, _ => exact q_79
  | 2, _ => exact q_81
  | 3, _ => exact q_83
  | 4, _ => exact q_85
  | 5, _ => exact q_87
  | 6, _ => exact q_89
  | 7, _ => exact q_91
  | k + 8, h => exact absurd h (by omega)
theorem i_STable (c : Cond) : ∀ w ∈ u_ws R_STable F_STable 8, w ∈ c :: gG := fun w h => List.mem_cons_of_mem _ (i0_STable w h)
theorem il_STable : ∀ w ∈ u_ws R_STable F_STable 8, w ∈ lw_tbl := fun w h => gG_l (i0_STable w h)
theorem fs_STable : ∀ j, j < 8 → defaultValue (t_STable j) = vp_V [.null, .null, .null, .null, .int 0, .int 0, .int 0, .int 0] j := by
  intro j hj
  match j, hj with
  | 0, _ => rfl
  | 1, _ => rfl
  | 2, _ => rfl
  | 3, _ => rfl
  | 4, _ => rfl
  | 5, _ => rfl
  | 6, _ => rfl
  | 7, _ => rfl
  | j + 8, h => exact absurd h (by omega)
abbrev R_SStore : String := "SessionServer$Store"
def F_SStore : u_T := fun k => match k with
  | 0 => ("SessionServer$Store", "tables", "[LSessionServer$Table;", true)
  | 1 => ("SessionServer$Store", "indexTable", "[I", true)
  | 2 => ("SessionServer$Store", "indexColumn", "[I", true)
  | 3 => ("SessionServer$Store", "indexUnique", "[Z", true)
  | 4 => ("SessionServer$Store", "values", "[J", true)
  | 5 => ("SessionServer$Store", "number", "[I", true)
  | 6 => ("SessionServer$Store", "maker", "[I", true)
  | 7 => ("SessionServer$Store", "makerCommand", "[I", true)
  | 8 => ("SessionServer$Store", "end", "[I", true)
  | 9 => ("SessionServer$Store", "endCommand", "[I", true)
  | 10 => ("SessionServer$Store", "next", "[I", true)
  | 11 => ("SessionServer$Store", "locks", "[I", true)
  | 12 => ("SessionServer$Store", "free", "[I", true)
  | 13 => ("SessionServer$Store", "indexes", "I", false)
  | 14 => ("SessionServer$Store", "serials", "I", false)
  | 15 => ("SessionServer$Store", "versions", "I", false)
  | _ => ("SessionServer$Store", "made", "I", false)
def t_SStore : Nat → FieldType := fun k => match k with
  | 0 => .array (.object "SessionServer$Table")
  | 1 => .array .int
  | 2 => .array .int
  | 3 => .array .boolean
  | 4 => .array .long
  | 5 => .array .int
  | 6 => .array .int
  | 7 => .array .int
  | 8 => .array .int
  | 9 => .array .int
  | 10 => .array .int
  | 11 => .array .int
  | 12 => .array .int
  | 13 => .int
  | 14 => .int
  | 15 => .int
  | _ => .int
theorem n_SStore : ∀ a, a < 17 → ∀ b, b < 17 → a ≠ b → (F_SStore a).2.1 ≠ (F_SStore b).2.1 := by decide +kernel
theorem t_SStore_ok : ∀ k, k < 17 → parseFieldDescriptor (F_SStore k).2.2.1 = some (t_SStore k) := by decide +kernel
theorem i0_SStore : ∀ w ∈ u_ws R_SStore F_SStore 17, w ∈ gG := by
  intro w hw
  obtain ⟨k, hk, rfl⟩ := List.mem_map.mp hw
  have hk := List.mem_range.mp hk
  match k, hk with
  | 0, _ => exact q_143
  | 1, _ => exact q_145
  | 2, _ => exact q_147
  | 3, _ => exact q_149
  | 4, _ => exact q_151
  | 5, _ => exact q_153
  | 6, _ => exact q_155
  | 7, _ => exact q_157
  | 8, _ => exact q_159
  | 9, _ => exact q_161
  | 10, _ => exact q_163
  | 11, _ => exact q_165
  | 12, _ => exact q_167
  | 13, _ => exact q_169
  | 14, _ => exact q_171
  | 15, _ => exact q_173
  | 16, _ => exact q_175
  | k + 17, h => exact absurd h (by omega)
theorem i_SStore (c : Cond) : ∀ w ∈ u_ws R_SStore F_SStore 17, w ∈ c :: gG := fun w h => List.mem_cons_of_mem _ (i0_SStore w h)
theorem il_SStore : ∀ w ∈ u_ws R_SStore F_SStore 17, w ∈ lw_tbl := fun w h => gG_l (i0_SStore w h)
theorem fs_SStore : ∀ j, j < 17 → defaultValue (t_SStore j) = vp_V [.null, .null, .null, .null, .null, .null, .null, .null, .null, .null, .null, .null, .null, .int 0, .int 0, .int 0, .int 0] j := by
  intro j hj
  match j, hj with
  | 0, _ => rfl
  | 1, _ => rfl
  | 2, _ => rfl
  | 3, _ => rfl
  | 4, _ => rfl
  | 5, _ => rfl
  | 6, _ => rfl
  | 7, _ => rfl
  | 8, _ => rfl
  | 9, _ => rfl
  | 10, _ => rfl
  | 11, _ => rfl
  | 12, _ => rfl
  | 13, _ => rfl
  | 14, _ => rfl
  | 15, _ => rfl
  | 16, _ => rfl
  | j + 17, h => exact absurd h (by omega)
abbrev R_SLedger : String := "SessionServer$Ledger"
def F_SLedger : u_T := fun k => match k with
  | 0 => ("SessionServer$Ledger", "status", "[B", true)
  | 1 => ("SessionServer$Ledger", "owner", "[B", true)
  | 2 => ("SessionServer$Ledger", "level", "[B", true)
  | 3 => ("SessionServer$Ledger", "guard", "[B", true)
  | 4 => ("SessionServer$Ledger", "committedAt", "[I", true)
  | 5 => ("SessionServer$Ledger", "given", "I", false)
  | 6 => ("SessionServer$Ledger", "commits", "I", false)
  | 7 => ("SessionServer$Ledger", "clock", "I", false)
  | 8 => ("SessionServer$Ledger", "charge", "I", false)
  | 9 => ("SessionServer$Ledger", "savedMade", "I", false)
  | 10 => ("SessionServer$Ledger", "savedGiven", "I", false)
  | _ => ("SessionServer$Ledger", "savedCommits", "I", false)
def t_SLedger : Nat → FieldType := fun k => match k with
  | 0 => .array .byte
  | 1 => .array .byte
  | 2 => .array .byte
  | 3 => .array .byte
  | 4 => .array .int
  | 5 => .int
  | 6 => .int
  | 7 => .int
  | 8 => .int
  | 9 => .int
  | 10 => .int
  | _ => .int
theorem n_SLedger : ∀ a, a < 12 → ∀ b, b < 12 → a ≠ b → (F_SLedger a).2.1 ≠ (F_SLedger b).2.1 := by decide +kernel
theorem t_SLedger_ok : ∀ k, k < 12 → parseFieldDescriptor (F_SLedger k).2.2.1 = some (t_SLedger k) := by decide +kernel
theorem i0_SLedger : ∀ w ∈ u_ws R_SLedger F_SLedger 12, w ∈ gG := by
  intro w hw
  obtain ⟨k, hk, rfl⟩ := List.mem_map.mp hw
  have hk := List.mem_range.mp hk
  match k, hk with
  | 0, _ => exact q_209
  | 1, _ => exact q_211
  | 2, _ => exact q_213
  | 3, _ => exact q_215
  | 4, _ => exact q_217
  | 5, _ => exact q_219
  | 6, _ => exact q_221
  | 7, _ => exact q_223
  | 8, _ => exact q_225
  | 9, _ => exact q_227
  | 10, _ => exact q_229
  | 11, _ => exact q_231
  | k + 12, h => exact absurd h (by omega)
theorem i_SLedger (c : Cond) : ∀ w ∈ u_ws R_SLedger F_SLedger 12, w ∈ c :: gG := fun w h => List.mem_cons_of_mem _ (i0_SLedger w h)
theorem il_SLedger : ∀ w ∈ u_ws R_SLedger F_SLedger 12, w ∈ lw_tbl := fun w h => gG_l (i0_SLedger w h)
theorem fs_SLedger : ∀ j, j < 12 → defaultValue (t_SLedger j) = vp_V [.null, .null, .null, .null, .null, .int 0, .int 0, .int 0, .int 0, .int 0, .int 0, .int 0] j := by
  intro j hj
  match j, hj with
  | 0, _ => rfl
  | 1, _ => rfl
  | 2, _ => rfl
  | 3, _ => rfl
  | 4, _ => rfl
  | 5, _ => rfl
  | 6, _ => rfl
  | 7, _ => rfl
  | 8, _ => rfl
  | 9, _ => rfl
  | 10, _ => rfl
  | 11, _ => rfl
  | j + 12, h => exact absurd h (by omega)
abbrev R_SSerial : String := "SessionServer$Serial"
def F_SSerial : u_T := fun k => match k with
  | 0 => ("SessionServer$Serial", "store", "LSessionServer$Store;", true)
  | 1 => ("SessionServer$Serial", "ledger", "LSessionServer$Ledger;", true)
  | 2 => ("SessionServer$Serial", "used", "[Z", true)
  | 3 => ("SessionServer$Serial", "doomed", "[Z", true)
  | 4 => ("SessionServer$Serial", "began", "[I", true)
  | 5 => ("SessionServer$Serial", "committed", "[I", true)
  | 6 => ("SessionServer$Serial", "arrows", "[J", true)
  | 7 => ("SessionServer$Serial", "goneCommit", "[I", true)
  | 8 => ("SessionServer$Serial", "whole", "[Z", true)
  | 9 => ("SessionServer$Serial", "ranges", "[I", true)
  | 10 => ("SessionServer$Serial", "rangeColumn", "[I", true)
  | 11 => ("SessionServer$Serial", "rangeFlags", "[I", true)
  | 12 => ("SessionServer$Serial", "bounds", "[J", true)
  | _ => ("SessionServer$Serial", "coming", "J", false)
def t_SSerial : Nat → FieldType := fun k => match k with
  | 0 => .object "SessionServer$Store"
  | 1 => .object "SessionServer$Ledger"
  | 2 => .array .boolean
  | 3 => .array .boolean
  | 4 => .array .int
  | 5 => .array .int
  | 6 => .array .long
  | 7 => .array .int
  | 8 => .array .boolean
  | 9 => .array .int
  | 10 => .array .int
  | 11 => .array .int
  | 12 => .array .long
  | _ => .long
theorem n_SSerial : ∀ a, a < 14 → ∀ b, b < 14 → a ≠ b → (F_SSerial a).2.1 ≠ (F_SSerial b).2.1 := by decide +kernel
theorem t_SSerial_ok : ∀ k, k < 14 → parseFieldDescriptor (F_SSerial k).2.2.1 = some (t_SSerial k) := by decide +kernel
theorem i0_SSerial : ∀ w ∈ u_ws R_SSerial F_SSerial 14, w ∈ gG := by
  intro w hw
  obtain ⟨k, hk, rfl⟩ := List.mem_map.mp hw
  have hk := List.mem_range.mp hk
  match k, hk with
  | 0, _ => exact q_256
  | 1, _ => exact q_258
  | 2, _ => exact q_260
  | 3, _ => exact q_262
  | 4, _ => exact q_264
  | 5, _ => exact q_266
  | 6, _ => exact q_268
  | 7, _ => exact q_270
  | 8, _ => exact q_272
  | 9, _ => exact q_274
  | 10, _ => exact q_276
  | 11, _ => exact q_278
  | 12, _ => exact q_280
  | 13, _ => exact q_282
  | k + 14, h => exact absurd h (by omega)
theorem i_SSerial (c : Cond) : ∀ w ∈ u_ws R_SSerial F_SSerial 14, w ∈ c :: gG := fun w h => List.mem_cons_of_mem _ (i0_SSerial w h)
theorem il_SSerial : ∀ w ∈ u_ws R_SSerial F_SSerial 14, w ∈ lw_tbl := fun w h => gG_l (i0_SSerial w h)
theorem fs_SSerial : ∀ j, j < 14 → defaultValue (t_SSerial j) = vp_V [.null, .null, .null, .null, .null, .null, .null, .null, .null, .null, .null, .null, .null, .long 0] j := by
  intro j hj
  match j, hj with
  | 0, _ => rfl
  | 1, _ => rfl
  | 2, _ => rfl
  | 3, _ => rfl
  | 4, _ => rfl
  | 5, _ => rfl
  | 6, _ => rfl
  | 7, _ => rfl
  | 8, _ => rfl
  | 9, _ => rfl
  | 10, _ => rfl
  | 11, _ => rfl
  | 12, _ => rfl
  | 13, _ => rfl
  | j + 14, h => exact absurd h (by omega)
abbrev R_SMachine : String := "SessionServer$Machine"
def F_SMachine : u_T := fun k => match k with
  | 0 => ("SessionServer$Machine", "store", "LSessionServer$Store;", true)
  | 1 => ("SessionServer$Machine", "stack", "[J", true)
  | 2 => ("SessionServer$Machine", "totals", "[J", true)
  | 3 => ("SessionServer$Machine", "row", "[I", true)
  | 4 => ("SessionServer$Machine", "values", "[J", false)
  | _ => ("SessionServer$Machine", "grouped", "Z", false)
def t_SMachine : Nat → FieldType := fun k => match k with
  | 0 => .object "SessionServer$Store"
  | 1 => .array .long
  | 2 => .array .long
  | 3 => .array .int
  | 4 => .array .long
  | _ => .boolean
theorem n_SMachine : ∀ a, a < 6 → ∀ b, b < 6 → a ≠ b → (F_SMachine a).2.1 ≠ (F_SMachine b).2.1 := by decide +kernel
theorem t_SMachine_ok : ∀ k, k < 6 → parseFieldDescriptor (F_SMachine k).2.2.1 = some (t_SMachine k) := by decide +kernel
theorem i0_SMachine : ∀ w ∈ u_ws R_SMachine F_SMachine 6, w ∈ gG := by
  intro w hw
  obtain ⟨k, hk, rfl⟩ := List.mem_map.mp hw
  have hk := List.mem_range.mp hk
  match k, hk with
  | 0, _ => exact q_304
  | 1, _ => exact q_306
  | 2, _ => exact q_308
  | 3, _ => exact q_310
  | 4, _ => exact q_312
  | 5, _ => exact q_314
  | k + 6, h => exact absurd h (by omega)
theorem i_SMachine (c : Cond) : ∀ w ∈ u_ws R_SMachine F_SMachine 6, w ∈ c :: gG := fun w h => List.mem_cons_of_mem _ (i0_SMachine w h)
theorem il_SMachine : ∀ w ∈ u_ws R_SMachine F_SMachine 6, w ∈ lw_tbl := fun w h => gG_l (i0_SMachine w h)
theorem fs_SMachine : ∀ j, j < 6 → defaultValue (t_SMachine j) = vp_V [.null, .null, .null, .null, .null, .int 0] j := by
  intro j hj
  match j, hj with
  | 0, _ => rfl
  | 1, _ => rfl
  | 2, _ => rfl
  | 3, _ => rfl
  | 4, _ => rfl
  | 5, _ => rfl
  | j + 6, h => exact absurd h (by omega)
abbrev R_SFinder : String := "SessionServer$Finder"
def F_SFinder : u_T := fun k => match k with
  | 0 => ("SessionServer$Finder", "store", "LSessionServer$Store;", true)
  | 1 => ("SessionServer$Finder", "ledger", "LSessionServer$Ledger;", true)
  | 2 => ("SessionServer$Finder", "serial", "LSessionServer$Serial;", true)
  | 3 => ("SessionServer$Finder", "machine", "LSessionServer$Machine;", true)
  | 4 => ("SessionServer$Finder", "flags", "[I", true)
  | 5 => ("SessionServer$Finder", "column", "[I", true)
  | 6 => ("SessionServer$Finder", "bounds", "[J", true)
  | 7 => ("SessionServer$Finder", "conditions", "[I", true)
  | 8 => ("SessionServer$Finder", "conditionCount", "I", false)
  | 9 => ("SessionServer$Finder", "candidates", "[I", true)
  | 10 => ("SessionServer$Finder", "candidateCount", "[I", true)
  | 11 => ("SessionServer$Finder", "combos", "[I", true)
  | 12 => ("SessionServer$Finder", "rows", "I", false)
  | 13 => ("SessionServer$Finder", "groupFirst", "[I", true)
  | 14 => ("SessionServer$Finder", "groupLast", "[I", true)
  | 15 => ("SessionServer$Finder", "following", "[I", true)
  | 16 => ("SessionServer$Finder", "cells", "[J", true)
  | 17 => ("SessionServer$Finder", "order", "[I", true)
  | 18 => ("SessionServer$Finder", "spare", "[I", true)
  | _ => ("SessionServer$Finder", "results", "I", false)
def t_SFinder : Nat → FieldType := fun k => match k with
  | 0 => .object "SessionServer$Store"
  | 1 => .object "SessionServer$Ledger"
  | 2 => .object "SessionServer$Serial"
  | 3 => .object "SessionServer$Machine"
  | 4 => .array .int
  | 5 => .array .int
  | 6 => .array .long
  | 7 => .array .int
  | 8 => .int
  | 9 => .array .int
  | 10 => .array .int
  | 11 => .array .int
  | 12 => .int
  | 13 => .array .int
  | 14 => .array .int
  | 15 => .array .int
  | 16 => .array .long
  | 17 => .array .int
  | 18 => .array .int
  | _ => .int
theorem n_SFinder : ∀ a, a < 20 → ∀ b, b < 20 → a ≠ b → (F_SFinder a).2.1 ≠ (F_SFinder b).2.1 := by decide +kernel
theorem t_SFinder_ok : ∀ k, k < 20 → parseFieldDescriptor (F_SFinder k).2.2.1 = some (t_SFinder k) := by decide +kernel
theorem i0_SFinder : ∀ w ∈ u_ws R_SFinder F_SFinder 20, w ∈ gG := by
  intro w hw
  obtain ⟨k, hk, rfl⟩ := List.mem_map.mp hw
  have hk := List.mem_range.mp hk
  match k, hk with
  | 0, _ => exact q_346
  | 1, _ => exact q_348
  | 2, _ => exact q_350
  | 3, _ => exact q_352
  | 4, _ => exact q_354
  | 5, _ => exact q_356
  | 6, _ => exact q_358
  | 7, _ => exact q_360
  | 8, _ => exact q_362
  | 9, _ => exact q_364
  | 10, _ => exact q_366
  | 11, _ => exact q_368
  | 12, _ => exact q_370
  | 13, _ => exact q_372
  | 14, _ => exact q_374
  | 15, _ => exact q_376
  | 16, _ => exact q_378
  | 17, _ => exact q_380
  | 18, _ => exact q_382
  | 19, _ => exact q_384
  | k + 20, h => exact absurd h (by omega)
theorem i_SFinder (c : Cond) : ∀ w ∈ u_ws R_SFinder F_SFinder 20, w ∈ c :: gG := fun w h => List.mem_cons_of_mem _ (i0_SFinder w h)
theorem il_SFinder : ∀ w ∈ u_ws R_SFinder F_SFinder 20, w ∈ lw_tbl := fun w h => gG_l (i0_SFinder w h)
theorem fs_SFinder : ∀ j, j < 20 → defaultValue (t_SFinder j) = vp_V [.null, .null, .null, .null, .null, .null, .null, .null, .int 0, .null, .null, .null, .int 0, .null, .null, .null, .null, .null, .null, .int 0] j := by
  intro j hj
  match j, hj with
  | 0, _ => rfl
  | 1, _ => rfl
  | 2, _ => rfl
  | 3, _ => rfl
  | 4, _ => rfl
  | 5, _ => rfl
  | 6, _ => rfl
  | 7, _ => rfl
  | 8, _ => rfl
  | 9, _ => rfl
  | 10, _ => rfl
  | 11, _ => rfl
  | 12, _ => rfl
  | 13, _ => rfl
  | 14, _ => rfl
  | 15, _ => rfl
  | 16, _ => rfl
  | 17, _ => rfl
  | 18, _ => rfl
  | 19, _ => rfl
  | j + 20, h => exact absurd h (by omega)
abbrev R_SParser : String := "SessionServer$Parser"
def F_SParser : u_T := fun k => match k with
  | 0 => ("SessionServer$Parser", "token", "[I", true)
  | 1 => ("SessionServer$Parser", "value", "[J", true)
  | 2 => ("SessionServer$Parser", "starts", "[I", true)
  | 3 => ("SessionServer$Parser", "letters", "[B", true)
  | 4 => ("SessionServer$Parser", "nameEnd", "[I", true)
  | 5 => ("SessionServer$Parser", "names", "I", false)
  | 6 => ("SessionServer$Parser", "tokens", "I", false)
  | 7 => ("SessionServer$Parser", "at", "I", false)
  | 8 => ("SessionServer$Parser", "inItems", "Z", false)
  | 9 => ("SessionServer$Parser", "text", "[B", false)
  | 10 => ("SessionServer$Parser", "length", "I", false)
  | 11 => ("SessionServer$Parser", "bodyStart", "I", false)
  | 12 => ("SessionServer$Parser", "st", "LSessionServer$Statement;", false)
  | _ => ("SessionServer$Parser", "code", "LSessionServer$Code;", false)
def t_SParser : Nat → FieldType := fun k => match k with
  | 0 => .array .int
  | 1 => .array .long
  | 2 => .array .int
  | 3 => .array .byte
  | 4 => .array .int
  | 5 => .int
  | 6 => .int
  | 7 => .int
  | 8 => .boolean
  | 9 => .array .byte
  | 10 => .int
  | 11 => .int
  | 12 => .object "SessionServer$Statement"
  | _ => .object "SessionServer$Code"
theorem n_SParser : ∀ a, a < 14 → ∀ b, b < 14 → a ≠ b → (F_SParser a).2.1 ≠ (F_SParser b).2.1 := by decide +kernel
theorem t_SParser_ok : ∀ k, k < 14 → parseFieldDescriptor (F_SParser k).2.2.1 = some (t_SParser k) := by decide +kernel
theorem i0_SParser : ∀ w ∈ u_ws R_SParser F_SParser 14, w ∈ gG := by
  intro w hw
  obtain ⟨k, hk, rfl⟩ := List.mem_map.mp hw
  have hk := List.mem_range.mp hk
  match k, hk with
  | 0, _ => exact q_409
  | 1, _ => exact q_411
  | 2, _ => exact q_413
  | 3, _ => exact q_415
  | 4, _ => exact q_417
  | 5, _ => exact q_419
  | 6, _ => exact q_421
  | 7, _ => exact q_423
  | 8, _ => exact q_425
  | 9, _ => exact q_427
  | 10, _ => exact q_429
  | 11, _ => exact q_431
  | 12, _ => exact q_433
  | 13, _ => exact q_435
  | k + 14, h => exact absurd h (by omega)
theorem i_SParser (c : Cond) : ∀ w ∈ u_ws R_SParser F_SParser 14, w ∈ c :: gG := fun w h => List.mem_cons_of_mem _ (i0_SParser w h)
theorem il_SParser : ∀ w ∈ u_ws R_SParser F_SParser 14, w ∈ lw_tbl := fun w h => gG_l (i0_SParser w h)
theorem fs_SParser : ∀ j, j < 14 → defaultValue (t_SParser j) = vp_V [.null, .null, .null, .null, .null, .int 0, .int 0, .int 0, .int 0, .null, .int 0, .int 0, .null, .null] j := by
  intro j hj
  match j, hj with
  | 0, _ => rfl
  | 1, _ => rfl
  | 2, _ => rfl
  | 3, _ => rfl
  | 4, _ => rfl
  | 5, _ => rfl
  | 6, _ => rfl
  | 7, _ => rfl
  | 8, _ => rfl
  | 9, _ => rfl
  | 10, _ => rfl
  | 11, _ => rfl
  | 12, _ => rfl
  | 13, _ => rfl
  | j + 14, h => exact absurd h (by omega)
abbrev R_SChecker : String := "SessionServer$Checker"
def F_SChecker : u_T := fun k => match k with
  | 0 => ("SessionServer$Checker", "store", "LSessionServer$Store;", true)
  | 1 => ("SessionServer$Checker", "stack", "[I", true)
  | 2 => ("SessionServer$Checker", "met", "[Z", true)
  | 3 => ("SessionServer$Checker", "st", "LSessionServer$Statement;", false)
  | 4 => ("SessionServer$Checker", "code", "LSessionServer$Code;", false)
  | 5 => ("SessionServer$Checker", "asking", "Z", false)
  | 6 => ("SessionServer$Checker", "foundTable", "I", false)
  | _ => ("SessionServer$Checker", "foundColumn", "I", false)
def t_SChecker : Nat → FieldType := fun k => match k with
  | 0 => .object "SessionServer$Store"
  | 1 => .array .int
  | 2 => .array .boolean
  | 3 => .object "SessionServer$Statement"
  | 4 => .object "SessionServer$Code"
  | 5 => .boolean
  | 6 => .int
  | _ => .int
theorem n_SChecker : ∀ a, a < 8 → ∀ b, b < 8 → a ≠ b → (F_SChecker a).2.1 ≠ (F_SChecker b).2.1 := by decide +kernel
theorem t_SChecker_ok : ∀ k, k < 8 → parseFieldDescriptor (F_SChecker k).2.2.1 = some (t_SChecker k) := by decide +kernel
theorem i0_SChecker : ∀ w ∈ u_ws R_SChecker F_SChecker 8, w ∈ gG := by
  intro w hw
  obtain ⟨k, hk, rfl⟩ := List.mem_map.mp hw
  have hk := List.mem_range.mp hk
  match k, hk with
  | 0, _ => exact q_452
  | 1, _ => exact q_454
  | 2, _ => exact q_456
  | 3, _ => exact q_458
  | 4, _ => exact q_460
  | 5, _ => exact q_462
  | 6, _ => exact q_464
  | 7, _ => exact q_466
  | k + 8, h => exact absurd h (by omega)
theorem i_SChecker (c : Cond) : ∀ w ∈ u_ws R_SChecker F_SChecker 8, w ∈ c :: gG := fun w h => List.mem_cons_of_mem _ (i0_SChecker w h)
theorem il_SChecker : ∀ w ∈ u_ws R_SChecker F_SChecker 8, w ∈ lw_tbl := fun w h => gG_l (i0_SChecker w h)
theorem fs_SChecker : ∀ j, j < 8 → defaultValue (t_SChecker j) = vp_V [.null, .null, .null, .null, .null, .int 0, .int 0, .int 0] j := by
  intro j hj
  match j, hj with
  | 0, _ => rfl
  | 1, _ => rfl
  | 2, _ => rfl
  | 3, _ => rfl
  | 4, _ => rfl
  | 5, _ => rfl
  | 6, _ => rfl
  | 7, _ => rfl
  | j + 8, h => exact absurd h (by omega)
abbrev R_SCode : String := "SessionServer$Code"
def F_SCode : u_T := fun k => match k with
  | 0 => ("SessionServer$Code", "op", "[I", true)
  | 1 => ("SessionServer$Code", "left", "[I", true)
  | 2 => ("SessionServer$Code", "right", "[I", true)
  | 3 => ("SessionServer$Code", "begin", "[I", true)
  | 4 => ("SessionServer$Code", "skip", "[I", true)
  | 5 => ("SessionServer$Code", "constant", "[J", true)
  | 6 => ("SessionServer$Code", "from", "[I", true)
  | 7 => ("SessionServer$Code", "to", "[I", true)
  | 8 => ("SessionServer$Code", "type", "[I", true)
  | 9 => ("SessionServer$Code", "parameter", "[I", true)
  | 10 => ("SessionServer$Code", "size", "I", false)
  | 11 => ("SessionServer$Code", "exprs", "I", false)
  | 12 => ("SessionServer$Code", "highest", "I", false)
  | 13 => ("SessionServer$Code", "whereFrom", "I", false)
  | 14 => ("SessionServer$Code", "whereTo", "I", false)
  | 15 => ("SessionServer$Code", "over", "Z", false)
  | 16 => ("SessionServer$Code", "tooMany", "Z", false)
  | _ => ("SessionServer$Code", "aggregates", "Z", false)
def t_SCode : Nat → FieldType := fun k => match k with
  | 0 => .array .int
  | 1 => .array .int
  | 2 => .array .int
  | 3 => .array .int
  | 4 => .array .int
  | 5 => .array .long
  | 6 => .array .int
  | 7 => .array .int
  | 8 => .array .int
  | 9 => .array .int
  | 10 => .int
  | 11 => .int
  | 12 => .int
  | 13 => .int
  | 14 => .int
  | 15 => .boolean
  | 16 => .boolean
  | _ => .boolean
theorem n_SCode : ∀ a, a < 18 → ∀ b, b < 18 → a ≠ b → (F_SCode a).2.1 ≠ (F_SCode b).2.1 := by decide +kernel
theorem t_SCode_ok : ∀ k, k < 18 → parseFieldDescriptor (F_SCode k).2.2.1 = some (t_SCode k) := by decide +kernel
theorem i0_SCode : ∀ w ∈ u_ws R_SCode F_SCode 18, w ∈ gG := by
  intro w hw
  obtain ⟨k, hk, rfl⟩ := List.mem_map.mp hw
  have hk := List.mem_range.mp hk
  match k, hk with
  | 0, _ => exact q_559
  | 1, _ => exact q_561
  | 2, _ => exact q_563
  | 3, _ => exact q_565
  | 4, _ => exact q_567
  | 5, _ => exact q_569
  | 6, _ => exact q_571
  | 7, _ => exact q_573
  | 8, _ => exact q_575
  | 9, _ => exact q_577
  | 10, _ => exact q_579
  | 11, _ => exact q_581
  | 12, _ => exact q_583
  | 13, _ => exact q_585
  | 14, _ => exact q_587
  | 15, _ => exact q_589
  | 16, _ => exact q_591
  | 17, _ => exact q_593
  | k + 18, h => exact absurd h (by omega)
theorem i_SCode (c : Cond) : ∀ w ∈ u_ws R_SCode F_SCode 18, w ∈ c :: gG := fun w h => List.mem_cons_of_mem _ (i0_SCode w h)
theorem il_SCode : ∀ w ∈ u_ws R_SCode F_SCode 18, w ∈ lw_tbl := fun w h => gG_l (i0_SCode w h)
theorem fs_SCode : ∀ j, j < 18 → defaultValue (t_SCode j) = vp_V [.null, .null, .null, .null, .null, .null, .null, .null, .null, .null, .int 0, .int 0, .int 0, .int 0, .int 0, .int 0, .int 0, .int 0] j := by
  intro j hj
  match j, hj with
  | 0, _ => rfl
  | 1, _ => rfl
  | 2, _ => rfl
  | 3, _ => rfl
  | 4, _ => rfl
  | 5, _ => rfl
  | 6, _ => rfl
  | 7, _ => rfl
  | 8, _ => rfl
  | 9, _ => rfl
  | 10, _ => rfl
  | 11, _ => rfl
  | 12, _ => rfl
  | 13, _ => rfl
  | 14, _ => rfl
  | 15, _ => rfl
  | 16, _ => rfl
  | 17, _ => rfl
  | j + 18, h => exact absurd h (by omega)
abbrev R_SStatement : String := "SessionServer$Statement"
def F_SStatement : u_T := fun k => match k with
  | 0 => ("SessionServer$Statement", "code", "LSessionServer$Code;", true)
  | 1 => ("SessionServer$Statement", "slot", "[I", true)
  | 2 => ("SessionServer$Statement", "alias", "[I", true)
  | 3 => ("SessionServer$Statement", "serial", "[I", true)
  | 4 => ("SessionServer$Statement", "column", "[I", true)
  | 5 => ("SessionServer$Statement", "columnKind", "[I", true)
  | 6 => ("SessionServer$Statement", "rowEnd", "[I", true)
  | 7 => ("SessionServer$Statement", "group", "[I", true)
  | 8 => ("SessionServer$Statement", "order", "[I", true)
  | 9 => ("SessionServer$Statement", "kind", "I", false)
  | 10 => ("SessionServer$Statement", "body", "I", false)
  | 11 => ("SessionServer$Statement", "name", "I", false)
  | 12 => ("SessionServer$Statement", "mode", "I", false)
  | 13 => ("SessionServer$Statement", "tables", "I", false)
  | 14 => ("SessionServer$Statement", "columns", "I", false)
  | 15 => ("SessionServer$Statement", "rows", "I", false)
  | 16 => ("SessionServer$Statement", "groups", "I", false)
  | 17 => ("SessionServer$Statement", "orders", "I", false)
  | 18 => ("SessionServer$Statement", "distinct", "Z", false)
  | _ => ("SessionServer$Statement", "limit", "J", false)
def t_SStatement : Nat → FieldType := fun k => match k with
  | 0 => .object "SessionServer$Code"
  | 1 => .array .int
  | 2 => .array .int
  | 3 => .array .int
  | 4 => .array .int
  | 5 => .array .int
  | 6 => .array .int
  | 7 => .array .int
  | 8 => .array .int
  | 9 => .int
  | 10 => .int
  | 11 => .int
  | 12 => .int
  | 13 => .int
  | 14 => .int
  | 15 => .int
  | 16 => .int
  | 17 => .int
  | 18 => .boolean
  | _ => .long
theorem n_SStatement : ∀ a, a < 20 → ∀ b, b < 20 → a ≠ b → (F_SStatement a).2.1 ≠ (F_SStatement b).2.1 := by decide +kernel
theorem t_SStatement_ok : ∀ k, k < 20 → parseFieldDescriptor (F_SStatement k).2.2.1 = some (t_SStatement k) := by decide +kernel
theorem i0_SStatement : ∀ w ∈ u_ws R_SStatement F_SStatement 20, w ∈ gG := by
  intro w hw
  obtain ⟨k, hk, rfl⟩ := List.mem_map.mp hw
  have hk := List.mem_range.mp hk
  match k, hk with
  | 0, _ => exact q_669
  | 1, _ => exact q_671
  | 2, _ => exact q_673
  | 3, _ => exact q_675
  | 4, _ => exact q_677
  | 5, _ => exact q_679
  | 6, _ => exact q_681
  | 7, _ => exact q_683
  | 8, _ => exact q_685
  | 9, _ => exact q_687
  | 10, _ => exact q_689
  | 11, _ => exact q_691
  | 12, _ => exact q_693
  | 13, _ => exact q_695
  | 14, _ => exact q_697
  | 15, _ => exact q_699
  | 16, _ => exact q_701
  | 17, _ => exact q_703
  | 18, _ => exact q_705
  | 19, _ => exact q_707
  | k + 20, h => exact absurd h (by omega)
theorem i_SStatement (c : Cond) : ∀ w ∈ u_ws R_SStatement F_SStatement 20, w ∈ c :: gG := fun w h => List.mem_cons_of_mem _ (i0_SStatement w h)
theorem il_SStatement : ∀ w ∈ u_ws R_SStatement F_SStatement 20, w ∈ lw_tbl := fun w h => gG_l (i0_SStatement w h)
theorem fs_SStatement : ∀ j, j < 20 → defaultValue (t_SStatement j) = vp_V [.null, .null, .null, .null, .null, .null, .null, .null, .null, .int 0, .int 0, .int 0, .int 0, .int 0, .int 0, .int 0, .int 0, .int 0, .int 0, .long 0] j := by
  intro j hj
  match j, hj with
  | 0, _ => rfl
  | 1, _ => rfl
  | 2, _ => rfl
  | 3, _ => rfl
  | 4, _ => rfl
  | 5, _ => rfl
  | 6, _ => rfl
  | 7, _ => rfl
  | 8, _ => rfl
  | 9, _ => rfl
  | 10, _ => rfl
  | 11, _ => rfl
  | 12, _ => rfl
  | 13, _ => rfl
  | 14, _ => rfl
  | 15, _ => rfl
  | 16, _ => rfl
  | 17, _ => rfl
  | 18, _ => rfl
  | 19, _ => rfl
  | j + 20, h => exact absurd h (by omega)
abbrev R_SWork : String := "SessionServer$Work"
def F_SWork : u_T := fun k => match k with
  | 0 => ("SessionServer$Work", "out", "[B", true)
  | 1 => ("SessionServer$Work", "targets", "[I", true)
  | 2 => ("SessionServer$Work", "row", "[J", true)
  | 3 => ("SessionServer$Work", "values", "[J", true)
  | 4 => ("SessionServer$Work", "valueType", "[I", true)
  | 5 => ("SessionServer$Work", "cells", "[J", false)
  | 6 => ("SessionServer$Work", "length", "I", false)
  | 7 => ("SessionServer$Work", "taken", "I", false)
  | 8 => ("SessionServer$Work", "over", "Z", false)
  | 9 => ("SessionServer$Work", "phase", "I", false)
  | 10 => ("SessionServer$Work", "at", "I", false)
  | 11 => ("SessionServer$Work", "rows", "I", false)
  | 12 => ("SessionServer$Work", "done", "I", false)
  | _ => ("SessionServer$Work", "granted", "Z", false)
def t_SWork : Nat → FieldType := fun k => match k with
  | 0 => .array .byte
  | 1 => .array .int
  | 2 => .array .long
  | 3 => .array .long
  | 4 => .array .int
  | 5 => .array .long
  | 6 => .int
  | 7 => .int
  | 8 => .boolean
  | 9 => .int
  | 10 => .int
  | 11 => .int
  | 12 => .int
  | _ => .boolean
theorem n_SWork : ∀ a, a < 14 → ∀ b, b < 14 → a ≠ b → (F_SWork a).2.1 ≠ (F_SWork b).2.1 := by decide +kernel
theorem t_SWork_ok : ∀ k, k < 14 → parseFieldDescriptor (F_SWork k).2.2.1 = some (t_SWork k) := by decide +kernel
theorem i0_SWork : ∀ w ∈ u_ws R_SWork F_SWork 14, w ∈ gG := by
  intro w hw
  obtain ⟨k, hk, rfl⟩ := List.mem_map.mp hw
  have hk := List.mem_range.mp hk
  match k, hk with
  | 0, _ => exact q_748
  | 1, _ => exact q_750
  | 2, _ => exact q_752
  | 3, _ => exact q_754
  | 4, _ => exact q_756
  | 5, _ => exact q_758
  | 6, _ => exact q_760
  | 7, _ => exact q_762
  | 8, _ => exact q_764
  | 9, _ => exact q_766
  | 10, _ => exact q_768
  | 11, _ => exact q_770
  | 12, _ => exact q_772
  | 13, _ => exact q_774
  | k + 14, h => exact absurd h (by omega)
theorem i_SWork (c : Cond) : ∀ w ∈ u_ws R_SWork F_SWork 14, w ∈ c :: gG := fun w h => List.mem_cons_of_mem _ (i0_SWork w h)
theorem il_SWork : ∀ w ∈ u_ws R_SWork F_SWork 14, w ∈ lw_tbl := fun w h => gG_l (i0_SWork w h)
theorem fs_SWork : ∀ j, j < 14 → defaultValue (t_SWork j) = vp_V [.null, .null, .null, .null, .null, .null, .int 0, .int 0, .int 0, .int 0, .int 0, .int 0, .int 0, .int 0] j := by
  intro j hj
  match j, hj with
  | 0, _ => rfl
  | 1, _ => rfl
  | 2, _ => rfl
  | 3, _ => rfl
  | 4, _ => rfl
  | 5, _ => rfl
  | 6, _ => rfl
  | 7, _ => rfl
  | 8, _ => rfl
  | 9, _ => rfl
  | 10, _ => rfl
  | 11, _ => rfl
  | 12, _ => rfl
  | 13, _ => rfl
  | j + 14, h => exact absurd h (by omega)
abbrev R_SSession : String := "SessionServer$Session"
def F_SSession : u_T := fun k => match k with
  | 0 => ("SessionServer$Session", "id", "I", true)
  | 1 => ("SessionServer$Session", "st", "LSessionServer$Statement;", true)
  | 2 => ("SessionServer$Session", "work", "LSessionServer$Work;", true)
  | 3 => ("SessionServer$Session", "savepoint", "[I", true)
  | 4 => ("SessionServer$Session", "number", "[I", true)
  | 5 => ("SessionServer$Session", "held", "[I", true)
  | 6 => ("SessionServer$Session", "preparedName", "[I", true)
  | 7 => ("SessionServer$Session", "preparedText", "[[B", true)
  | 8 => ("SessionServer$Session", "preparedTypes", "[[I", true)
  | 9 => ("SessionServer$Session", "open", "Z", false)
  | 10 => ("SessionServer$Session", "mode", "I", false)
  | 11 => ("SessionServer$Session", "isolation", "I", false)
  | 12 => ("SessionServer$Session", "top", "I", false)
  | 13 => ("SessionServer$Session", "command", "I", false)
  | 14 => ("SessionServer$Session", "snapshot", "I", false)
  | 15 => ("SessionServer$Session", "guard", "I", false)
  | 16 => ("SessionServer$Session", "waitOrder", "I", false)
  | _ => ("SessionServer$Session", "waitNumber", "I", false)
def t_SSession : Nat → FieldType := fun k => match k with
  | 0 => .int
  | 1 => .object "SessionServer$Statement"
  | 2 => .object "SessionServer$Work"
  | 3 => .array .int
  | 4 => .array .int
  | 5 => .array .int
  | 6 => .array .int
  | 7 => .array (.array .byte)
  | 8 => .array (.array .int)
  | 9 => .boolean
  | 10 => .int
  | 11 => .int
  | 12 => .int
  | 13 => .int
  | 14 => .int
  | 15 => .int
  | 16 => .int
  | _ => .int
theorem n_SSession : ∀ a, a < 18 → ∀ b, b < 18 → a ≠ b → (F_SSession a).2.1 ≠ (F_SSession b).2.1 := by decide +kernel
theorem t_SSession_ok : ∀ k, k < 18 → parseFieldDescriptor (F_SSession k).2.2.1 = some (t_SSession k) := by decide +kernel
theorem i0_SSession : ∀ w ∈ u_ws R_SSession F_SSession 18, w ∈ gG := by
  intro w hw
  obtain ⟨k, hk, rfl⟩ := List.mem_map.mp hw
  have hk := List.mem_range.mp hk
  match k, hk with
  | 0, _ => exact q_825
  | 1, _ => exact q_827
  | 2, _ => exact q_829
  | 3, _ => exact q_831
  | 4, _ => exact q_833
  | 5, _ => exact q_835
  | 6, _ => exact q_837
  | 7, _ => exact q_839
  | 8, _ => exact q_841
  | 9, _ => exact q_843
  | 10, _ => exact q_845
  | 11, _ => exact q_847
  | 12, _ => exact q_849
  | 13, _ => exact q_851
  | 14, _ => exact q_853
  | 15, _ => exact q_855
  | 16, _ => exact q_857
  | 17, _ => exact q_859
  | k + 18, h => exact absurd h (by omega)
theorem i_SSession (c : Cond) : ∀ w ∈ u_ws R_SSession F_SSession 18, w ∈ c :: gG := fun w h => List.mem_cons_of_mem _ (i0_SSession w h)
theorem il_SSession : ∀ w ∈ u_ws R_SSession F_SSession 18, w ∈ lw_tbl := fun w h => gG_l (i0_SSession w h)
theorem fs_SSession : ∀ j, j < 18 → defaultValue (t_SSession j) = vp_V [.int 0, .null, .null, .null, .null, .null, .null, .null, .null, .int 0, .int 0, .int 0, .int 0, .int 0, .int 0, .int 0, .int 0, .int 0] j := by
  intro j hj
  match j, hj with
  | 0, _ => rfl
  | 1, _ => rfl
  | 2, _ => rfl
  | 3, _ => rfl
  | 4, _ => rfl
  | 5, _ => rfl
  | 6, _ => rfl
  | 7, _ => rfl
  | 8, _ => rfl
  | 9, _ => rfl
  | 10, _ => rfl
  | 11, _ => rfl
  | 12, _ => rfl
  | 13, _ => rfl
  | 14, _ => rfl
  | 15, _ => rfl
  | 16, _ => rfl
  | 17, _ => rfl
  | j + 18, h => exact absurd h (by omega)
abbrev R_Server : String := "SessionServer"
def F_Server : u_T := fun k => match k with
  | 0 => ("SessionServer", "tape", "[B", true)
  | 1 => ("SessionServer", "sessions", "[LSessionServer$Session;", true)
  | 2 => ("SessionServer", "store", "LSessionServer$Store;", true)
  | 3 => ("SessionServer", "ledger", "LSessionServer$Ledger;", true)
  | 4 => ("SessionServer", "serial", "LSessionServer$Serial;", true)
  | 5 => ("SessionServer", "machine", "LSessionServer$Machine;", true)
  | 6 => ("SessionServer", "finder", "LSessionServer$Finder;", true)
  | 7 => ("SessionServer", "parser", "LSessionServer$Parser;", true)
  | 8 => ("SessionServer", "checker", "LSessionServer$Checker;", true)
  | 9 => ("SessionServer", "taped", "I", false)
  | 10 => ("SessionServer", "waitsBegun", "I", false)
  | _ => ("SessionServer", "up", "Z", false)
def t_Server : Nat → FieldType := fun k => match k with
  | 0 => .array .byte
  | 1 => .array (.object "SessionServer$Session")
  | 2 => .object "SessionServer$Store"
  | 3 => .object "SessionServer$Ledger"
  | 4 => .object "SessionServer$Serial"
  | 5 => .object "SessionServer$Machine"
  | 6 => .object "SessionServer$Finder"
  | 7 => .object "SessionServer$Parser"
  | 8 => .object "SessionServer$Checker"
  | 9 => .int
  | 10 => .int
  | _ => .boolean
theorem n_Server : ∀ a, a < 12 → ∀ b, b < 12 → a ≠ b → (F_Server a).2.1 ≠ (F_Server b).2.1 := by decide +kernel
theorem t_Server_ok : ∀ k, k < 12 → parseFieldDescriptor (F_Server k).2.2.1 = some (t_Server k) := by decide +kernel
theorem i0_Server : ∀ w ∈ u_ws R_Server F_Server 12, w ∈ gG := by
  intro w hw
  obtain ⟨k, hk, rfl⟩ := List.mem_map.mp hw
  have hk := List.mem_range.mp hk
  match k, hk with
  | 0, _ => exact q_874
  | 1, _ => exact q_876
  | 2, _ => exact q_878
  | 3, _ => exact q_880
  | 4, _ => exact q_882
  | 5, _ => exact q_884
  | 6, _ => exact q_886
  | 7, _ => exact q_888
  | 8, _ => exact q_890
  | 9, _ => exact q_892
  | 10, _ => exact q_894
  | 11, _ => exact q_896
  | k + 12, h => exact absurd h (by omega)
theorem i_Server (c : Cond) : ∀ w ∈ u_ws R_Server F_Server 12, w ∈ c :: gG := fun w h => List.mem_cons_of_mem _ (i0_Server w h)
theorem il_Server : ∀ w ∈ u_ws R_Server F_Server 12, w ∈ lw_tbl := fun w h => gG_l (i0_Server w h)
theorem fs_Server : ∀ j, j < 12 → defaultValue (t_Server j) = vp_V [.null, .null, .null, .null, .null, .null, .null, .null, .null, .int 0, .int 0, .int 0] j := by
  intro j hj
  match j, hj with
  | 0, _ => rfl
  | 1, _ => rfl
  | 2, _ => rfl
  | 3, _ => rfl
  | 4, _ => rfl
  | 5, _ => rfl
  | 6, _ => rfl
  | 7, _ => rfl
  | 8, _ => rfl
  | 9, _ => rfl
  | 10, _ => rfl
  | 11, _ => rfl
  | j + 12, h => exact absurd h (by omega)
abbrev R_MCatalog : String := "SessionServerModel$Catalog"
def F_MCatalog : u_T := fun k => match k with
  | 0 => ("SessionServerModel$Catalog", "made", "I", false)
  | 1 => ("SessionServerModel$Catalog", "ids", "[I", true)
  | 2 => ("SessionServerModel$Catalog", "widths", "[I", true)
  | 3 => ("SessionServerModel$Catalog", "names", "[B", true)
  | 4 => ("SessionServerModel$Catalog", "sizes", "[I", true)
  | 5 => ("SessionServerModel$Catalog", "columnNames", "[B", true)
  | 6 => ("SessionServerModel$Catalog", "columnSizes", "[I", true)
  | 7 => ("SessionServerModel$Catalog", "types", "[I", true)
  | 8 => ("SessionServerModel$Catalog", "never", "[Z", true)
  | 9 => ("SessionServerModel$Catalog", "indexes", "I", false)
  | 10 => ("SessionServerModel$Catalog", "indexTable", "[I", true)
  | 11 => ("SessionServerModel$Catalog", "indexColumn", "[I", true)
  | _ => ("SessionServerModel$Catalog", "indexUnique", "[Z", true)
def t_MCatalog : Nat → FieldType := fun k => match k with
  | 0 => .int
  | 1 => .array .int
  | 2 => .array .int
  | 3 => .array .byte
  | 4 => .array .int
  | 5 => .array .byte
  | 6 => .array .int
  | 7 => .array .int
  | 8 => .array .boolean
  | 9 => .int
  | 10 => .array .int
  | 11 => .array .int
  | _ => .array .boolean
theorem n_MCatalog : ∀ a, a < 13 → ∀ b, b < 13 → a ≠ b → (F_MCatalog a).2.1 ≠ (F_MCatalog b).2.1 := by decide +kernel
theorem t_MCatalog_ok : ∀ k, k < 13 → parseFieldDescriptor (F_MCatalog k).2.2.1 = some (t_MCatalog k) := by decide +kernel
theorem i0_MCatalog : ∀ w ∈ u_ws R_MCatalog F_MCatalog 13, w ∈ gG := by
  intro w hw
  obtain ⟨k, hk, rfl⟩ := List.mem_map.mp hw
  have hk := List.mem_range.mp hk
  match k, hk with
  | 0, _ => exact q_2004
  | 1, _ => exact q_2006
  | 2, _ => exact q_2008
  | 3, _ => exact q_2010
  | 4, _ => exact q_2012
  | 5, _ => exact q_2014
  | 6, _ => exact q_2016
  | 7, _ => exact q_2018
  | 8, _ => exact q_2020
  | 9, _ => exact q_2022
  | 10, _ => exact q_2024
  | 11, _ => exact q_2026
  | 12, _ => exact q_2028
  | k + 13, h => exact absurd h (by omega)
theorem i_MCatalog (c : Cond) : ∀ w ∈ u_ws R_MCatalog F_MCatalog 13, w ∈ c :: gG := fun w h => List.mem_cons_of_mem _ (i0_MCatalog w h)
theorem il_MCatalog : ∀ w ∈ u_ws R_MCatalog F_MCatalog 13, w ∈ lw_tbl := fun w h => gG_l (i0_MCatalog w h)
theorem fs_MCatalog : ∀ j, j < 13 → defaultValue (t_MCatalog j) = vp_V [.int 0, .null, .null, .null, .null, .null, .null, .null, .null, .int 0, .null, .null, .null] j := by
  intro j hj
  match j, hj with
  | 0, _ => rfl
  | 1, _ => rfl
  | 2, _ => rfl
  | 3, _ => rfl
  | 4, _ => rfl
  | 5, _ => rfl
  | 6, _ => rfl
  | 7, _ => rfl
  | 8, _ => rfl
  | 9, _ => rfl
  | 10, _ => rfl
  | 11, _ => rfl
  | 12, _ => rfl
  | j + 13, h => exact absurd h (by omega)
abbrev R_MCells : String := "SessionServerModel$Cells"
def F_MCells : u_T := fun k => match k with
  | 0 => ("SessionServerModel$Cells", "kinds", "[B", true)
  | 1 => ("SessionServerModel$Cells", "numbers", "[J", true)
  | 2 => ("SessionServerModel$Cells", "lengths", "[B", true)
  | _ => ("SessionServerModel$Cells", "words", "[J", true)
def t_MCells : Nat → FieldType := fun k => match k with
  | 0 => .array .byte
  | 1 => .array .long
  | 2 => .array .byte
  | _ => .array .long
theorem n_MCells : ∀ a, a < 4 → ∀ b, b < 4 → a ≠ b → (F_MCells a).2.1 ≠ (F_MCells b).2.1 := by decide +kernel
theorem t_MCells_ok : ∀ k, k < 4 → parseFieldDescriptor (F_MCells k).2.2.1 = some (t_MCells k) := by decide +kernel
theorem i0_MCells : ∀ w ∈ u_ws R_MCells F_MCells 4, w ∈ gG := by
  intro w hw
  obtain ⟨k, hk, rfl⟩ := List.mem_map.mp hw
  have hk := List.mem_range.mp hk
  match k, hk with
  | 0, _ => exact q_2066
  | 1, _ => exact q_2068
  | 2, _ => exact q_2070
  | 3, _ => exact q_2072
  | k + 4, h => exact absurd h (by omega)
theorem i_MCells (c : Cond) : ∀ w ∈ u_ws R_MCells F_MCells 4, w ∈ c :: gG := fun w h => List.mem_cons_of_mem _ (i0_MCells w h)
theorem il_MCells : ∀ w ∈ u_ws R_MCells F_MCells 4, w ∈ lw_tbl := fun w h => gG_l (i0_MCells w h)
theorem fs_MCells : ∀ j, j < 4 → defaultValue (t_MCells j) = vp_V [.null, .null, .null, .null] j := by
  intro j hj
  match j, hj with
  | 0, _ => rfl
  | 1, _ => rfl
  | 2, _ => rfl
  | 3, _ => rfl
  | j + 4, h => exact absurd h (by omega)
abbrev R_MSpan : String := "SessionServerModel$Span"
def F_MSpan : u_T := fun k => match k with
  | 0 => ("SessionServerModel$Span", "table", "I", false)
  | 1 => ("SessionServerModel$Span", "column", "I", false)
  | 2 => ("SessionServerModel$Span", "hasLow", "Z", false)
  | 3 => ("SessionServerModel$Span", "lowIn", "Z", false)
  | 4 => ("SessionServerModel$Span", "hasHigh", "Z", false)
  | 5 => ("SessionServerModel$Span", "highIn", "Z", false)
  | 6 => ("SessionServerModel$Span", "none", "Z", false)
  | _ => ("SessionServerModel$Span", "ends", "LSessionServerModel$Cells;", true)
def t_MSpan : Nat → FieldType := fun k => match k with
  | 0 => .int
  | 1 => .int
  | 2 => .boolean
  | 3 => .boolean
  | 4 => .boolean
  | 5 => .boolean
  | 6 => .boolean
  | _ => .object "SessionServerModel$Cells"
theorem n_MSpan : ∀ a, a < 8 → ∀ b, b < 8 → a ≠ b → (F_MSpan a).2.1 ≠ (F_MSpan b).2.1 := by decide +kernel
theorem t_MSpan_ok : ∀ k, k < 8 → parseFieldDescriptor (F_MSpan k).2.2.1 = some (t_MSpan k) := by decide +kernel
theorem i0_MSpan : ∀ w ∈ u_ws R_MSpan F_MSpan 8, w ∈ gG := by
  intro w hw
  obtain ⟨k, hk, rfl⟩ := List.mem_map.mp hw
  have hk := List.mem_range.mp hk
  match k, hk with
  | 0, _ => exact q_2088
  | 1, _ => exact q_2090
  | 2, _ => exact q_2092
  | 3, _ => exact q_2094
  | 4, _ => exact q_2096
  | 5, _ => exact q_2098
  | 6, _ => exact q_2100
  | 7, _ => exact q_2102
  | k + 8, h => exact absurd h (by omega)
theorem i_MSpan (c : Cond) : ∀ w ∈ u_ws R_MSpan F_MSpan 8, w ∈ c :: gG := fun w h => List.mem_cons_of_mem _ (i0_MSpan w h)
theorem il_MSpan : ∀ w ∈ u_ws R_MSpan F_MSpan 8, w ∈ lw_tbl := fun w h => gG_l (i0_MSpan w h)
theorem fs_MSpan : ∀ j, j < 8 → defaultValue (t_MSpan j) = vp_V [.int 0, .int 0, .int 0, .int 0, .int 0, .int 0, .int 0, .null] j := by
  intro j hj
  match j, hj with
  | 0, _ => rfl
  | 1, _ => rfl
  | 2, _ => rfl
  | 3, _ => rfl
  | 4, _ => rfl
  | 5, _ => rfl
  | 6, _ => rfl
  | 7, _ => rfl
  | j + 8, h => exact absurd h (by omega)
abbrev R_MSerial : String := "SessionServerModel$Serial"
def F_MSerial : u_T := fun k => match k with
  | 0 => ("SessionServerModel$Serial", "begun", "I", false)
  | 1 => ("SessionServerModel$Serial", "commits", "I", false)
  | 2 => ("SessionServerModel$Serial", "kept", "I", false)
  | 3 => ("SessionServerModel$Serial", "id", "[I", true)
  | 4 => ("SessionServerModel$Serial", "since", "[I", true)
  | 5 => ("SessionServerModel$Serial", "place", "[I", true)
  | 6 => ("SessionServerModel$Serial", "doomed", "[Z", true)
  | 7 => ("SessionServerModel$Serial", "least", "[I", true)
  | 8 => ("SessionServerModel$Serial", "arrows", "[[Z", true)
  | 9 => ("SessionServerModel$Serial", "ranges", "[I", true)
  | 10 => ("SessionServerModel$Serial", "spans", "[[LSessionServerModel$Span;", true)
  | 11 => ("SessionServerModel$Serial", "sinceOf", "[I", true)
  | 12 => ("SessionServerModel$Serial", "commitOf", "[I", true)
  | 13 => ("SessionServerModel$Serial", "ever", "[J", true)
  | 14 => ("SessionServerModel$Serial", "met", "[Z", true)
  | _ => ("SessionServerModel$Serial", "row", "[I", true)
def t_MSerial : Nat → FieldType := fun k => match k with
  | 0 => .int
  | 1 => .int
  | 2 => .int
  | 3 => .array .int
  | 4 => .array .int
  | 5 => .array .int
  | 6 => .array .boolean
  | 7 => .array .int
  | 8 => .array (.array .boolean)
  | 9 => .array .int
  | 10 => .array (.array (.object "SessionServerModel$Span"))
  | 11 => .array .int
  | 12 => .array .int
  | 13 => .array .long
  | 14 => .array .boolean
  | _ => .array .int
theorem n_MSerial : ∀ a, a < 16 → ∀ b, b < 16 → a ≠ b → (F_MSerial a).2.1 ≠ (F_MSerial b).2.1 := by decide +kernel
theorem t_MSerial_ok : ∀ k, k < 16 → parseFieldDescriptor (F_MSerial k).2.2.1 = some (t_MSerial k) := by decide +kernel
theorem i0_MSerial : ∀ w ∈ u_ws R_MSerial F_MSerial 16, w ∈ gG := by
  intro w hw
  obtain ⟨k, hk, rfl⟩ := List.mem_map.mp hw
  have hk := List.mem_range.mp hk
  match k, hk with
  | 0, _ => exact q_2123
  | 1, _ => exact q_2125
  | 2, _ => exact q_2127
  | 3, _ => exact q_2129
  | 4, _ => exact q_2131
  | 5, _ => exact q_2133
  | 6, _ => exact q_2135
  | 7, _ => exact q_2137
  | 8, _ => exact q_2139
  | 9, _ => exact q_2141
  | 10, _ => exact q_2143
  | 11, _ => exact q_2145
  | 12, _ => exact q_2147
  | 13, _ => exact q_2149
  | 14, _ => exact q_2151
  | 15, _ => exact q_2153
  | k + 16, h => exact absurd h (by omega)
theorem i_MSerial (c : Cond) : ∀ w ∈ u_ws R_MSerial F_MSerial 16, w ∈ c :: gG := fun w h => List.mem_cons_of_mem _ (i0_MSerial w h)
theorem il_MSerial : ∀ w ∈ u_ws R_MSerial F_MSerial 16, w ∈ lw_tbl := fun w h => gG_l (i0_MSerial w h)
theorem fs_MSerial : ∀ j, j < 16 → defaultValue (t_MSerial j) = vp_V [.int 0, .int 0, .int 0, .null, .null, .null, .null, .null, .null, .null, .null, .null, .null, .null, .null, .null] j := by
  intro j hj
  match j, hj with
  | 0, _ => rfl
  | 1, _ => rfl
  | 2, _ => rfl
  | 3, _ => rfl
  | 4, _ => rfl
  | 5, _ => rfl
  | 6, _ => rfl
  | 7, _ => rfl
  | 8, _ => rfl
  | 9, _ => rfl
  | 10, _ => rfl
  | 11, _ => rfl
  | 12, _ => rfl
  | 13, _ => rfl
  | 14, _ => rfl
  | 15, _ => rfl
  | j + 16, h => exact absurd h (by omega)
abbrev R_MWork : String := "SessionServerModel$Work"
def F_MWork : u_T := fun k => match k with
  | 0 => ("SessionServerModel$Work", "versions", "LSessionServerModel$Cells;", true)
  | 1 => ("SessionServerModel$Work", "\x72", "LSessionServerModel$Reader;", false)
  | 2 => ("SessionServerModel$Work", "given", "LSessionServerModel$Cells;", false)
  | 3 => ("SessionServerModel$Work", "at", "[I", true)
  | 4 => ("SessionServerModel$Work", "now", "LSessionServerModel$Cells;", true)
  | 5 => ("SessionServerModel$Work", "many", "[J", true)
  | 6 => ("SessionServerModel$Work", "best", "LSessionServerModel$Cells;", true)
  | 7 => ("SessionServerModel$Work", "need", "[I", true)
  | 8 => ("SessionServerModel$Work", "two", "LSessionServerModel$Cells;", true)
  | 9 => ("SessionServerModel$Work", "counted", "I", false)
  | 10 => ("SessionServerModel$Work", "combinations", "[I", true)
  | 11 => ("SessionServerModel$Work", "next", "[I", true)
  | 12 => ("SessionServerModel$Work", "size", "I", false)
  | 13 => ("SessionServerModel$Work", "row", "[I", true)
  | _ => ("SessionServerModel$Work", "spare", "[I", true)
def t_MWork : Nat → FieldType := fun k => match k with
  | 0 => .object "SessionServerModel$Cells"
  | 1 => .object "SessionServerModel$Reader"
  | 2 => .object "SessionServerModel$Cells"
  | 3 => .array .int
  | 4 => .object "SessionServerModel$Cells"
  | 5 => .array .long
  | 6 => .object "SessionServerModel$Cells"
  | 7 => .array .int
  | 8 => .object "SessionServerModel$Cells"
  | 9 => .int
  | 10 => .array .int
  | 11 => .array .int
  | 12 => .int
  | 13 => .array .int
  | _ => .array .int
theorem n_MWork : ∀ a, a < 15 → ∀ b, b < 15 → a ≠ b → (F_MWork a).2.1 ≠ (F_MWork b).2.1 := by decide +kernel
theorem t_MWork_ok : ∀ k, k < 15 → parseFieldDescriptor (F_MWork k).2.2.1 = some (t_MWork k) := by decide +kernel
theorem i0_MWork : ∀ w ∈ u_ws R_MWork F_MWork 15, w ∈ gG := by
  intro w hw
  obtain ⟨k, hk, rfl⟩ := List.mem_map.mp hw
  have hk := List.mem_range.mp hk
  match k, hk with
  | 0, _ => exact q_2185
  | 1, _ => exact q_2187
  | 2, _ => exact q_2189
  | 3, _ => exact q_2191
  | 4, _ => exact q_2193
  | 5, _ => exact q_2195
  | 6, _ => exact q_2197
  | 7, _ => exact q_2199
  | 8, _ => exact q_2201
  | 9, _ => exact q_2203
  | 10, _ => exact q_2205
  | 11, _ => exact q_2207
  | 12, _ => exact q_2209
  | 13, _ => exact q_2211
  | 14, _ => exact q_2213
  | k + 15, h => exact absurd h (by omega)
theorem i_MWork (c : Cond) : ∀ w ∈ u_ws R_MWork F_MWork 15, w ∈ c :: gG := fun w h => List.mem_cons_of_mem _ (i0_MWork w h)
theorem il_MWork : ∀ w ∈ u_ws R_MWork F_MWork 15, w ∈ lw_tbl := fun w h => gG_l (i0_MWork w h)
theorem fs_MWork : ∀ j, j < 15 → defaultValue (t_MWork j) = vp_V [.null, .null, .null, .null, .null, .null, .null, .null, .null, .int 0, .null, .null, .int 0, .null, .null] j := by
  intro j hj
  match j, hj with
  | 0, _ => rfl
  | 1, _ => rfl
  | 2, _ => rfl
  | 3, _ => rfl
  | 4, _ => rfl
  | 5, _ => rfl
  | 6, _ => rfl
  | 7, _ => rfl
  | 8, _ => rfl
  | 9, _ => rfl
  | 10, _ => rfl
  | 11, _ => rfl
  | 12, _ => rfl
  | 13, _ => rfl
  | 14, _ => rfl
  | j + 15, h => exact absurd h (by omega)
abbrev R_MReader : String := "SessionServerModel$Reader"
def F_MReader : u_T := fun k => match k with
  | 0 => ("SessionServerModel$Reader", "size", "I", false)
  | 1 => ("SessionServerModel$Reader", "text", "[B", true)
  | 2 => ("SessionServerModel$Reader", "tokens", "I", false)
  | 3 => ("SessionServerModel$Reader", "tokenKind", "[I", true)
  | 4 => ("SessionServerModel$Reader", "from", "[I", true)
  | 5 => ("SessionServerModel$Reader", "to", "[I", true)
  | 6 => ("SessionServerModel$Reader", "bad", "Z", false)
  | 7 => ("SessionServerModel$Reader", "catalog", "LSessionServerModel$Catalog;", true)
  | 8 => ("SessionServerModel$Reader", "nodes", "I", false)
  | 9 => ("SessionServerModel$Reader", "kind", "[I", true)
  | 10 => ("SessionServerModel$Reader", "left", "[I", true)
  | 11 => ("SessionServerModel$Reader", "right", "[I", true)
  | 12 => ("SessionServerModel$Reader", "type", "[I", true)
  | 13 => ("SessionServerModel$Reader", "before", "[I", true)
  | 14 => ("SessionServerModel$Reader", "named", "[I", true)
  | 15 => ("SessionServerModel$Reader", "number", "[J", true)
  | 16 => ("SessionServerModel$Reader", "letters", "[B", true)
  | 17 => ("SessionServerModel$Reader", "length", "[I", true)
  | 18 => ("SessionServerModel$Reader", "checks", "I", false)
  | 19 => ("SessionServerModel$Reader", "check", "[I", true)
  | 20 => ("SessionServerModel$Reader", "first", "[I", true)
  | 21 => ("SessionServerModel$Reader", "second", "[I", true)
  | 22 => ("SessionServerModel$Reader", "what", "I", false)
  | 23 => ("SessionServerModel$Reader", "inner", "I", false)
  | 24 => ("SessionServerModel$Reader", "target", "I", false)
  | 25 => ("SessionServerModel$Reader", "targetToken", "I", false)
  | 26 => ("SessionServerModel$Reader", "mode", "I", false)
  | 27 => ("SessionServerModel$Reader", "named0", "I", false)
  | 28 => ("SessionServerModel$Reader", "star", "Z", false)
  | 29 => ("SessionServerModel$Reader", "distinct", "Z", false)
  | 30 => ("SessionServerModel$Reader", "limit", "J", false)
  | 31 => ("SessionServerModel$Reader", "where", "I", false)
  | 32 => ("SessionServerModel$Reader", "items", "I", false)
  | 33 => ("SessionServerModel$Reader", "item", "[I", true)
  | 34 => ("SessionServerModel$Reader", "groups", "I", false)
  | 35 => ("SessionServerModel$Reader", "group", "[I", true)
  | 36 => ("SessionServerModel$Reader", "orders", "I", false)
  | 37 => ("SessionServerModel$Reader", "order", "[J", true)
  | 38 => ("SessionServerModel$Reader", "falls", "[Z", true)
  | 39 => ("SessionServerModel$Reader", "froms", "I", false)
  | 40 => ("SessionServerModel$Reader", "fromTable", "[I", true)
  | 41 => ("SessionServerModel$Reader", "fromToken", "[I", true)
  | 42 => ("SessionServerModel$Reader", "alias", "[I", true)
  | 43 => ("SessionServerModel$Reader", "sets", "I", false)
  | 44 => ("SessionServerModel$Reader", "setToken", "[I", true)
  | 45 => ("SessionServerModel$Reader", "setColumn", "[I", true)
  | 46 => ("SessionServerModel$Reader", "setNode", "[I", true)
  | 47 => ("SessionServerModel$Reader", "rows", "I", false)
  | 48 => ("SessionServerModel$Reader", "uneven", "Z", false)
  | 49 => ("SessionServerModel$Reader", "values", "I", false)
  | 50 => ("SessionServerModel$Reader", "value", "[I", true)
  | 51 => ("SessionServerModel$Reader", "columns", "I", false)
  | 52 => ("SessionServerModel$Reader", "newToken", "[I", true)
  | 53 => ("SessionServerModel$Reader", "newType", "[I", true)
  | 54 => ("SessionServerModel$Reader", "indexed", "I", false)
  | 55 => ("SessionServerModel$Reader", "indexedToken", "I", false)
  | 56 => ("SessionServerModel$Reader", "unique", "Z", false)
  | 57 => ("SessionServerModel$Reader", "highest", "I", false)
  | 58 => ("SessionServerModel$Reader", "needed", "[I", true)
  | 59 => ("SessionServerModel$Reader", "inItems", "Z", false)
  | 60 => ("SessionServerModel$Reader", "place", "I", false)
  | _ => ("SessionServerModel$Reader", "in", "[Z", true)
def t_MReader : Nat → FieldType := fun k => match k with
  | 0 => .int
  | 1 => .array .byte
  | 2 => .int
  | 3 => .array .int
  | 4 => .array .int
  | 5 => .array .int
  | 6 => .boolean
  | 7 => .object "SessionServerModel$Catalog"
  | 8 => .int
  | 9 => .array .int
  | 10 => .array .int
  | 11 => .array .int
  | 12 => .array .int
  | 13 => .array .int
  | 14 => .array .int
  | 15 => .array .long
  | 16 => .array .byte
  | 17 => .array .int
  | 18 => .int
  | 19 => .array .int
  | 20 => .array .int
  | 21 => .array .int
  | 22 => .int
  | 23 => .int
  | 24 => .int
  | 25 => .int
  | 26 => .int
  | 27 => .int
  | 28 => .boolean
  | 29 => .boolean
  | 30 => .long
  | 31 => .int
  | 32 => .int
  | 33 => .array .int
  | 34 => .int
  | 35 => .array .int
  | 36 => .int
  | 37 => .array .long
  | 38 => .array .boolean
  | 39 => .int
  | 40 => .array .int
  | 41 => .array .int
  | 42 => .array .int
  | 43 => .int
  | 44 => .array .int
  | 45 => .array .int
  | 46 => .array .int
  | 47 => .int
  | 48 => .boolean
  | 49 => .int
  | 50 => .array .int
  | 51 => .int
  | 52 => .array .int
  | 53 => .array .int
  | 54 => .int
  | 55 => .int
  | 56 => .boolean
  | 57 => .int
  | 58 => .array .int
  | 59 => .boolean
  | 60 => .int
  | _ => .array .boolean
theorem n_MReader : ∀ a, a < 62 → ∀ b, b < 62 → a ≠ b → (F_MReader a).2.1 ≠ (F_MReader b).2.1 := by decide +kernel
theorem t_MReader_ok : ∀ k, k < 62 → parseFieldDescriptor (F_MReader k).2.2.1 = some (t_MReader k) := by decide +kernel
theorem i0_MReader : ∀ w ∈ u_ws R_MReader F_MReader 62, w ∈ gG := by
  intro w hw
  obtain ⟨k, hk, rfl⟩ := List.mem_map.mp hw
  have hk := List.mem_range.mp hk
  match k, hk with
  | 0, _ => exact q_2344
  | 1, _ => exact q_2346
  | 2, _ => exact q_2348
  | 3, _ => exact q_2350
  | 4, _ => exact q_2352
  | 5, _ => exact q_2354
  | 6, _ => exact q_2356
  | 7, _ => exact q_2358
  | 8, _ => exact q_2360
  | 9, _ => exact q_2362
  | 10, _ => exact q_2364
  | 11, _ => exact q_2366
  | 12, _ => exact q_2368
  | 13, _ => exact q_2370
  | 14, _ => exact q_2372
  | 15, _ => exact q_2374
  | 16, _ => exact q_2376
  | 17, _ => exact q_2378
  | 18, _ => exact q_2380
  | 19, _ => exact q_2382
  | 20, _ => exact q_2384
  | 21, _ => exact q_2386
  | 22, _ => exact q_2388
  | 23, _ => exact q_2390
  | 24, _ => exact q_2392
  | 25, _ => exact q_2394
  | 26, _ => exact q_2396
  | 27, _ => exact q_2398
  | 28, _ => exact q_2400
  | 29, _ => exact q_2402
  | 30, _ => exact q_2404
  | 31, _ => exact q_2406
  | 32, _ => exact q_2408
  | 33, _ => exact q_2410
  | 34, _ => exact q_2412
  | 35, _ => exact q_2414
  | 36, _ => exact q_2416
  | 37, _ => exact q_2418
  | 38, _ => exact q_2420
  | 39, _ => exact q_2422
  | 40, _ => exact q_2424
  | 41, _ => exact q_2426
  | 42, _ => exact q_2428
  | 43, _ => exact q_2430
  | 44, _ => exact q_2432
  | 45, _ => exact q_2434
  | 46, _ => exact q_2436
  | 47, _ => exact q_2438
  | 48, _ => exact q_2440
  | 49, _ => exact q_2442
  | 50, _ => exact q_2444
  | 51, _ => exact q_2446
  | 52, _ => exact q_2448
  | 53, _ => exact q_2450
  | 54, _ => exact q_2452
  | 55, _ => exact q_2454
  | 56, _ => exact q_2456
  | 57, _ => exact q_2458
  | 58, _ => exact q_2460
  | 59, _ => exact q_2462
  | 60, _ => exact q_2464
  | 61, _ => exact q_2466
  | k + 62, h => exact absurd h (by omega)
theorem i_MReader (c : Cond) : ∀ w ∈ u_ws R_MReader F_MReader 62, w ∈ c :: gG := fun w h => List.mem_cons_of_mem _ (i0_MReader w h)
theorem il_MReader : ∀ w ∈ u_ws R_MReader F_MReader 62, w ∈ lw_tbl := fun w h => gG_l (i0_MReader w h)
theorem fs_MReader : ∀ j, j < 62 → defaultValue (t_MReader j) = vp_V [.int 0, .null, .int 0, .null, .null, .null, .int 0, .null, .int 0, .null, .null, .null, .null, .null, .null, .null, .null, .null, .int 0, .null, .null, .null, .int 0, .int 0, .int 0, .int 0, .int 0, .int 0, .int 0, .int 0, .long 0, .int 0, .int 0, .null, .int 0, .null, .int 0, .null, .null, .int 0, .null, .null, .null, .int 0, .null, .null, .null, .int 0, .int 0, .int 0, .null, .int 0, .null, .null, .int 0, .int 0, .int 0, .int 0, .null, .int 0, .int 0, .null] j := by
  intro j hj
  match j, hj with
  | 0, _ => rfl
  | 1, _ => rfl
  | 2, _ => rfl
  | 3, _ => rfl
  | 4, _ => rfl
  | 5, _ => rfl
  | 6, _ => rfl
  | 7, _ => rfl
  | 8, _ => rfl
  | 9, _ => rfl
  | 10, _ => rfl
  | 11, _ => rfl
  | 12, _ => rfl
  | 13, _ => rfl
  | 14, _ => rfl
  | 15, _ => rfl
  | 16, _ => rfl
  | 17, _ => rfl
  | 18, _ => rfl
  | 19, _ => rfl
  | 20, _ => rfl
  | 21, _ => rfl
  | 22, _ => rfl
  | 23, _ => rfl
  | 24, _ => rfl
  | 25, _ => rfl
  | 26, _ => rfl
  | 27, _ => rfl
  | 28, _ => rfl
  | 29, _ => rfl
  | 30, _ => rfl
  | 31, _ => rfl
  | 32, _ => rfl
  | 33, _ => rfl
  | 34, _ => rfl
  | 35, _ => rfl
  | 36, _ => rfl
  | 37, _ => rfl
  | 38, _ => rfl
  | 39, _ => rfl
  | 40, _ => rfl
  | 41, _ => rfl
  | 42, _ => rfl
  | 43, _ => rfl
  | 44, _ => rfl
  | 45, _ => rfl
  | 46, _ => rfl
  | 47, _ => rfl
  | 48, _ => rfl
  | 49, _ => rfl
  | 50, _ => rfl
  | 51, _ => rfl
  | 52, _ => rfl
  | 53, _ => rfl
  | 54, _ => rfl
  | 55, _ => rfl
  | 56, _ => rfl
  | 57, _ => rfl
  | 58, _ => rfl
  | 59, _ => rfl
  | 60, _ => rfl
  | 61, _ => rfl
  | j + 62, h => exact absurd h (by omega)
abbrev R_MSession : String := "SessionServerModel$Session"
def F_MSession : u_T := fun k => match k with
  | 0 => ("SessionServerModel$Session", "open", "Z", false)
  | 1 => ("SessionServerModel$Session", "explicit", "Z", false)
  | 2 => ("SessionServerModel$Session", "failed", "Z", false)
  | 3 => ("SessionServerModel$Session", "mode", "I", false)
  | 4 => ("SessionServerModel$Session", "command", "I", false)
  | 5 => ("SessionServerModel$Session", "snapshot", "I", false)
  | 6 => ("SessionServerModel$Session", "serial", "I", false)
  | 7 => ("SessionServerModel$Session", "top", "I", false)
  | 8 => ("SessionServerModel$Session", "numbers", "[I", true)
  | 9 => ("SessionServerModel$Session", "names", "[B", true)
  | 10 => ("SessionServerModel$Session", "sizes", "[I", true)
  | 11 => ("SessionServerModel$Session", "prepared", "I", false)
  | 12 => ("SessionServerModel$Session", "preparedNames", "[B", true)
  | 13 => ("SessionServerModel$Session", "preparedSizes", "[I", true)
  | 14 => ("SessionServerModel$Session", "preparedTexts", "[J", true)
  | 15 => ("SessionServerModel$Session", "preparedLengths", "[I", true)
  | 16 => ("SessionServerModel$Session", "preparedTypes", "[I", true)
  | 17 => ("SessionServerModel$Session", "preparedHighest", "[I", true)
  | 18 => ("SessionServerModel$Session", "text", "[B", true)
  | 19 => ("SessionServerModel$Session", "length", "I", false)
  | 20 => ("SessionServerModel$Session", "reader", "LSessionServerModel$Reader;", true)
  | 21 => ("SessionServerModel$Session", "given", "LSessionServerModel$Cells;", true)
  | 22 => ("SessionServerModel$Session", "first", "I", false)
  | 23 => ("SessionServerModel$Session", "locks", "I", false)
  | 24 => ("SessionServerModel$Session", "lockPlace", "[I", true)
  | 25 => ("SessionServerModel$Session", "lockId", "[I", true)
  | 26 => ("SessionServerModel$Session", "lockMode", "[I", true)
  | 27 => ("SessionServerModel$Session", "lockAt", "I", false)
  | 28 => ("SessionServerModel$Session", "phase", "I", false)
  | 29 => ("SessionServerModel$Session", "many", "I", false)
  | 30 => ("SessionServerModel$Session", "at", "I", false)
  | 31 => ("SessionServerModel$Session", "done", "I", false)
  | 32 => ("SessionServerModel$Session", "target", "[I", true)
  | 33 => ("SessionServerModel$Session", "rows", "LSessionServerModel$Cells;", true)
  | 34 => ("SessionServerModel$Session", "wait", "I", false)
  | 35 => ("SessionServerModel$Session", "waitMode", "I", false)
  | 36 => ("SessionServerModel$Session", "waitPlace", "I", false)
  | 37 => ("SessionServerModel$Session", "waitLevel", "I", false)
  | 38 => ("SessionServerModel$Session", "dropped", "Z", false)
  | 39 => ("SessionServerModel$Session", "waitNumber", "I", false)
  | 40 => ("SessionServerModel$Session", "since", "I", false)
  | 41 => ("SessionServerModel$Session", "answer", "[B", true)
  | 42 => ("SessionServerModel$Session", "size", "I", false)
  | _ => ("SessionServerModel$Session", "taken", "I", false)
def t_MSession : Nat → FieldType := fun k => match k with
  | 0 => .boolean
  | 1 => .boolean
  | 2 => .boolean
  | 3 => .int
  | 4 => .int
  | 5 => .int
  | 6 => .int
  | 7 => .int
  | 8 => .array .int
  | 9 => .array .byte
  | 10 => .array .int
  | 11 => .int
  | 12 => .array .byte
  | 13 => .array .int
  | 14 => .array .long
  | 15 => .array .int
  | 16 => .array .int
  | 17 => .array .int
  | 18 => .array .byte
  | 19 => .int
  | 20 => .object "SessionServerModel$Reader"
  | 21 => .object "SessionServerModel$Cells"
  | 22 => .int
  | 23 => .int
  | 24 => .array .int
  | 25 => .array .int
  | 26 => .array .int
  | 27 => .int
  | 28 => .int
  | 29 => .int
  | 30 => .int
  | 31 => .int
  | 32 => .array .int
  | 33 => .object "SessionServerModel$Cells"
  | 34 => .int
  | 35 => .int
  | 36 => .int
  | 37 => .int
  | 38 => .boolean
  | 39 => .int
  | 40 => .int
  | 41 => .array .byte
  | 42 => .int
  | _ => .int
theorem n_MSession : ∀ a, a < 44 → ∀ b, b < 44 → a ≠ b → (F_MSession a).2.1 ≠ (F_MSession b).2.1 := by decide +kernel
theorem t_MSession_ok : ∀ k, k < 44 → parseFieldDescriptor (F_MSession k).2.2.1 = some (t_MSession k) := by decide +kernel
theorem i0_MSession : ∀ w ∈ u_ws R_MSession F_MSession 44, w ∈ gG := by
  intro w hw
  obtain ⟨k, hk, rfl⟩ := List.mem_map.mp hw
  have hk := List.mem_range.mp hk
  match k, hk with
  | 0, _ => exact q_2539
  | 1, _ => exact q_2541
  | 2, _ => exact q_2543
  | 3, _ => exact q_2545
  | 4, _ => exact q_2547
  | 5, _ => exact q_2549
  | 6, _ => exact q_2551
  | 7, _ => exact q_2553
  | 8, _ => exact q_2555
  | 9, _ => exact q_2557
  | 10, _ => exact q_2559
  | 11, _ => exact q_2561
  | 12, _ => exact q_2563
  | 13, _ => exact q_2565
  | 14, _ => exact q_2567
  | 15, _ => exact q_2569
  | 16, _ => exact q_2571
  | 17, _ => exact q_2573
  | 18, _ => exact q_2575
  | 19, _ => exact q_2577
  | 20, _ => exact q_2579
  | 21, _ => exact q_2581
  | 22, _ => exact q_2583
  | 23, _ => exact q_2585
  | 24, _ => exact q_2587
  | 25, _ => exact q_2589
  | 26, _ => exact q_2591
  | 27, _ => exact q_2593
  | 28, _ => exact q_2595
  | 29, _ => exact q_2597
  | 30, _ => exact q_2599
  | 31, _ => exact q_2601
  | 32, _ => exact q_2603
  | 33, _ => exact q_2605
  | 34, _ => exact q_2607
  | 35, _ => exact q_2609
  | 36, _ => exact q_2611
  | 37, _ => exact q_2613
  | 38, _ => exact q_2615
  | 39, _ => exact q_2617
  | 40, _ => exact q_2619
  | 41, _ => exact q_2621
  | 42, _ => exact q_2623
  | 43, _ => exact q_2625
  | k + 44, h => exact absurd h (by omega)
theorem i_MSession (c : Cond) : ∀ w ∈ u_ws R_MSession F_MSession 44, w ∈ c :: gG := fun w h => List.mem_cons_of_mem _ (i0_MSession w h)
theorem il_MSession : ∀ w ∈ u_ws R_MSession F_MSession 44, w ∈ lw_tbl := fun w h => gG_l (i0_MSession w h)
theorem fs_MSession : ∀ j, j < 44 → defaultValue (t_MSession j) = vp_V [.int 0, .int 0, .int 0, .int 0, .int 0, .int 0, .int 0, .int 0, .null, .null, .null, .int 0, .null, .null, .null, .null, .null, .null, .null, .int 0, .null, .null, .int 0, .int 0, .null, .null, .null, .int 0, .int 0, .int 0, .int 0, .int 0, .null, .null, .int 0, .int 0, .int 0, .int 0, .int 0, .int 0, .int 0, .null, .int 0, .int 0] j := by
  intro j hj
  match j, hj with
  | 0, _ => rfl
  | 1, _ => rfl
  | 2, _ => rfl
  | 3, _ => rfl
  | 4, _ => rfl
  | 5, _ => rfl
  | 6, _ => rfl
  | 7, _ => rfl
  | 8, _ => rfl
  | 9, _ => rfl
  | 10, _ => rfl
  | 11, _ => rfl
  | 12, _ => rfl
  | 13, _ => rfl
  | 14, _ => rfl
  | 15, _ => rfl
  | 16, _ => rfl
  | 17, _ => rfl
  | 18, _ => rfl
  | 19, _ => rfl
  | 20, _ => rfl
  | 21, _ => rfl
  | 22, _ => rfl
  | 23, _ => rfl
  | 24, _ => rfl
  | 25, _ => rfl
  | 26, _ => rfl
  | 27, _ => rfl
  | 28, _ => rfl
  | 29, _ => rfl
  | 30, _ => rfl
  | 31, _ => rfl
  | 32, _ => rfl
  | 33, _ => rfl
  | 34, _ => rfl
  | 35, _ => rfl
  | 36, _ => rfl
  | 37, _ => rfl
  | 38, _ => rfl
  | 39, _ => rfl
  | 40, _ => rfl
  | 41, _ => rfl
  | 42, _ => rfl
  | 43, _ => rfl
  | j + 44, h => exact absurd h (by omega)
abbrev R_Model : String := "SessionServerModel"
def F_Model : u_T := fun k => match k with
  | 0 => ("SessionServerModel", "up", "Z", false)
  | 1 => ("SessionServerModel", "charge", "I", false)
  | 2 => ("SessionServerModel", "tape", "[B", true)
  | 3 => ("SessionServerModel", "taped", "I", false)
  | 4 => ("SessionServerModel", "catalog", "LSessionServerModel$Catalog;", true)
  | 5 => ("SessionServerModel", "sessions", "[LSessionServerModel$Session;", true)
  | 6 => ("SessionServerModel", "serials", "LSessionServerModel$Serial;", true)
  | 7 => ("SessionServerModel", "count", "I", false)
  | 8 => ("SessionServerModel", "made", "I", false)
  | 9 => ("SessionServerModel", "number", "[I", true)
  | 10 => ("SessionServerModel", "table", "[I", true)
  | 11 => ("SessionServerModel", "maker", "[I", true)
  | 12 => ("SessionServerModel", "makerCommand", "[I", true)
  | 13 => ("SessionServerModel", "ender", "[I", true)
  | 14 => ("SessionServerModel", "enderCommand", "[I", true)
  | 15 => ("SessionServerModel", "behind", "[I", true)
  | 16 => ("SessionServerModel", "cells", "LSessionServerModel$Cells;", true)
  | 17 => ("SessionServerModel", "work", "LSessionServerModel$Work;", true)
  | 18 => ("SessionServerModel", "given", "I", false)
  | 19 => ("SessionServerModel", "commits", "I", false)
  | 20 => ("SessionServerModel", "state", "[I", true)
  | 21 => ("SessionServerModel", "belongs", "[I", true)
  | 22 => ("SessionServerModel", "place", "[I", true)
  | 23 => ("SessionServerModel", "serialOf", "[I", true)
  | 24 => ("SessionServerModel", "sureMade", "I", false)
  | 25 => ("SessionServerModel", "sureGiven", "I", false)
  | 26 => ("SessionServerModel", "sureCommits", "I", false)
  | 27 => ("SessionServerModel", "held", "[I", true)
  | 28 => ("SessionServerModel", "locked", "I", false)
  | 29 => ("SessionServerModel", "lockRow", "[I", true)
  | 30 => ("SessionServerModel", "lockBy", "[I", true)
  | 31 => ("SessionServerModel", "lockHow", "[I", true)
  | 32 => ("SessionServerModel", "clock", "I", false)
  | 33 => ("SessionServerModel", "span", "LSessionServerModel$Span;", true)
  | 34 => ("SessionServerModel", "spans", "[LSessionServerModel$Span;", true)
  | 35 => ("SessionServerModel", "lists", "[[I", true)
  | 36 => ("SessionServerModel", "counts", "[I", true)
  | 37 => ("SessionServerModel", "fresh", "LSessionServerModel$Cells;", true)
  | 38 => ("SessionServerModel", "conditions", "I", false)
  | 39 => ("SessionServerModel", "conditionOf", "[I", true)
  | 40 => ("SessionServerModel", "joined", "[Z", true)
  | _ => ("SessionServerModel", "kept", "LSessionServerModel$Cells;", true)
def t_Model : Nat → FieldType := fun k => match k with
  | 0 => .boolean
  | 1 => .int
  | 2 => .array .byte
  | 3 => .int
  | 4 => .object "SessionServerModel$Catalog"
  | 5 => .array (.object "SessionServerModel$Session")
  | 6 => .object "SessionServerModel$Serial"
  | 7 => .int
  | 8 => .int
  | 9 => .array .int
  | 10 => .array .int
  | 11 => .array .int
  | 12 => .array .int
  | 13 => .array .int
  | 14 => .array .int
  | 15 => .array .int
  | 16 => .object "SessionServerModel$Cells"
  | 17 => .object "SessionServerModel$Work"
  | 18 => .int
  | 19 => .int
  | 20 => .array .int
  | 21 => .array .int
  | 22 => .array .int
  | 23 => .array .int
  | 24 => .int
  | 25 => .int
  | 26 => .int
  | 27 => .array .int
  | 28 => .int
  | 29 => .array .int
  | 30 => .array .int
  | 31 => .array .int
  | 32 => .int
  | 33 => .object "SessionServerModel$Span"
  | 34 => .array (.object "SessionServerModel$Span")
  | 35 => .array (.array .int)
  | 36 => .array .int
  | 37 => .object "SessionServerModel$Cells"
  | 38 => .int
  | 39 => .array .int
  | 40 => .array .boolean
  | _ => .object "SessionServerModel$Cells"
theorem n_Model : ∀ a, a < 42 → ∀ b, b < 42 → a ≠ b → (F_Model a).2.1 ≠ (F_Model b).2.1 := by decide +kernel
theorem t_Model_ok : ∀ k, k < 42 → parseFieldDescriptor (F_Model k).2.2.1 = some (t_Model k) := by decide +kernel
theorem i0_Model : ∀ w ∈ u_ws R_Model F_Model 42, w ∈ gG := by
  intro w hw
  obtain ⟨k, hk, rfl⟩ := List.mem_map.mp hw
  have hk := List.mem_range.mp hk
  match k, hk with
  | 0, _ => exact q_2670
  | 1, _ => exact q_2672
  | 2, _ => exact q_2674
  | 3, _ => exact q_2676
  | 4, _ => exact q_2678
  | 5, _ => exact q_2680
  | 6, _ => exact q_2682
  | 7, _ => exact q_2684
  | 8, _ => exact q_2686
  | 9, _ => exact q_2688
  | 10, _ => exact q_2690
  | 11, _ => exact q_2692
  | 12, _ => exact q_2694
  | 13, _ => exact q_2696
  | 14, _ => exact q_2698
  | 15, _ => exact q_2700
  | 16, _ => exact q_2702
  | 17, _ => exact q_2704
  | 18, _ => exact q_2706
  | 19, _ => exact q_2708
  | 20, _ => exact q_2710
  | 21, _ => exact q_2712
  | 22, _ => exact q_2714
  | 23, _ => exact q_2716
  | 24, _ => exact q_2718
  | 25, _ => exact q_2720
  | 26, _ => exact q_2722
  | 27, _ => exact q_2724
  | 28, _ => exact q_2726
  | 29, _ => exact q_2728
  | 30, _ => exact q_2730
  | 31, _ => exact q_2732
  | 32, _ => exact q_2734
  | 33, _ => exact q_2736
  | 34, _ => exact q_2738
  | 35, _ => exact q_2740
  | 36, _ => exact q_2742
  | 37, _ => exact q_2744
  | 38, _ => exact q_2746
  | 39, _ => exact q_2748
  | 40, _ => exact q_2750
  | 41, _ => exact q_2752
  | k + 42, h => exact absurd h (by omega)
theorem i_Model (c : Cond) : ∀ w ∈ u_ws R_Model F_Model 42, w ∈ c :: gG := fun w h => List.mem_cons_of_mem _ (i0_Model w h)
theorem il_Model : ∀ w ∈ u_ws R_Model F_Model 42, w ∈ lw_tbl := fun w h => gG_l (i0_Model w h)
theorem fs_Model : ∀ j, j < 42 → defaultValue (t_Model j) = vp_V [.int 0, .int 0, .null, .int 0, .null, .null, .null, .int 0, .int 0, .null, .null, .null, .null, .null, .null, .null, .null, .null, .int 0, .int 0, .null, .null, .null, .null, .int 0, .int 0, .int 0, .null, .int 0, .null, .null, .null, .int 0, .null, .null, .null, .null, .null, .int 0, .null, .null, .null] j := by
  intro j hj
  match j, hj with
  | 0, _ => rfl
  | 1, _ => rfl
  | 2, _ => rfl
  | 3, _ => rfl
  | 4, _ => rfl
  | 5, _ => rfl
  | 6, _ => rfl
  | 7, _ => rfl
  | 8, _ => rfl
  | 9, _ => rfl
  | 10, _ => rfl
  | 11, _ => rfl
  | 12, _ => rfl
  | 13, _ => rfl
  | 14, _ => rfl
  | 15, _ => rfl
  | 16, _ => rfl
  | 17, _ => rfl
  | 18, _ => rfl
  | 19, _ => rfl
  | 20, _ => rfl
  | 21, _ => rfl
  | 22, _ => rfl
  | 23, _ => rfl
  | 24, _ => rfl
  | 25, _ => rfl
  | 26, _ => rfl
  | 27, _ => rfl
  | 28, _ => rfl
  | 29, _ => rfl
  | 30, _ => rfl
  | 31, _ => rfl
  | 32, _ => rfl
  | 33, _ => rfl
  | 34, _ => rfl
  | 35, _ => rfl
  | 36, _ => rfl
  | 37, _ => rfl
  | 38, _ => rfl
  | 39, _ => rfl
  | 40, _ => rfl
  | 41, _ => rfl
  | j + 42, h => exact absurd h (by omega)
abbrev classes : List vw_C := [(R_STable, F_STable, 8), (R_SStore, F_SStore, 17), (R_SLedger, F_SLedger, 12), (R_SSerial, F_SSerial, 14), (R_SMachine, F_SMachine, 6), (R_SFinder, F_SFinder, 20), (R_SParser, F_SParser, 14), (R_SChecker, F_SChecker, 8), (R_SCode, F_SCode, 18), (R_SStatement, F_SStatement, 20), (R_SWork, F_SWork, 14), (R_SSession, F_SSession, 18), (R_Server, F_Server, 12), (R_MCatalog, F_MCatalog, 13), (R_MCells, F_MCells, 4), (R_MSpan, F_MSpan, 8), (R_MSerial, F_MSerial, 16), (R_MWork, F_MWork, 15), (R_MReader, F_MReader, 62), (R_MSession, F_MSession, 44), (R_Model, F_Model, 42)]
