/-! Own rows: arrays of arrays (anewarray of an array class, aastore and aaload there), and multianewarray of two dimensions, forgetful. -/
/-- of an array class over arrays: its component is the class of that name -/
def ax_C (U : State) (cA : ClassId) (t : FieldType) : Prop := ∃ (kA : Class) (comp : ClassId), U.vm.classes[cA]? = some kA ∧ kA.kind = .array comp (.array t) ∧ U.vm.findClass (FieldType.array t).toString = some comp
theorem ax_self (vm : Vm) (c : ClassId) : vm.assignable c c = true := by
  show vm.assignableAux (255 + 1) c c = true
  rw [Vm.assignableAux]
  simp
/-- the word 'arrayOver' of an array type, moved -/
def ax_O (t : FieldType) (U : State) : Prop := (Cond.arrayOver (.array t)).before #[] U = true
theorem ax_O.moved {t : FieldType} {u U : State} (hvm : u.vm.Alike U.vm) (h : ax_O t u) : ax_O t U := by
  obtain ⟨comp, c, k, h1, h2, h3, h4, h5⟩ := arrayOverA_spec h
  obtain ⟨k', hk', he⟩ := hvm.2.2 _ _ h3
  have hi : (U.vm.classes.findIdx? fun (x : Class) => match x.kind with | .array component _ => component == comp | _ => false) = some c := by
    rw [hvm.findIdx?_eq _ (fun _ => rfl)]
    exact h2
  have hkind : k'.kind = .array comp (.array t) := by rw [he]; exact h4
  have f1 : U.vm.findClass (FieldType.array t).toString = some comp := by rw [hvm.findClass]; exact h1
  have f2 : U.vm.findClass ("[" ++ (FieldType.array t).toString) = some c := by rw [hvm.findClass]; exact h5
  unfold ax_O Cond.before Cond.holds
  simp only [Cond.value]
  rw [f1, Option.bind_some]
  refine (congrArg (fun o : Option Nat => (o.bind (fun c => (U.vm.classes[c]?).map fun (k : Class) => match k.kind with | .array _ ty => decide (ty = FieldType.array t) && decide (U.vm.findClass ("[" ++ (FieldType.array t).toString) = some c) | _ => false) == some true)) hi).trans ?_
  simp [hk', hkind, f2]
section AXA
variable {p : Program} {l : Launch} {e : Env} {R : Room} {s : State} {m : MethodId} {args : Array Value} {below : List Frame} {meth : Method} {c : Code} {H : Heap} {locs : List Loc} {cells slots : Nat} {Q : State → Prop}
variable {cc : ByteArray} {pc : Nat} {ls : Array Slot} {rest : List Value} {D : va_G} {cl : List vw_C} {A : Nat → Prop} {a : Nat} {tys : List (ClassId × FieldType)} {ws : va_W} {H0 : Heap}
theorem ax_newq (hexec : p.tables.exec = Jvm.exec) (hb : c.code = cc) {own C : String} {index : Nat} {t : FieldType} (hC : (FieldType.array t).toString = C) (hown : s.vm.findClass own = some m.cls) (hclink : (Cond.classLink own index C).before args s = true) (hover : ax_O t s) (hK : va_K D cl tys s) (hP : va_P D cl ws H) (hD : va_D A ws) (hS : va_S A H0 H locs) (hA : ∀ q, H0.size ≤ q → A q)
    {n : Int32} {N' : Nat} (hn : ¬ n < 0) (hN : n.toNatClampNeg = N') (hbytes : N' * 4 ≤ 536870912) (hcells : cells + 1 ≤ R.cells) (hslots : slots + N' ≤ R.slots) (hdg : decode cc pc = .ok (.anewarray index, 3))
    (kk : ∀ (q : Nat) (cA : ClassId) (H1 : Heap), ax_C s cA t → va_K D cl (tys ++ [(cA, .array t)]) s → va_P D cl (ws ++ [(q, .inl (cA, N', .inr (.inr (.inr (.inr (fun _ => none))))))]) H1 → va_D A (ws ++ [(q, .inl (cA, N', .inr (.inr (.inr (.inr (fun _ => none))))))]) → va_S A H0 H1 locs →
      W p l e R s m args below meth c H1 locs (cells + 1) (slots + N') Q (F0 m (pc + 3) ls (.ref q :: rest))) : W p l e R s m args below meth c H locs cells slots Q (F0 m pc ls (.int n :: rest)) := by
  subst hN
  subst hC
  refine W.anewA hexec hb hown hclink (show (Cond.arrayOver (.array t)).before args s = true from hover) rfl hdg rfl hn hbytes hcells hslots fun cA kA comp f1 f2 f3 f4 => ?_
  generalize hH1 : H.push ({ cls := cA, slots := Array.replicate n.toNatClampNeg .null, vm := .none } : Cell) = H1
  have z1 : H1.size = H.size + 1 := by rw [← hH1, Array.size_push]
  have e1 : H1[H.size]? = some (arrV cA n.toNatClampNeg (fun _ => .null)) := by rw [← hH1, Array.getElem?_push_size, ← arrV_new]
  have o1 : ∀ q : Nat, q < H.size → H1[q]? = H[q]? := fun q hq => by rw [← hH1, Array.getElem?_push, if_neg (Nat.ne_of_lt hq)]
  have hAr : ArrOfT s cA (.array t) := fun N z => ⟨(fun k h => by cases h), kA, f2, comp, f3⟩
  have hk : ∀ (k : Nat) (x : Nat × va_E), ws[k]? = some x → H1[x.1]? = H[x.1]? := fun k x hx => o1 x.1 ((hP k x hx).lt)
  have hKn : va_K D cl [(cA, .array t)] s := ⟨hK.1, fun k x hx => by
    have hz : k < 1 := (List.getElem?_eq_some_iff.mp hx).1
    rw [show k = 0 by omega] at hx
    cases hx
    exact ⟨hAr, f1⟩⟩
  refine kk H.size cA H1 ⟨kA, comp, f2, f3, f4⟩ (hK.app hKn) ((hP.kept hk).app (fun k x hx => ?_)) (hD.push hP rfl (hA _ hS.1)) ⟨Nat.le_trans hS.1 (by omega), fun x h1 h2 => (o1 x (Nat.lt_of_lt_of_le h1 hS.1)).trans (hS.2.1 x h1 h2), hS.2.2⟩
  have hz : k < 1 := (List.getElem?_eq_some_iff.mp hx).1
  rw [show k = 0 by omega] at hx
  cases hx
  show H1[H.size]? = some (vp_cell _ _)
  rw [vp_cell_q]
  exact e1
theorem ax_aldq (hexec : p.tables.exec = Jvm.exec) (hb : c.code = cc) (hK : va_K D cl tys s) (hP : va_P D cl ws H) (q0 t0 : Nat) {cA : ClassId} {t : FieldType} {n : Nat} {f : Nat → Option Nat} (ha : ws[q0]? = some (a, .inl (cA, n, .inr (.inr (.inr (.inr f)))))) (ht : tys[t0]? = some (cA, .array t)) {i : Int32} (hin : vp_in i n) {v : Nat} (hv : f i.toNatClampNeg = some v) (hdg : decode cc pc = .ok (.aaload, 1))
    (kk : W p l e R s m args below meth c H locs cells slots Q (F0 m (pc + 1) ls (.ref v :: rest))) : W p l e R s m args below meth c H locs cells slots Q (F0 m pc ls (.int i :: .ref a :: rest)) := by
  have hlt : i.toNatClampNeg < n := Nat.not_le.mp fun q => hin (Or.inr q)
  have hvv : va_rf (f i.toNatClampNeg) = .ref v := by rw [hv]; rfl
  exact W.aald (v := .ref v) (ty := .array t) hexec hb (hP q0 _ ha) ((hK.2 t0 _ ht).1 n (fun j => va_rf (f j))) rfl (fun q => by cases q) (by show ¬ (i < 0 ∨ (arrV _ _ _).slots.size ≤ _); rw [arrV_size]; exact hin) (by show (arrV _ _ _).slots[_]? = _; rw [arrV_read _ _ hlt, hvv]) rfl rfl hdg kk
theorem ax_asta (hexec : p.tables.exec = Jvm.exec) (hb : c.code = cc) (hK : va_K D cl tys s) (hP : va_P D cl ws H) (hD : va_D A ws) (hS : va_S A H0 H locs) (q0 qk t1 : Nat) {cA cB : ClassId} {C : String} {n n2 v : Nat} {f g : Nat → Option Nat} (hCA : ax_C s cA (.object C)) (ha : ws[q0]? = some (a, .inl (cA, n, .inr (.inr (.inr (.inr f)))))) (hv : ws[qk]? = some (v, .inl (cB, n2, .inr (.inr (.inr (.inr g)))))) (ht : tys[t1]? = some (cB, .object C)) {i : Int32} (hin : vp_in i n) (hdg : decode cc pc = .ok (.aastore, 1))
    (kk : ∀ (H1 : Heap) (locs1 : List Loc), va_P D cl (ws.set q0 (a, .inl (cA, n, .inr (.inr (.inr (.inr (va_up f i.toNatClampNeg (some v)))))))) H1 → va_D A (ws.set q0 (a, .inl (cA, n, .inr (.inr (.inr (.inr (va_up f i.toNatClampNeg (some v)))))))) → va_S A H0 H1 locs1 → W p l e R s m args below meth c H1 locs1 cells slots Q (F0 m (pc + 1) ls rest)) : W p l e R s m args below meth c H locs cells slots Q (F0 m pc ls (.ref v :: .int i :: .ref a :: rest)) := by
  have hlt : i.toNatClampNeg < n := Nat.not_le.mp fun q => hin (Or.inr q)
  have h0 : ¬ i < 0 := fun q => hin (Or.inl q)
  have hgv : H[v]? = some (vp_cell cB (n2, .inr (.inr (.inr (.inr g))))) := hP qk _ hv
  obtain ⟨kB, cb, b1, b2, b3, b4⟩ := (hK.2 t1 _ ht).2
  obtain ⟨kA, comp, k1, k2, k3⟩ := hCA
  have hcomp : comp = cB := Option.some.inj (k3.symm.trans b4)
  subst hcomp
  rw [vp_cell_q] at hgv
  refine W.aast hexec hb (hP q0 _ ha) (fun q h => by cases h) (fun h => by cases h) k1 k2 rfl b1 ⟨h0, by show _ < (arrV _ _ _).slots.size; rw [arrV_size]; exact hlt⟩ hgv (fun q h => by cases h) b1 (ax_self _ _) rfl rfl hdg fun H1 e z oq => ?_
  refine kk H1 _ (hP.set hD ha ?_ oq) (hD.set ha) (hS.put z oq (hD.2 q0 _ ha))
  show H1[a]? = some (vp_cell _ _)
  rw [e]
  rw [vp_cell_q, vp_cell_q, arrV_store]
  congr 2
  funext q
  by_cases hq : q = i.toNatClampNeg
  · subst hq
    simp [updV, va_up, va_rf]
  · simp [updV, va_up, hq]
end AXA
section AXW
variable {E : CtlPost} {e : Env} {d : Bool} {acts : List Action} {S : State}
/-- a new array, in the manner of weakest preconditions -/
theorem ax_na {cA comp : ClassId} {k : Class} {t : FieldType} {len : Nat} {v : Value} (hk : S.vm.classes[cA]? = some k) (hkind : k.kind = .array comp t) (h1 : ¬ len > e.platform.arrayLengthLimit) (h2 : ¬ len * componentBytes t > e.platform.maxHeapBytes) (hv : fits t v = true)
    (h3 : S.heap.size < e.platform.maxCells) (h4 : S.slotsUsed + len ≤ e.platform.maxSlots) {Q : Addr → Pre} (hq : ∀ acts', Q S.heap.size d acts' (S.pushCell { cls := cA, slots := Array.replicate len v, vm := .none })) : wp (Jvm.newArray cA len v) Q E e d acts S := by
  have hfit : ∀ i x, (Array.replicate len v)[i]? = some x → S.fitsSlot cA .none i x = true := by
    intro i x hx
    simp only [Array.getElem?_replicate] at hx
    split at hx
    · cases hx
      simp [State.fitsSlot, State.slotType?, hk, hkind, hv]
    · cases hx
  simp only [Jvm.newArray, Jvm.arrayFits, wp_bind', W.ask, W.ite, h1, if_false, wp_pure', W.theClass, hk, hkind, h2, W.alloc, W.stop, Option.some.injEq, exists_eq_left', Array.size_replicate]
  rw [if_neg (by omega)]
  exact ⟨h3, h4, hfit, hq _⟩
theorem ax_m1 {cA comp : ClassId} {k : Class} {t : FieldType} {n : Int32} (hk : S.vm.classes[cA]? = some k) (hkind : k.kind = .array comp t) (hn : ¬ n < 0) (h1 : ¬ n.toNatClampNeg > e.platform.arrayLengthLimit) (h2 : ¬ n.toNatClampNeg * componentBytes t > e.platform.maxHeapBytes)
    (h3 : S.heap.size < e.platform.maxCells) (h4 : S.slotsUsed + n.toNatClampNeg ≤ e.platform.maxSlots) {Q : Addr → Pre} (hq : ∀ acts', Q S.heap.size d acts' (S.pushCell { cls := cA, slots := Array.replicate n.toNatClampNeg (defaultValue t), vm := .none })) : wp (multianewarray.make cA [n]) Q E e d acts S := by
  rw [multianewarray.make]
  simp only [wp_bind', W.ite, hn, if_false, wp_pure', W.theClass, hk, hkind, Option.some.injEq, exists_eq_left']
  exact ax_na hk hkind h1 h2 (fits_default t) h3 h4 hq
end AXW
section AXG
variable {p : Program} {l : Launch} {e : Env} {R : Room} {s : State} {m : MethodId} {args : Array Value} {below : List Frame} {meth : Method} {c : Code} {locs : List Loc} {cells slots : Nat}
/-- what the loop of two dimensions keeps -/
def ax_I (p : Program) (l : Launch) (e : Env) (R : Room) (s : State) (m : MethodId) (args : Array Value) (below : List Frame) (meth : Method) (c : Code) (locs : List Loc) (cells slots : Nat) (T : State) (f : JFrame) (cA : ClassId) (N K : Nat) (rest : List Nat) (S : State) : Prop :=
  ∃ (T' : State) (locs' : List Loc) (i : Nat) (cell : Cell), S = T'.setTop f ∧ Stand p l e R s m args below meth c T' locs' (cells + 1 + i) (slots + N + i * K) ∧ T'.vm = T.vm ∧ T'.heap.size = T.heap.size + 1 + i ∧
    (∀ q, q < T.heap.size → T'.heap[q]? = T.heap[q]?) ∧ T'.heap[T.heap.size]? = some cell ∧ cell.cls = cA ∧ cell.vm = .none ∧ cell.slots.size = N ∧ i + rest.length = N ∧ (∀ x ∈ rest, x < N) ∧ (∀ x ∈ locs', x ∈ locs ∨ x.base = T.heap.size)
theorem ax_m2 {E : CtlPost} {d : Bool} {acts : List Action} {T : State} {f : JFrame} {cA comp cb : ClassId} {kA kc : Class} {t0 t : FieldType} {n k : Int32} (X : Stand p l e R s m args below meth c T locs cells slots)
    (hk : T.vm.classes[cA]? = some kA) (hkind : kA.kind = .array comp t0) (href : t0.isReference = true) (hkc : T.vm.classes[comp]? = some kc) (hkindc : kc.kind = .array cb t) (hn : ¬ n < 0) (hkn : ¬ k < 0)
    (h1 : ¬ n.toNatClampNeg > e.platform.arrayLengthLimit) (h2 : ¬ n.toNatClampNeg * componentBytes t0 > e.platform.maxHeapBytes) (h3 : ¬ k.toNatClampNeg > e.platform.arrayLengthLimit) (h4 : ¬ k.toNatClampNeg * componentBytes t > e.platform.maxHeapBytes)
    (hcells : cells + 1 + n.toNatClampNeg ≤ R.cells) (hslots : slots + n.toNatClampNeg + n.toNatClampNeg * k.toNatClampNeg ≤ R.slots)
    {Q : Addr → Pre} (hq : ∀ (d' : Bool) (acts' : List Action) (T' : State) (locs' : List Loc), Stand p l e R s m args below meth c T' locs' (cells + 1 + n.toNatClampNeg) (slots + n.toNatClampNeg + n.toNatClampNeg * k.toNatClampNeg) → T'.vm = T.vm → T.heap.size ≤ T'.heap.size →
      (∀ q, q < T.heap.size → T'.heap[q]? = T.heap[q]?) → (∀ x ∈ locs', x ∈ locs ∨ x.base = T.heap.size) → Q T.heap.size d' acts' (T'.setTop f)) : wp (multianewarray.make cA [n, k]) Q E e d acts (T.setTop f) := by
  have hnull : ∀ v : Value, (v = .null ∨ ∃ z, v = .ref z) → fits t0 v = true := by
    intro v hv
    rcases hv with rfl | ⟨z, rfl⟩ <;> cases t0 <;> simp [FieldType.isReference] at href <;> rfl
  have hf : ([k] : List Int32).find? (fun x => decide (x < 0)) = none := by simp [hkn]
  obtain ⟨r1, r2⟩ := X.roomAbove (a := 1) (b := n.toNatClampNeg) (by omega) (by omega)
  rw [multianewarray.make]
  simp only [wp_bind', W.ite, hn, if_false, wp_pure', W.theClass, State.vm_setTop, hk, hkind, Option.some.injEq, exists_eq_left']
  refine ax_na (S := T.setTop f) hk hkind h1 h2 (hnull _ (Or.inl rfl)) r1 r2 fun acts' => ?_
  simp only [hf, ite_self, Std.Legacy.Range.forIn_eq_forIn_range', wp_bind', wp_pure']
  refine wp_forIn_inv (ax_I p l e R s m args below meth c locs cells slots T f cA n.toNatClampNeg k.toNatClampNeg) _ _ ?_ ?_ ?_
  · refine ⟨T.pushCell { cls := cA, slots := Array.replicate n.toNatClampNeg .null, vm := .none }, locs, 0, _, rfl, ?_, rfl, by simp, fun q hq => State.heap_pushCell_of_lt _ _ hq, State.heap_pushCell_size _ _, rfl, rfl, by simp, by simp, ?_, fun x hx => Or.inl hx⟩
    · have h := X.pushed { cls := cA, slots := Array.replicate n.toNatClampNeg .null, vm := .none }
      simpa using h
    · intro x hx
      simp at hx
      omega
  · intro x rest S' d' acts' Q' hI hQ'
    obtain ⟨T', locs', i, cell, rfl, X', hvm, hsz, hold, hcell, hcls, hcvm, hcs, hi, hxs, hlc⟩ := hI
    have hlen : i + (rest.length + 1) = n.toNatClampNeg := hi
    have hmul : i * k.toNatClampNeg + k.toNatClampNeg ≤ n.toNatClampNeg * k.toNatClampNeg := by
      have := Nat.mul_le_mul_right k.toNatClampNeg (show i + 1 ≤ n.toNatClampNeg by omega)
      rw [Nat.succ_mul] at this
      exact this
    obtain ⟨q1, q2⟩ := X'.roomAbove (a := 1) (b := k.toNatClampNeg) (by omega) (by omega)
    simp only [wp_bind']
    refine ax_m1 (S := T'.setTop f) (by rw [State.vm_setTop, hvm]; exact hkc) hkindc hkn h3 h4 q1 q2 fun acts'' => ?_
    have hlt : T.heap.size < T'.heap.size := by omega
    have hcell2 : (T'.pushCell { cls := comp, slots := Array.replicate k.toNatClampNeg (defaultValue t), vm := .none }).heap[T.heap.size]? = some cell := by
      rw [State.heap_pushCell_of_lt _ _ hlt]
      exact hcell
    have hx : x < cell.slots.size := by rw [hcs]; exact hxs x List.mem_cons_self
    simp only [W.writeLoc, wp_pure', wp_bind']
    refine ⟨cell, hcell2, (by rw [hcvm]; exact fun h => nomatch h), hx, ?_, ?_⟩
    · have hk' : T'.vm.classes[cA]? = some kA := by rw [hvm]; exact hk
      have hr : fits t0 (.ref (T'.setTop f).heap.size) = true := hnull _ (Or.inr ⟨_, rfl⟩)
      rw [hcls, hcvm]
      simp [State.fitsSlot, State.slotType?, hk', hkind]
      exact hr
    · refine hQ' _ _ _ ?_
      have X2 := (X'.pushed { cls := comp, slots := Array.replicate k.toNatClampNeg (defaultValue t), vm := .none }).stored hcell2 x (.ref T'.heap.size)
      refine ⟨(T'.pushCell { cls := comp, slots := Array.replicate k.toNatClampNeg (defaultValue t), vm := .none }).setCell T.heap.size (cell.setSlot x (.ref T'.heap.size)), locs' ++ [⟨T.heap.size, x⟩], i + 1, cell.setSlot x (.ref T'.heap.size), rfl, ?_, hvm, ?_, ?_, ?_, hcls, hcvm, ?_, ?_, fun y hy => hxs y (List.mem_cons_of_mem _ hy), ?_⟩
      · have e1 : cells + 1 + (i + 1) = cells + 1 + i + 1 := by omega
        have e2 : slots + n.toNatClampNeg + (i + 1) * k.toNatClampNeg = slots + n.toNatClampNeg + i * k.toNatClampNeg + (Array.replicate k.toNatClampNeg (defaultValue t)).size := by rw [Array.size_replicate, Nat.succ_mul]; omega
        rw [e1, e2]
        exact X2
      · simp [State.setCell, hsz]
        omega
      · intro q hq
        rw [State.heap_setCell_other (Nat.ne_of_gt hq), State.heap_pushCell_of_lt _ _ (show q < T'.heap.size by omega)]
        exact hold q hq
      · exact State.heap_setCell_self hcell2
      · simp [Cell.setSlot, hcs]
      · omega
      · intro y hy
        rcases List.mem_append.mp hy with h | h
        · exact hlc y h
        · rw [List.mem_singleton.mp h]
          exact Or.inr rfl
  · intro S' d' acts' hI
    obtain ⟨T', locs', i, cell, rfl, X', hvm, hsz, hold, hcell, hcls, hcvm, hcs, hi, hxs, hlc⟩ := hI
    have hi : i = n.toNatClampNeg := by simpa using hi
    subst hi
    exact hq _ _ T' locs' X' hvm (by omega) hold hlc
/-- an instruction whose end is known only to be: the run is one, so its end may be chosen behind it -/
theorem ax_step {T : State} {g : JFrame} {i : Instr} {len : Nat} {P : State → Prop} (h : At T g.method c below) (hd : decode c.code g.pc = .ok (i, len))
    (hw : wp (p.tables.exec i) (fun _ _ _ S => ∃ (T' : State) (f' : JFrame), S = T'.setTop f' ∧ ∃ t, Steps p.tables e below (T'.setTop { f' with pc := f'.pc + len }) t ∧ P t) (fun _ _ _ => False) e false [] (T.setTop g)) :
    ∃ t, Steps p.tables e below (T.setTop g) t ∧ P t := by
  have hr := (wpRun_iff_run (p.tables.exec i) (fun _ S _ => ∃ (T' : State) (f' : JFrame), S = T'.setTop f' ∧ ∃ t, Steps p.tables e below (T'.setTop { f' with pc := f'.pc + len }) t ∧ P t) (fun _ _ _ => False) e (T.setTop g)).mp hw
  cases h1 : (p.tables.exec i).run e (T.setTop g) with
  | ok a s₁ acts =>
    rw [h1] at hr
    obtain ⟨T', f', rfl, t, a1, b1⟩ := hr
    refine ⟨t, Steps.instr h ?_, b1⟩
    rw [hd]
    refine (wpRun_iff_run _ _ _ _ _).mpr ?_
    rw [h1]
    intro acts'
    rw [afterInstr_ok]
    exact a1
  | ctl x s₁ acts =>
    rw [h1] at hr
    cases x <;> exact hr.elim
end AXG
section AXH
variable {p : Program} {l : Launch} {e : Env} {R : Room} {s : State} {m : MethodId} {args : Array Value} {below : List Frame} {meth : Method} {c : Code} {H : Heap} {locs : List Loc} {cells slots : Nat} {Q : State → Prop}
variable {cc : ByteArray} {pc : Nat} {ls : Array Slot} {rest : List Value} {D : va_G} {cl : List vw_C} {A : Nat → Prop} {ws : va_W} {H0 : Heap}
theorem ax_cold {E : CtlPost} {d : Bool} {acts : List Action} {T : State} {f : JFrame} {Qq : Unit → Pre} {index k cA : Nat} {vm' : Vm} (hs : T.topJava?.isSome) (hg : (Jvm.resolveClass f.method.cls index).Gives e.toSetting T.vm (.ok cA) vm') (hr : vm'.classReady f.method.cls index cA) (hsz : vm'.classes.size ≤ T.vm.classes.size)
    (h : wp (multianewarray.sem index k) Qq E e d acts ((T.setVm vm').setTop f)) : wp (multianewarray.sem index k) Qq E e d acts (T.setTop f) := by
  simp only [multianewarray.sem, wp_bind'] at h ⊢
  exact (W.resolveClassAt_transfer (s := T.setTop f) (State.method?_setTop f hs) hg hr hsz).mpr h
theorem ax_grid (hexec : p.tables.exec = Jvm.exec) (hb : c.code = cc) {own C : String} {index : Nat} {t : FieldType} (hC : "[" ++ (FieldType.array t).toString = C) (hown : s.vm.findClass own = some m.cls) (hclink : (Cond.classLink own index C).before args s = true) (hover : ax_O t s) (harr : (Cond.arrayClass t).before args s = true) (hP : va_P D cl ws H) (hD : va_D A ws) (hS : va_S A H0 H locs) (hA : ∀ q, H0.size ≤ q → A q)
    {n k : Int32} {N K : Nat} (hn : ¬ n < 0) (hN : n.toNatClampNeg = N) (hk : ¬ k < 0) (hK : k.toNatClampNeg = K) (hbytes : N * 4 ≤ 536870912) (hbytes2 : K * componentBytes t ≤ 536870912) (hK2 : K ≤ 134217728) (hcells : cells + (1 + N) ≤ R.cells) (hslots : slots + (N + N * K) ≤ R.slots) (hdg : decode cc pc = .ok (.multianewarray index 2, 4))
    (kk : ∀ (q : Nat) (H1 : Heap) (locs1 : List Loc), va_P D cl ws H1 → va_D A ws → va_S A H0 H1 locs1 → W p l e R s m args below meth c H1 locs1 (cells + (1 + N)) (slots + (N + N * K)) Q (F0 m (pc + 4) ls (.ref q :: rest))) : W p l e R s m args below meth c H locs cells slots Q (F0 m pc ls (.int k :: .int n :: rest)) := by
  intro T hT X
  subst hT; subst hb; subst hN; subst hK; subst hC
  have hpl : e.platform.magicAccessors = ({} : Platform).magicAccessors := by rw [X.admits.platform]
  obtain ⟨comp, cA, kA, hcomp, hidx, hkA, hkindA, hnameA⟩ := arrayOverA_spec hover
  obtain ⟨cB, kB, cb, g1, g2, g3⟩ := Cond.arrayClass_spec harr
  have hcB : cB = comp := Option.some.inj (g1.symm.trans hcomp)
  subst hcB
  obtain ⟨cc', hfcc, hcl⟩ := Cond.classLink_spec hown hclink e.platform hpl
  have hcc : cc' = cA := Option.some.inj (hfcc.symm.trans hnameA)
  subst hcc
  obtain ⟨hg₁, hwarm₁, hready₁⟩ := State.classEntry (e := e) X.warmed hcl
  have hsz₁ : (T.vm.noted m.cls index (.cls cc')).classes.size ≤ T.vm.classes.size := by no_record
  generalize T.vm.noted m.cls index (.cls cc') = vm₁ at hg₁ hwarm₁ hready₁ hsz₁
  have hal : s.vm.Alike vm₁ := hwarm₁.alike
  obtain ⟨kA₁, hkA₁, heA⟩ := hal.2.2 _ _ hkA
  obtain ⟨kB₁, hkB₁, heB⟩ := hal.2.2 _ _ g2
  have hkindA₁ : kA₁.kind = .array cB (.array t) := by rw [heA]; exact hkindA
  have hkindB₁ : kB₁.kind = .array cb t := by rw [heB]; exact g3
  have X₁ := X.noted hwarm₁
  have l1 : ¬ n.toNatClampNeg > e.platform.arrayLengthLimit := by rw [Launch.admits_arrayLengthLimit X.admits]; omega
  have l2 : ¬ n.toNatClampNeg * componentBytes (.array t) > e.platform.maxHeapBytes := by
    rw [Launch.admits_maxHeapBytes X.admits]; show ¬ n.toNatClampNeg * 4 > 536870912; omega
  have l3 : ¬ k.toNatClampNeg > e.platform.arrayLengthLimit := by rw [Launch.admits_arrayLengthLimit X.admits]; omega
  have l4 : ¬ k.toNatClampNeg * componentBytes t > e.platform.maxHeapBytes := by rw [Launch.admits_maxHeapBytes X.admits]; omega
  refine ax_step (g := F0 m pc ls (.int k :: .int n :: rest)) (c := c) X.here hdg ?_
  rw [hexec]
  show wp (multianewarray.sem index 2) _ _ _ _ _ _
  refine ax_cold X.here.top hg₁ hready₁ hsz₁ ?_
  simp only [multianewarray.sem, wp_bind', W.resolveClassAt_ready (s := (T.setVm vm₁).setTop (F0 m pc ls (.int k :: .int n :: rest))) (State.method?_setTop _ X₁.here.top) hready₁]
  refine (popN_top (args := [.int n, .int k]) (rest := rest) X₁.here.top rfl).mpr ?_
  simp only [List.mapM_cons, List.mapM_nil, wp_bind', wp_pure', pure_bind, bind_pure_comp, wp_map]
  refine ax_m2 (f := F0 m pc ls rest) X₁ hkA₁ hkindA₁ rfl hkB₁ hkindB₁ hn hk l1 l2 l3 l4 (by omega) (by omega) fun d' acts' T' locs' X' hvm hle hold hlc => ?_
  refine ⟨F0 m pc ls rest, State.topJava?_setTop' _ X'.here.top, T', F0 m pc ls (.ref T.heap.size :: rest), (by rw [State.setTop_setTop]; rfl), ?_⟩
  have hk2 : ∀ (j : Nat) (x : Nat × va_E), ws[j]? = some x → T'.heap[x.1]? = T.heap[x.1]? := fun j x hx => hold x.1 ((hP j x hx).lt)
  have X2 : Stand p l e R s m args below meth c T' locs' (cells + (1 + n.toNatClampNeg)) (slots + (n.toNatClampNeg + n.toNatClampNeg * k.toNatClampNeg)) := by
    rw [← Nat.add_assoc, ← Nat.add_assoc]
    exact X'
  exact kk T.heap.size T'.heap locs' (hP.kept hk2) hD ⟨Nat.le_trans hS.1 hle, fun q h1 h2 => (hold q (Nat.lt_of_lt_of_le h1 hS.1)).trans (hS.2.1 q h1 h2), fun x hx => by
    rcases hlc x hx with h | h
    · exact hS.2.2 x h
    · rw [h]
      exact hA _ hS.1⟩ T' rfl X2
end AXH
