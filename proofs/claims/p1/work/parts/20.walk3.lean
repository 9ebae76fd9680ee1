-- the reference
set_option maxHeartbeats 4000000 in
set_option maxRecDepth 100000 in
theorem c_MCells_init_2 (l : Launch) (dC : Nat → ClassId) (dI : Nat → Nat → Nat) (sz : Nat) (h0 : Nat) : Met l y_MCells_init w_MCells_init ({ frames := 1, cells := 4, slots := 14, locals := 12 }) (va_Pc [.ref h0, .int 2] (fun U => U.heap.size = sz ∧ va_P (dC, dI) classes [(h0, .inr (14, [.null, .null, .null, .null]))] U.heap ∧ va_K (dC, dI) classes [] U ∧ va_D (fun _ => True) [(h0, .inr (14, [.null, .null, .null, .null]))] ∧ bx_N U)) (va_Qv (fun _ : Unit => True) (fun (_ : Unit) t => va_P (dC, dI) classes [] t.heap ∧ va_K (dC, dI) classes [] t ∧ va_D (va_A [(h0, .inr (14, [.null, .null, .null, .null]))] sz) []) (va_A [(h0, .inr (14, [.null, .null, .null, .null]))] sz)) 4 14 (va_A [(h0, .inr (14, [.null, .null, .null, .null]))] sz) := by
  refine Met.ofW (cc := b_MCells_init) (maxL := 2) (ret := none) (by decide) rfl ?_
  intro p e s m args below meth c s₁ B hml hv
  obtain ⟨rfl, hsz, hP, hK, hD0, hN⟩ := hv
  have hx := B.exec
  have hb := B.bytes
  have hr := B.returns
  have hts := atoms_spec (ws := w_MCells_init) B.pre
  have hown : s.vm.findClass R_MCells = some m.cls := findClass_of_methodNamed B.named
  have hlocks := B.notSynchronized
  have hin : meth.name = "<init>" := (name_of_methodNamed B.named B.method).1
  subst hsz
  have hD := hD0.self (sz := s.heap.size)
  generalize hAe : va_A [(h0, .inr (14, [.null, .null, .null, .null]))] s.heap.size = A at hD ⊢
  have hA : ∀ q : Nat, s.heap.size ≤ q → A q := fun q h => by rw [← hAe]; exact Or.inr h
  have hS : va_S A s.heap s.heap [] := va_S.rf
  have hP : va_P (dC, dI) classes [(h0, .inr (14, [.null, .null, .null, .null]))] s.heap := hP
  have hl := lv_entry ([.ref h0, .int 2]) (n := 2) (Nat.le_of_ble_eq_true rfl)
  rw [lg_entry_eq]
  generalize (lg_sl ([.ref h0, .int 2]) ++ List.replicate (2 - (lg_sl ([.ref h0, .int 2])).length) Slot.unset).toArray = ls at hl ⊢
  have hl : lv_has ls 2 [(0, .ref h0), (1, .int 2)] := hl
  obtain ⟨H, hH⟩ : ∃ H : Heap, s.heap = H := ⟨_, rfl⟩
  have hP : va_P (dC, dI) classes [(h0, .inr (14, [.null, .null, .null, .null]))] H := by rw [← hH]; exact hP
  have hS : va_S A s.heap H [] := by rw [← hH]; exact va_S.rf
  refine bx_heap hH ?_
  refine lv_aload_n hx hb d_MCells_init_0 rfl (lv_at hl 0 rfl) ?_
  refine W.objInit hx hb hown (hts _ (List.mem_cons_of_mem _ q_2055)) (hts _ (List.mem_cons_of_mem _ q_35)) (hts _ (List.mem_cons_of_mem _ q_36)) rfl (by rw [hml]; exact hl.1) rfl d_MCells_init_1 (Nat.le_of_ble_eq_true rfl) (Nat.le_of_ble_eq_true rfl) ?_
  refine W.eq (g2 := F0 m 4 ls []) rfl ?_
  refine lv_aload_n hx hb d_MCells_init_4 rfl (lv_at hl 0 rfl) ?_
  refine lv_iload_n hx hb d_MCells_init_5 rfl (lv_at hl 1 rfl) ?_
  refine va_newa (atype := .byte) (ty := .byte) (a0 := (2, .inl (fun _ => 0))) (n := 2) (N' := 2) hx hb (hts _ (List.mem_cons_of_mem _ q_94)) rfl hK hP hD hS hA (fun _ => rfl) (by decide) (by decide) (by decide) (Nat.le_of_ble_eq_true rfl) (Nat.le_of_ble_eq_true rfl) d_MCells_init_6 (fun q1 cA2 H hK hP hD hS => ?_)
  have hP : va_P (dC, dI) classes [(h0, .inr (14, [.null, .null, .null, .null])), (q1, .inl (cA2, 2, .inl (fun _ => 0)))] H := hP
  have hD : va_D A [(h0, .inr (14, [.null, .null, .null, .null])), (q1, .inl (cA2, 2, .inl (fun _ => 0)))] := hD
  have hK : va_K (dC, dI) classes [(cA2, .byte)] s := hK
  refine W.widen (k := 1) (n := 2) (Nat.le_of_ble_eq_true rfl) (Nat.le_of_ble_eq_true rfl) ?_
  refine va_putF (D := (dC, dI)) (ci := 14) (v := .ref q1) (ty := (.array .byte)) (C := R_MCells) (T := F_MCells) (N := 4) hx hb hts (i_MCells _) t_MCells t_MCells_ok n_MCells hown hK hP hD hS 0 rfl rfl 0 (by decide) (hts _ (List.mem_cons_of_mem _ q_2056)) (fun _ h9 => h9) rfl hin rfl (by decide +kernel) rfl rfl (Nat.le_of_ble_eq_true rfl) d_MCells_init_8 (fun H locs hP hD hS => ?_)
  have hP : va_P (dC, dI) classes [(h0, .inr (14, [.ref q1, .null, .null, .null])), (q1, .inl (cA2, 2, .inl (fun _ => 0)))] H := hP
  have hD : va_D A [(h0, .inr (14, [.ref q1, .null, .null, .null])), (q1, .inl (cA2, 2, .inl (fun _ => 0)))] := hD
  have hP := hP.sub (ws' := [(h0, .inr (14, [.ref q1, .null, .null, .null]))]) [0] rfl
  have hD := hD.sub (ws' := [(h0, .inr (14, [.ref q1, .null, .null, .null]))]) [0] (by decide) rfl
  have hK := hK.sub (tys' := []) [] rfl
  refine lv_aload_n hx hb d_MCells_init_11 rfl (lv_at hl 0 rfl) ?_
  refine lv_iload_n hx hb d_MCells_init_12 rfl (lv_at hl 1 rfl) ?_
  refine va_newa (atype := .long) (ty := .long) (a0 := (2, .inr (.inl (fun _ => 0)))) (n := 2) (N' := 2) hx hb (hts _ (List.mem_cons_of_mem _ q_97)) rfl hK hP hD hS hA (fun _ => rfl) (by decide) (by decide) (by decide) (Nat.le_of_ble_eq_true rfl) (Nat.le_of_ble_eq_true rfl) d_MCells_init_13 (fun q3 cA4 H hK hP hD hS => ?_)
  have hP : va_P (dC, dI) classes [(h0, .inr (14, [.ref q1, .null, .null, .null])), (q3, .inl (cA4, 2, .inr (.inl (fun _ => 0))))] H := hP
  have hD : va_D A [(h0, .inr (14, [.ref q1, .null, .null, .null])), (q3, .inl (cA4, 2, .inr (.inl (fun _ => 0))))] := hD
  have hK : va_K (dC, dI) classes [(cA4, .long)] s := hK
  refine W.widen (k := 2) (n := 4) (Nat.le_of_ble_eq_true rfl) (Nat.le_of_ble_eq_true rfl) ?_
  refine va_putF (D := (dC, dI)) (ci := 14) (v := .ref q3) (ty := (.array .long)) (C := R_MCells) (T := F_MCells) (N := 4) hx hb hts (i_MCells _) t_MCells t_MCells_ok n_MCells hown hK hP hD hS 0 rfl rfl 1 (by decide) (hts _ (List.mem_cons_of_mem _ q_2059)) (fun _ h9 => h9) rfl hin rfl (by decide +kernel) rfl rfl (Nat.le_of_ble_eq_true rfl) d_MCells_init_15 (fun H locs hP hD hS => ?_)
  have hP : va_P (dC, dI) classes [(h0, .inr (14, [.ref q1, .ref q3, .null, .null])), (q3, .inl (cA4, 2, .inr (.inl (fun _ => 0))))] H := hP
  have hD : va_D A [(h0, .inr (14, [.ref q1, .ref q3, .null, .null])), (q3, .inl (cA4, 2, .inr (.inl (fun _ => 0))))] := hD
  have hP := hP.sub (ws' := [(h0, .inr (14, [.ref q1, .ref q3, .null, .null]))]) [0] rfl
  have hD := hD.sub (ws' := [(h0, .inr (14, [.ref q1, .ref q3, .null, .null]))]) [0] (by decide) rfl
  have hK := hK.sub (tys' := []) [] rfl
  refine lv_aload_n hx hb d_MCells_init_18 rfl (lv_at hl 0 rfl) ?_
  refine lv_iload_n hx hb d_MCells_init_19 rfl (lv_at hl 1 rfl) ?_
  refine va_newa (atype := .byte) (ty := .byte) (a0 := (2, .inl (fun _ => 0))) (n := 2) (N' := 2) hx hb (hts _ (List.mem_cons_of_mem _ q_94)) rfl hK hP hD hS hA (fun _ => rfl) (by decide) (by decide) (by decide) (Nat.le_of_ble_eq_true rfl) (Nat.le_of_ble_eq_true rfl) d_MCells_init_20 (fun q5 cA6 H hK hP hD hS => ?_)
  have hP : va_P (dC, dI) classes [(h0, .inr (14, [.ref q1, .ref q3, .null, .null])), (q5, .inl (cA6, 2, .inl (fun _ => 0)))] H := hP
  have hD : va_D A [(h0, .inr (14, [.ref q1, .ref q3, .null, .null])), (q5, .inl (cA6, 2, .inl (fun _ => 0)))] := hD
  have hK : va_K (dC, dI) classes [(cA6, .byte)] s := hK
  refine W.widen (k := 3) (n := 6) (Nat.le_of_ble_eq_true rfl) (Nat.le_of_ble_eq_true rfl) ?_
  refine va_putF (D := (dC, dI)) (ci := 14) (v := .ref q5) (ty := (.array .byte)) (C := R_MCells) (T := F_MCells) (N := 4) hx hb hts (i_MCells _) t_MCells t_MCells_ok n_MCells hown hK hP hD hS 0 rfl rfl 2 (by decide) (hts _ (List.mem_cons_of_mem _ q_2062)) (fun _ h9 => h9) rfl hin rfl (by decide +kernel) rfl rfl (Nat.le_of_ble_eq_true rfl) d_MCells_init_22 (fun H locs hP hD hS => ?_)
  have hP : va_P (dC, dI) classes [(h0, .inr (14, [.ref q1, .ref q3, .ref q5, .null])), (q5, .inl (cA6, 2, .inl (fun _ => 0)))] H := hP
  have hD : va_D A [(h0, .inr (14, [.ref q1, .ref q3, .ref q5, .null])), (q5, .inl (cA6, 2, .inl (fun _ => 0)))] := hD
  have hP := hP.sub (ws' := [(h0, .inr (14, [.ref q1, .ref q3, .ref q5, .null]))]) [0] rfl
  have hD := hD.sub (ws' := [(h0, .inr (14, [.ref q1, .ref q3, .ref q5, .null]))]) [0] (by decide) rfl
  have hK := hK.sub (tys' := []) [] rfl
  refine lv_aload_n hx hb d_MCells_init_25 rfl (lv_at hl 0 rfl) ?_
  refine lv_iconst (v := 4) hx hb d_MCells_init_26 (by decide) ?_
  refine lv_iload_n hx hb d_MCells_init_27 rfl (lv_at hl 1 rfl) ?_
  refine lv_imul hx hb d_MCells_init_28 ?_
  refine bx_top (y := 8) (by decide) ?_
  refine va_newa (atype := .long) (ty := .long) (a0 := (8, .inr (.inl (fun _ => 0)))) (n := 8) (N' := 8) hx hb (hts _ (List.mem_cons_of_mem _ q_97)) rfl hK hP hD hS hA (fun _ => rfl) (by decide) (by decide) (by decide) (Nat.le_of_ble_eq_true rfl) (Nat.le_of_ble_eq_true rfl) d_MCells_init_29 (fun q7 cA8 H hK hP hD hS => ?_)
  have hP : va_P (dC, dI) classes [(h0, .inr (14, [.ref q1, .ref q3, .ref q5, .null])), (q7, .inl (cA8, 8, .inr (.inl (fun _ => 0))))] H := hP
  have hD : va_D A [(h0, .inr (14, [.ref q1, .ref q3, .ref q5, .null])), (q7, .inl (cA8, 8, .inr (.inl (fun _ => 0))))] := hD
  have hK : va_K (dC, dI) classes [(cA8, .long)] s := hK
  refine W.widen (k := 4) (n := 14) (Nat.le_of_ble_eq_true rfl) (Nat.le_of_ble_eq_true rfl) ?_
  refine va_putF (D := (dC, dI)) (ci := 14) (v := .ref q7) (ty := (.array .long)) (C := R_MCells) (T := F_MCells) (N := 4) hx hb hts (i_MCells _) t_MCells t_MCells_ok n_MCells hown hK hP hD hS 0 rfl rfl 3 (by decide) (hts _ (List.mem_cons_of_mem _ q_2065)) (fun _ h9 => h9) rfl hin rfl (by decide +kernel) rfl rfl (Nat.le_of_ble_eq_true rfl) d_MCells_init_31 (fun H locs hP hD hS => ?_)
  have hP : va_P (dC, dI) classes [(h0, .inr (14, [.ref q1, .ref q3, .ref q5, .ref q7])), (q7, .inl (cA8, 8, .inr (.inl (fun _ => 0))))] H := hP
  have hD : va_D A [(h0, .inr (14, [.ref q1, .ref q3, .ref q5, .ref q7])), (q7, .inl (cA8, 8, .inr (.inl (fun _ => 0))))] := hD
  have hP := hP.sub (ws' := [(h0, .inr (14, [.ref q1, .ref q3, .ref q5, .ref q7]))]) [0] rfl
  have hD := hD.sub (ws' := [(h0, .inr (14, [.ref q1, .ref q3, .ref q5, .ref q7]))]) [0] (by decide) rfl
  have hK := hK.sub (tys' := []) [] rfl
  have hP9 := hP.sub (ws' := []) [] rfl
  have hD9 := hD.sub (ws' := []) [] (by decide) rfl
  have hK9 := hK.sub (tys' := []) [] rfl
  refine W.widen (k := 4) (n := 14) (Nat.le_of_ble_eq_true rfl) (Nat.le_of_ble_eq_true rfl) ?_
  exact W.vret hx hb hr (fun t ht hW => ⟨⟨(), rfl, trivial, by rw [ht]; exact hP9, va_K.moved hW.alike hK9, hD9⟩, hS.F ht⟩) hS.2.2 d_MCells_init_34
set_option maxHeartbeats 4000000 in
set_option maxRecDepth 100000 in
theorem c_MCells_init_8 (l : Launch) (dC : Nat → ClassId) (dI : Nat → Nat → Nat) (sz : Nat) (h0 : Nat) : Met l y_MCells_init w_MCells_init ({ frames := 1, cells := 4, slots := 56, locals := 12 }) (va_Pc [.ref h0, .int 8] (fun U => U.heap.size = sz ∧ va_P (dC, dI) classes [(h0, .inr (14, [.null, .null, .null, .null]))] U.heap ∧ va_K (dC, dI) classes [] U ∧ va_D (fun _ => True) [(h0, .inr (14, [.null, .null, .null, .null]))] ∧ bx_N U)) (va_Qv (fun _ : Unit => True) (fun (_ : Unit) t => va_P (dC, dI) classes [] t.heap ∧ va_K (dC, dI) classes [] t ∧ va_D (va_A [(h0, .inr (14, [.null, .null, .null, .null]))] sz) []) (va_A [(h0, .inr (14, [.null, .null, .null, .null]))] sz)) 4 56 (va_A [(h0, .inr (14, [.null, .null, .null, .null]))] sz) := by
  refine Met.ofW (cc := b_MCells_init) (maxL := 2) (ret := none) (by decide) rfl ?_
  intro p e s m args below meth c s₁ B hml hv
  obtain ⟨rfl, hsz, hP, hK, hD0, hN⟩ := hv
  have hx := B.exec
  have hb := B.bytes
  have hr := B.returns
  have hts := atoms_spec (ws := w_MCells_init) B.pre
  have hown : s.vm.findClass R_MCells = some m.cls := findClass_of_methodNamed B.named
  have hlocks := B.notSynchronized
  have hin : meth.name = "<init>" := (name_of_methodNamed B.named B.method).1
  subst hsz
  have hD := hD0.self (sz := s.heap.size)
  generalize hAe : va_A [(h0, .inr (14, [.null, .null, .null, .null]))] s.heap.size = A at hD ⊢
  have hA : ∀ q : Nat, s.heap.size ≤ q → A q := fun q h => by rw [← hAe]; exact Or.inr h
  have hS : va_S A s.heap s.heap [] := va_S.rf
  have hP : va_P (dC, dI) classes [(h0, .inr (14, [.null, .null, .null, .null]))] s.heap := hP
  have hl := lv_entry ([.ref h0, .int 8]) (n := 2) (Nat.le_of_ble_eq_true rfl)
  rw [lg_entry_eq]
  generalize (lg_sl ([.ref h0, .int 8]) ++ List.replicate (2 - (lg_sl ([.ref h0, .int 8])).length) Slot.unset).toArray = ls at hl ⊢
  have hl : lv_has ls 2 [(0, .ref h0), (1, .int 8)] := hl
  obtain ⟨H, hH⟩ : ∃ H : Heap, s.heap = H := ⟨_, rfl⟩
  have hP : va_P (dC, dI) classes [(h0, .inr (14, [.null, .null, .null, .null]))] H := by rw [← hH]; exact hP
  have hS : va_S A s.heap H [] := by rw [← hH]; exact va_S.rf
  refine bx_heap hH ?_
  refine lv_aload_n hx hb d_MCells_init_0 rfl (lv_at hl 0 rfl) ?_
  refine W.objInit hx hb hown (hts _ (List.mem_cons_of_mem _ q_2055)) (hts _ (List.mem_cons_of_mem _ q_35)) (hts _ (List.mem_cons_of_mem _ q_36)) rfl (by rw [hml]; exact hl.1) rfl d_MCells_init_1 (Nat.le_of_ble_eq_true rfl) (Nat.le_of_ble_eq_true rfl) ?_
  refine W.eq (g2 := F0 m 4 ls []) rfl ?_
  refine lv_aload_n hx hb d_MCells_init_4 rfl (lv_at hl 0 rfl) ?_
  refine lv_iload_n hx hb d_MCells_init_5 rfl (lv_at hl 1 rfl) ?_
  refine va_newa (atype := .byte) (ty := .byte) (a0 := (8, .inl (fun _ => 0))) (n := 8) (N' := 8) hx hb (hts _ (List.mem_cons_of_mem _ q_94)) rfl hK hP hD hS hA (fun _ => rfl) (by decide) (by decide) (by decide) (Nat.le_of_ble_eq_true rfl) (Nat.le_of_ble_eq_true rfl) d_MCells_init_6 (fun q1 cA2 H hK hP hD hS => ?_)
  have hP : va_P (dC, dI) classes [(h0, .inr (14, [.null, .null, .null, .null])), (q1, .inl (cA2, 8, .inl (fun _ => 0)))] H := hP
  have hD : va_D A [(h0, .inr (14, [.null, .null, .null, .null])), (q1, .inl (cA2, 8, .inl (fun _ => 0)))] := hD
  have hK : va_K (dC, dI) classes [(cA2, .byte)] s := hK
  refine W.widen (k := 1) (n := 8) (Nat.le_of_ble_eq_true rfl) (Nat.le_of_ble_eq_true rfl) ?_
  refine va_putF (D := (dC, dI)) (ci := 14) (v := .ref q1) (ty := (.array .byte)) (C := R_MCells) (T := F_MCells) (N := 4) hx hb hts (i_MCells _) t_MCells t_MCells_ok n_MCells hown hK hP hD hS 0 rfl rfl 0 (by decide) (hts _ (List.mem_cons_of_mem _ q_2056)) (fun _ h9 => h9) rfl hin rfl (by decide +kernel) rfl rfl (Nat.le_of_ble_eq_true rfl) d_MCells_init_8 (fun H locs hP hD hS => ?_)
  have hP : va_P (dC, dI) classes [(h0, .inr (14, [.ref q1, .null, .null, .null])), (q1, .inl (cA2, 8, .inl (fun _ => 0)))] H := hP
  have hD : va_D A [(h0, .inr (14, [.ref q1, .null, .null, .null])), (q1, .inl (cA2, 8, .inl (fun _ => 0)))] := hD
  have hP := hP.sub (ws' := [(h0, .inr (14, [.ref q1, .null, .null, .null]))]) [0] rfl
  have hD := hD.sub (ws' := [(h0, .inr (14, [.ref q1, .null, .null, .null]))]) [0] (by decide) rfl
  have hK := hK.sub (tys' := []) [] rfl
  refine lv_aload_n hx hb d_MCells_init_11 rfl (lv_at hl 0 rfl) ?_
  refine lv_iload_n hx hb d_MCells_init_12 rfl (lv_at hl 1 rfl) ?_
  refine va_newa (atype := .long) (ty := .long) (a0 := (8, .inr (.inl (fun _ => 0)))) (n := 8) (N' := 8) hx hb (hts _ (List.mem_cons_of_mem _ q_97)) rfl hK hP hD hS hA (fun _ => rfl) (by decide) (by decide) (by decide) (Nat.le_of_ble_eq_true rfl) (Nat.le_of_ble_eq_true rfl) d_MCells_init_13 (fun q3 cA4 H hK hP hD hS => ?_)
  have hP : va_P (dC, dI) classes [(h0, .inr (14, [.ref q1, .null, .null, .null])), (q3, .inl (cA4, 8, .inr (.inl (fun _ => 0))))] H := hP
  have hD : va_D A [(h0, .inr (14, [.ref q1, .null, .null, .null])), (q3, .inl (cA4, 8, .inr (.inl (fun _ => 0))))] := hD
  have hK : va_K (dC, dI) classes [(cA4, .long)] s := hK
  refine W.widen (k := 2) (n := 16) (Nat.le_of_ble_eq_true rfl) (Nat.le_of_ble_eq_true rfl) ?_
  refine va_putF (D := (dC, dI)) (ci := 14) (v := .ref q3) (ty := (.array .long)) (C := R_MCells) (T := F_MCells) (N := 4) hx hb hts (i_MCells _) t_MCells t_MCells_ok n_MCells hown hK hP hD hS 0 rfl rfl 1 (by decide) (hts _ (List.mem_cons_of_mem _ q_2059)) (fun _ h9 => h9) rfl hin rfl (by decide +kernel) rfl rfl (Nat.le_of_ble_eq_true rfl) d_MCells_init_15 (fun H locs hP hD hS => ?_)
  have hP : va_P (dC, dI) classes [(h0, .inr (14, [.ref q1, .ref q3, .null, .null])), (q3, .inl (cA4, 8, .inr (.inl (fun _ => 0))))] H := hP
  have hD : va_D A [(h0, .inr (14, [.ref q1, .ref q3, .null, .null])), (q3, .inl (cA4, 8, .inr (.inl (fun _ => 0))))] := hD
  have hP := hP.sub (ws' := [(h0, .inr (14, [.ref q1, .ref q3, .null, .null]))]) [0] rfl
  have hD := hD.sub (ws' := [(h0, .inr (14, [.ref q1, .ref q3, .null, .null]))]) [0] (by decide) rfl
  have hK := hK.sub (tys' := []) [] rfl
  refine lv_aload_n hx hb d_MCells_init_18 rfl (lv_at hl 0 rfl) ?_
  refine lv_iload_n hx hb d_MCells_init_19 rfl (lv_at hl 1 rfl) ?_
  refine va_newa (atype := .byte) (ty := .byte) (a0 := (8, .inl (fun _ => 0))) (n := 8) (N' := 8) hx hb (hts _ (List.mem_cons_of_mem _ q_94)) rfl hK hP hD hS hA (fun _ => rfl) (by decide) (by decide) (by decide) (Nat.le_of_ble_eq_true rfl) (Nat.le_of_ble_eq_true rfl) d_MCells_init_20 (fun q5 cA6 H hK hP hD hS => ?_)
  have hP : va_P (dC, dI) classes [(h0, .inr (14, [.ref q1, .ref q3, .null, .null])), (q5, .inl (cA6, 8, .inl (fun _ => 0)))] H := hP
  have hD : va_D A [(h0, .inr (14, [.ref q1, .ref q3, .null, .null])), (q5, .inl (cA6, 8, .inl (fun _ => 0)))] := hD
  have hK : va_K (dC, dI) classes [(cA6, .byte)] s := hK
  refine W.widen (k := 3) (n := 24) (Nat.le_of_ble_eq_true rfl) (Nat.le_of_ble_eq_true rfl) ?_
  refine va_putF (D := (dC, dI)) (ci := 14) (v := .ref q5) (ty := (.array .byte)) (C := R_MCells) (T := F_MCells) (N := 4) hx hb hts (i_MCells _) t_MCells t_MCells_ok n_MCells hown hK hP hD hS 0 rfl rfl 2 (by decide) (hts _ (List.mem_cons_of_mem _ q_2062)) (fun _ h9 => h9) rfl hin rfl (by decide +kernel) rfl rfl (Nat.le_of_ble_eq_true rfl) d_MCells_init_22 (fun H locs hP hD hS => ?_)
  have hP : va_P (dC, dI) classes [(h0, .inr (14, [.ref q1, .ref q3, .ref q5, .null])), (q5, .inl (cA6, 8, .inl (fun _ => 0)))] H := hP
  have hD : va_D A [(h0, .inr (14, [.ref q1, .ref q3, .ref q5, .null])), (q5, .inl (cA6, 8, .inl (fun _ => 0)))] := hD
  have hP := hP.sub (ws' := [(h0, .inr (14, [.ref q1, .ref q3, .ref q5, .null]))]) [0] rfl
  have hD := hD.sub (ws' := [(h0, .inr (14, [.ref q1, .ref q3, .ref q5, .null]))]) [0] (by decide) rfl
  have hK := hK.sub (tys' := []) [] rfl
  refine lv_aload_n hx hb d_MCells_init_25 rfl (lv_at hl 0 rfl) ?_
  refine lv_iconst (v := 4) hx hb d_MCells_init_26 (by decide) ?_
  refine lv_iload_n hx hb d_MCells_init_27 rfl (lv_at hl 1 rfl) ?_
  refine lv_imul hx hb d_MCells_init_28 ?_
  refine bx_top (y := 32) (by decide) ?_
  refine va_newa (atype := .long) (ty := .long) (a0 := (32, .inr (.inl (fun _ => 0)))) (n := 32) (N' := 32) hx hb (hts _ (List.mem_cons_of_mem _ q_97)) rfl hK hP hD hS hA (fun _ => rfl) (by decide) (by decide) (by decide) (Nat.le_of_ble_eq_true rfl) (Nat.le_of_ble_eq_true rfl) d_MCells_init_29 (fun q7 cA8 H hK hP hD hS => ?_)
  have hP : va_P (dC, dI) classes [(h0, .inr (14, [.ref q1, .ref q3, .ref q5, .null])), (q7, .inl (cA8, 32, .inr (.inl (fun _ => 0))))] H := hP
  have hD : va_D A [(h0, .inr (14, [.ref q1, .ref q3, .ref q5, .null])), (q7, .inl (cA8, 32, .inr (.inl (fun _ => 0))))] := hD
  have hK : va_K (dC, dI) classes [(cA8, .long)] s := hK
  refine W.widen (k := 4) (n := 56) (Nat.le_of_ble_eq_true rfl) (Nat.le_of_ble_eq_true rfl) ?_
  refine va_putF (D := (dC, dI)) (ci := 14) (v := .ref q7) (ty := (.array .long)) (C := R_MCells) (T := F_MCells) (N := 4) hx hb hts (i_MCells _) t_MCells t_MCells_ok n_MCells hown hK hP hD hS 0 rfl rfl 3 (by decide) (hts _ (List.mem_cons_of_mem _ q_2065)) (fun _ h9 => h9) rfl hin rfl (by decide +kernel) rfl rfl (Nat.le_of_ble_eq_true rfl) d_MCells_init_31 (fun H locs hP hD hS => ?_)
  have hP : va_P (dC, dI) classes [(h0, .inr (14, [.ref q1, .ref q3, .ref q5, .ref q7])), (q7, .inl (cA8, 32, .inr (.inl (fun _ => 0))))] H := hP
  have hD : va_D A [(h0, .inr (14, [.ref q1, .ref q3, .ref q5, .ref q7])), (q7, .inl (cA8, 32, .inr (.inl (fun _ => 0))))] := hD
  have hP := hP.sub (ws' := [(h0, .inr (14, [.ref q1, .ref q3, .ref q5, .ref q7]))]) [0] rfl
  have hD := hD.sub (ws' := [(h0, .inr (14, [.ref q1, .ref q3, .ref q5, .ref q7]))]) [0] (by decide) rfl
  have hK := hK.sub (tys' := []) [] rfl
  have hP9 := hP.sub (ws' := []) [] rfl
  have hD9 := hD.sub (ws' := []) [] (by decide) rfl
  have hK9 := hK.sub (tys' := []) [] rfl
  refine W.widen (k := 4) (n := 56) (Nat.le_of_ble_eq_true rfl) (Nat.le_of_ble_eq_true rfl) ?_
  exact W.vret hx hb hr (fun t ht hW => ⟨⟨(), rfl, trivial, by rw [ht]; exact hP9, va_K.moved hW.alike hK9, hD9⟩, hS.F ht⟩) hS.2.2 d_MCells_init_34
set_option maxHeartbeats 4000000 in
set_option maxRecDepth 100000 in
theorem c_MCells_init_10 (l : Launch) (dC : Nat → ClassId) (dI : Nat → Nat → Nat) (sz : Nat) (h0 : Nat) : Met l y_MCells_init w_MCells_init ({ frames := 1, cells := 4, slots := 70, locals := 12 }) (va_Pc [.ref h0, .int 10] (fun U => U.heap.size = sz ∧ va_P (dC, dI) classes [(h0, .inr (14, [.null, .null, .null, .null]))] U.heap ∧ va_K (dC, dI) classes [] U ∧ va_D (fun _ => True) [(h0, .inr (14, [.null, .null, .null, .null]))] ∧ bx_N U)) (va_Qv (fun _ : Unit => True) (fun (_ : Unit) t => va_P (dC, dI) classes [] t.heap ∧ va_K (dC, dI) classes [] t ∧ va_D (va_A [(h0, .inr (14, [.null, .null, .null, .null]))] sz) []) (va_A [(h0, .inr (14, [.null, .null, .null, .null]))] sz)) 4 70 (va_A [(h0, .inr (14, [.null, .null, .null, .null]))] sz) := by
  refine Met.ofW (cc := b_MCells_init) (maxL := 2) (ret := none) (by decide) rfl ?_
  intro p e s m args below meth c s₁ B hml hv
  obtain ⟨rfl, hsz, hP, hK, hD0, hN⟩ := hv
  have hx := B.exec
  have hb := B.bytes
  have hr := B.returns
  have hts := atoms_spec (ws := w_MCells_init) B.pre
  have hown : s.vm.findClass R_MCells = some m.cls := findClass_of_methodNamed B.named
  have hlocks := B.notSynchronized
  have hin : meth.name = "<init>" := (name_of_methodNamed B.named B.method).1
  subst hsz
  have hD := hD0.self (sz := s.heap.size)
  generalize hAe : va_A [(h0, .inr (14, [.null, .null, .null, .null]))] s.heap.size = A at hD ⊢
  have hA : ∀ q : Nat, s.heap.size ≤ q → A q := fun q h => by rw [← hAe]; exact Or.inr h
  have hS : va_S A s.heap s.heap [] := va_S.rf
  have hP : va_P (dC, dI) classes [(h0, .inr (14, [.null, .null, .null, .null]))] s.heap := hP
  have hl := lv_entry ([.ref h0, .int 10]) (n := 2) (Nat.le_of_ble_eq_true rfl)
  rw [lg_entry_eq]
  generalize (lg_sl ([.ref h0, .int 10]) ++ List.replicate (2 - (lg_sl ([.ref h0, .int 10])).length) Slot.unset).toArray = ls at hl ⊢
  have hl : lv_has ls 2 [(0, .ref h0), (1, .int 10)] := hl
  obtain ⟨H, hH⟩ : ∃ H : Heap, s.heap = H := ⟨_, rfl⟩
  have hP : va_P (dC, dI) classes [(h0, .inr (14, [.null, .null, .null, .null]))] H := by rw [← hH]; exact hP
  have hS : va_S A s.heap H [] := by rw [← hH]; exact va_S.rf
  refine bx_heap hH ?_
  refine lv_aload_n hx hb d_MCells_init_0 rfl (lv_at hl 0 rfl) ?_
  refine W.objInit hx hb hown (hts _ (List.mem_cons_of_mem _ q_2055)) (hts _ (List.mem_cons_of_mem _ q_35)) (hts _ (List.mem_cons_of_mem _ q_36)) rfl (by rw [hml]; exact hl.1) rfl d_MCells_init_1 (Nat.le_of_ble_eq_true rfl) (Nat.le_of_ble_eq_true rfl) ?_
  refine W.eq (g2 := F0 m 4 ls []) rfl ?_
  refine lv_aload_n hx hb d_MCells_init_4 rfl (lv_at hl 0 rfl) ?_
  refine lv_iload_n hx hb d_MCells_init_5 rfl (lv_at hl 1 rfl) ?_
  refine va_newa (atype := .byte) (ty := .byte) (a0 := (10, .inl (fun _ => 0))) (n := 10) (N' := 10) hx hb (hts _ (List.mem_cons_of_mem _ q_94)) rfl hK hP hD hS hA (fun _ => rfl) (by decide) (by decide) (by decide) (Nat.le_of_ble_eq_true rfl) (Nat.le_of_ble_eq_true rfl) d_MCells_init_6 (fun q1 cA2 H hK hP hD hS => ?_)
  have hP : va_P (dC, dI) classes [(h0, .inr (14, [.null, .null, .null, .null])), (q1, .inl (cA2, 10, .inl (fun _ => 0)))] H := hP
  have hD : va_D A [(h0, .inr (14, [.null, .null, .null, .null])), (q1, .inl (cA2, 10, .inl (fun _ => 0)))] := hD
  have hK : va_K (dC, dI) classes [(cA2, .byte)] s := hK
  refine W.widen (k := 1) (n := 10) (Nat.le_of_ble_eq_true rfl) (Nat.le_of_ble_eq_true rfl) ?_
  refine va_putF (D := (dC, dI)) (ci := 14) (v := .ref q1) (ty := (.array .byte)) (C := R_MCells) (T := F_MCells) (N := 4) hx hb hts (i_MCells _) t_MCells t_MCells_ok n_MCells hown hK hP hD hS 0 rfl rfl 0 (by decide) (hts _ (List.mem_cons_of_mem _ q_2056)) (fun _ h9 => h9) rfl hin rfl (by decide +kernel) rfl rfl (Nat.le_of_ble_eq_true rfl) d_MCells_init_8 (fun H locs hP hD hS => ?_)
  have hP : va_P (dC, dI) classes [(h0, .inr (14, [.ref q1, .null, .null, .null])), (q1, .inl (cA2, 10, .inl (fun _ => 0)))] H := hP
  have hD : va_D A [(h0, .inr (14, [.ref q1, .null, .null, .null])), (q1, .inl (cA2, 10, .inl (fun _ => 0)))] := hD
  have hP := hP.sub (ws' := [(h0, .inr (14, [.ref q1, .null, .null, .null]))]) [0] rfl
  have hD := hD.sub (ws' := [(h0, .inr (14, [.ref q1, .null, .null, .null]))]) [0] (by decide) rfl
  have hK := hK.sub (tys' := []) [] rfl
  refine lv_aload_n hx hb d_MCells_init_11 rfl (lv_at hl 0 rfl) ?_
  refine lv_iload_n hx hb d_MCells_init_12 rfl (lv_at hl 1 rfl) ?_
  refine va_newa (atype := .long) (ty := .long) (a0 := (10, .inr (.inl (fun _ => 0)))) (n := 10) (N' := 10) hx hb (hts _ (List.mem_cons_of_mem _ q_97)) rfl hK hP hD hS hA (fun _ => rfl) (by decide) (by decide) (by decide) (Nat.le_of_ble_eq_true rfl) (Nat.le_of_ble_eq_true rfl) d_MCells_init_13 (fun q3 cA4 H hK hP hD hS => ?_)
  have hP : va_P (dC, dI) classes [(h0, .inr (14, [.ref q1, .null, .null, .null])), (q3, .inl (cA4, 10, .inr (.inl (fun _ => 0))))] H := hP
  have hD : va_D A [(h0, .inr (14, [.ref q1, .null, .null, .null])), (q3, .inl (cA4, 10, .inr (.inl (fun _ => 0))))] := hD
  have hK : va_K (dC, dI) classes [(cA4, .long)] s := hK
  refine W.widen (k := 2) (n := 20) (Nat.le_of_ble_eq_true rfl) (Nat.le_of_ble_eq_true rfl) ?_
  refine va_putF (D := (dC, dI)) (ci := 14) (v := .ref q3) (ty := (.array .long)) (C := R_MCells) (T := F_MCells) (N := 4) hx hb hts (i_MCells _) t_MCells t_MCells_ok n_MCells hown hK hP hD hS 0 rfl rfl 1 (by decide) (hts _ (List.mem_cons_of_mem _ q_2059)) (fun _ h9 => h9) rfl hin rfl (by decide +kernel) rfl rfl (Nat.le_of_ble_eq_true rfl) d_MCells_init_15 (fun H locs hP hD hS => ?_)
  have hP : va_P (dC, dI) classes [(h0, .inr (14, [.ref q1, .ref q3, .null, .null])), (q3, .inl (cA4, 10, .inr (.inl (fun _ => 0))))] H := hP
  have hD : va_D A [(h0, .inr (14, [.ref q1, .ref q3, .null, .null])), (q3, .inl (cA4, 10, .inr (.inl (fun _ => 0))))] := hD
  have hP := hP.sub (ws' := [(h0, .inr (14, [.ref q1, .ref q3, .null, .null]))]) [0] rfl
  have hD := hD.sub (ws' := [(h0, .inr (14, [.ref q1, .ref q3, .null, .null]))]) [0] (by decide) rfl
  have hK := hK.sub (tys' := []) [] rfl
  refine lv_aload_n hx hb d_MCells_init_18 rfl (lv_at hl 0 rfl) ?_
  refine lv_iload_n hx hb d_MCells_init_19 rfl (lv_at hl 1 rfl) ?_
  refine va_newa (atype := .byte) (ty := .byte) (a0 := (10, .inl (fun _ => 0))) (n := 10) (N' := 10) hx hb (hts _ (List.mem_cons_of_mem _ q_94)) rfl hK hP hD hS hA (fun _ => rfl) (by decide) (by decide) (by decide) (Nat.le_of_ble_eq_true rfl) (Nat.le_of_ble_eq_true rfl) d_MCells_init_20 (fun q5 cA6 H hK hP hD hS => ?_)
  have hP : va_P (dC, dI) classes [(h0, .inr (14, [.ref q1, .ref q3, .null, .null])), (q5, .inl (cA6, 10, .inl (fun _ => 0)))] H := hP
  have hD : va_D A [(h0, .inr (14, [.ref q1, .ref q3, .null, .null])), (q5, .inl (cA6, 10, .inl (fun _ => 0)))] := hD
  have hK : va_K (dC, dI) classes [(cA6, .byte)] s := hK
  refine W.widen (k := 3) (n := 30) (Nat.le_of_ble_eq_true rfl) (Nat.le_of_ble_eq_true rfl) ?_
  refine va_putF (D := (dC, dI)) (ci := 14) (v := .ref q5) (ty := (.array .byte)) (C := R_MCells) (T := F_MCells) (N := 4) hx hb hts (i_MCells _) t_MCells t_MCells_ok n_MCells hown hK hP hD hS 0 rfl rfl 2 (by decide) (hts _ (List.mem_cons_of_mem _ q_2062)) (fun _ h9 => h9) rfl hin rfl (by decide +kernel) rfl rfl (Nat.le_of_ble_eq_true rfl) d_MCells_init_22 (fun H locs hP hD hS => ?_)
  have hP : va_P (dC, dI) classes [(h0, .inr (14, [.ref q1, .ref q3, .ref q5, .null])), (q5, .inl (cA6, 10, .inl (fun _ => 0)))] H := hP
  have hD : va_D A [(h0, .inr (14, [.ref q1, .ref q3, .ref q5, .null])), (q5, .inl (cA6, 10, .inl (fun _ => 0)))] := hD
  have hP := hP.sub (ws' := [(h0, .inr (14, [.ref q1, .ref q3, .ref q5, .null]))]) [0] rfl
  have hD := hD.sub (ws' := [(h0, .inr (14, [.ref q1, .ref q3, .ref q5, .null]))]) [0] (by decide) rfl
  have hK := hK.sub (tys' := []) [] rfl
  refine lv_aload_n hx hb d_MCells_init_25 rfl (lv_at hl 0 rfl) ?_
  refine lv_iconst (v := 4) hx hb d_MCells_init_26 (by decide) ?_
  refine lv_iload_n hx hb d_MCells_init_27 rfl (lv_at hl 1 rfl) ?_
  refine lv_imul hx hb d_MCells_init_28 ?_
  refine bx_top (y := 40) (by decide) ?_
  refine va_newa (atype := .long) (ty := .long) (a0 := (40, .inr (.inl (fun _ => 0)))) (n := 40) (N' := 40) hx hb (hts _ (List.mem_cons_of_mem _ q_97)) rfl hK hP hD hS hA (fun _ => rfl) (by decide) (by decide) (by decide) (Nat.le_of_ble_eq_true rfl) (Nat.le_of_ble_eq_true rfl) d_MCells_init_29 (fun q7 cA8 H hK hP hD hS => ?_)
  have hP : va_P (dC, dI) classes [(h0, .inr (14, [.ref q1, .ref q3, .ref q5, .null])), (q7, .inl (cA8, 40, .inr (.inl (fun _ => 0))))] H := hP
  have hD : va_D A [(h0, .inr (14, [.ref q1, .ref q3, .ref q5, .null])), (q7, .inl (cA8, 40, .inr (.inl (fun _ => 0))))] := hD
  have hK : va_K (dC, dI) classes [(cA8, .long)] s := hK
  refine W.widen (k := 4) (n := 70) (Nat.le_of_ble_eq_true rfl) (Nat.le_of_ble_eq_true rfl) ?_
  refine va_putF (D := (dC, dI)) (ci := 14) (v := .ref q7) (ty := (.array .long)) (C := R_MCells) (T := F_MCells) (N := 4) hx hb hts (i_MCells _) t_MCells t_MCells_ok n_MCells hown hK hP hD hS 0 rfl rfl 3 (by decide) (hts _ (List.mem_cons_of_mem _ q_2065)) (fun _ h9 => h9) rfl hin rfl (by decide +kernel) rfl rfl (Nat.le_of_ble_eq_true rfl) d_MCells_init_31 (fun H locs hP hD hS => ?_)
  have hP : va_P (dC, dI) classes [(h0, .inr (14, [.ref q1, .ref q3, .ref q5, .ref q7])), (q7, .inl (cA8, 40, .inr (.inl (fun _ => 0))))] H := hP
  have hD : va_D A [(h0, .inr (14, [.ref q1, .ref q3, .ref q5, .ref q7])), (q7, .inl (cA8, 40, .inr (.inl (fun _ => 0))))] := hD
  have hP := hP.sub (ws' := [(h0, .inr (14, [.ref q1, .ref q3, .ref q5, .ref q7]))]) [0] rfl
  have hD := hD.sub (ws' := [(h0, .inr (14, [.ref q1, .ref q3, .ref q5, .ref q7]))]) [0] (by decide) rfl
  have hK := hK.sub (tys' := []) [] rfl
  have hP9 := hP.sub (ws' := []) [] rfl
  have hD9 := hD.sub (ws' := []) [] (by decide) rfl
  have hK9 := hK.sub (tys' := []) [] rfl
  refine W.widen (k := 4) (n := 70) (Nat.le_of_ble_eq_true rfl) (Nat.le_of_ble_eq_true rfl) ?_
  exact W.vret hx hb hr (fun t ht hW => ⟨⟨(), rfl, trivial, by rw [ht]; exact hP9, va_K.moved hW.alike hK9, hD9⟩, hS.F ht⟩) hS.2.2 d_MCells_init_34
set_option maxHeartbeats 4000000 in
set_option maxRecDepth 100000 in
theorem c_MCells_init_200 (l : Launch) (dC : Nat → ClassId) (dI : Nat → Nat → Nat) (sz : Nat) (h0 : Nat) : Met l y_MCells_init w_MCells_init ({ frames := 1, cells := 4, slots := 1400, locals := 12 }) (va_Pc [.ref h0, .int 200] (fun U => U.heap.size = sz ∧ va_P (dC, dI) classes [(h0, .inr (14, [.null, .null, .null, .null]))] U.heap ∧ va_K (dC, dI) classes [] U ∧ va_D (fun _ => True) [(h0, .inr (14, [.null, .null, .null, .null]))] ∧ bx_N U)) (va_Qv (fun _ : Unit => True) (fun (_ : Unit) t => va_P (dC, dI) classes [] t.heap ∧ va_K (dC, dI) classes [] t ∧ va_D (va_A [(h0, .inr (14, [.null, .null, .null, .null]))] sz) []) (va_A [(h0, .inr (14, [.null, .null, .null, .null]))] sz)) 4 1400 (va_A [(h0, .inr (14, [.null, .null, .null, .null]))] sz) := by
  refine Met.ofW (cc := b_MCells_init) (maxL := 2) (ret := none) (by decide) rfl ?_
  intro p e s m args below meth c s₁ B hml hv
  obtain ⟨rfl, hsz, hP, hK, hD0, hN⟩ := hv
  have hx := B.exec
  have hb := B.bytes
  have hr := B.returns
  have hts := atoms_spec (ws := w_MCells_init) B.pre
  have hown : s.vm.findClass R_MCells = some m.cls := findClass_of_methodNamed B.named
  have hlocks := B.notSynchronized
  have hin : meth.name = "<init>" := (name_of_methodNamed B.named B.method).1
  subst hsz
  have hD := hD0.self (sz := s.heap.size)
  generalize hAe : va_A [(h0, .inr (14, [.null, .null, .null, .null]))] s.heap.size = A at hD ⊢
  have hA : ∀ q : Nat, s.heap.size ≤ q → A q := fun q h => by rw [← hAe]; exact Or.inr h
  have hS : va_S A s.heap s.heap [] := va_S.rf
  have hP : va_P (dC, dI) classes [(h0, .inr (14, [.null, .null, .null, .null]))] s.heap := hP
  have hl := lv_entry ([.ref h0, .int 200]) (n := 2) (Nat.le_of_ble_eq_true rfl)
  rw [lg_entry_eq]
  generalize (lg_sl ([.ref h0, .int 200]) ++ List.replicate (2 - (lg_sl ([.ref h0, .int 200])).length) Slot.unset).toArray = ls at hl ⊢
  have hl : lv_has ls 2 [(0, .ref h0), (1, .int 200)] := hl
  obtain ⟨H, hH⟩ : ∃ H : Heap, s.heap = H := ⟨_, rfl⟩
  have hP : va_P (dC, dI) classes [(h0, .inr (14, [.null, .null, .null, .null]))] H := by rw [← hH]; exact hP
  have hS : va_S A s.heap H [] := by rw [← hH]; exact va_S.rf
  refine bx_heap hH ?_
  refine lv_aload_n hx hb d_MCells_init_0 rfl (lv_at hl 0 rfl) ?_
  refine W.objInit hx hb hown (hts _ (List.mem_cons_of_mem _ q_2055)) (hts _ (List.mem_cons_of_mem _ q_35)) (hts _ (List.mem_cons_of_mem _ q_36)) rfl (by rw [hml]; exact hl.1) rfl d_MCells_init_1 (Nat.le_of_ble_eq_true rfl) (Nat.le_of_ble_eq_true rfl) ?_
  refine W.eq (g2 := F0 m 4 ls []) rfl ?_
  refine lv_aload_n hx hb d_MCells_init_4 rfl (lv_at hl 0 rfl) ?_
  refine lv_iload_n hx hb d_MCells_init_5 rfl (lv_at hl 1 rfl) ?_
  refine va_newa (atype := .byte) (ty := .byte) (a0 := (200, .inl (fun _ => 0))) (n := 200) (N' := 200) hx hb (hts _ (List.mem_cons_of_mem _ q_94)) rfl hK hP hD hS hA (fun _ => rfl) (by decide) (by decide) (by decide) (Nat.le_of_ble_eq_true rfl) (Nat.le_of_ble_eq_true rfl) d_MCells_init_6 (fun q1 cA2 H hK hP hD hS => ?_)
  have hP : va_P (dC, dI) classes [(h0, .inr (14, [.null, .null, .null, .null])), (q1, .inl (cA2, 200, .inl (fun _ => 0)))] H := hP
  have hD : va_D A [(h0, .inr (14, [.null, .null, .null, .null])), (q1, .inl (cA2, 200, .inl (fun _ => 0)))] := hD
  have hK : va_K (dC, dI) classes [(cA2, .byte)] s := hK
  refine W.widen (k := 1) (n := 200) (Nat.le_of_ble_eq_true rfl) (Nat.le_of_ble_eq_true rfl) ?_
  refine va_putF (D := (dC, dI)) (ci := 14) (v := .ref q1) (ty := (.array .byte)) (C := R_MCells) (T := F_MCells) (N := 4) hx hb hts (i_MCells _) t_MCells t_MCells_ok n_MCells hown hK hP hD hS 0 rfl rfl 0 (by decide) (hts _ (List.mem_cons_of_mem _ q_2056)) (fun _ h9 => h9) rfl hin rfl (by decide +kernel) rfl rfl (Nat.le_of_ble_eq_true rfl) d_MCells_init_8 (fun H locs hP hD hS => ?_)
  have hP : va_P (dC, dI) classes [(h0, .inr (14, [.ref q1, .null, .null, .null])), (q1, .inl (cA2, 200, .inl (fun _ => 0)))] H := hP
  have hD : va_D A [(h0, .inr (14, [.ref q1, .null, .null, .null])), (q1, .inl (cA2, 200, .inl (fun _ => 0)))] := hD
  have hP := hP.sub (ws' := [(h0, .inr (14, [.ref q1, .null, .null, .null]))]) [0] rfl
  have hD := hD.sub (ws' := [(h0, .inr (14, [.ref q1, .null, .null, .null]))]) [0] (by decide) rfl
  have hK := hK.sub (tys' := []) [] rfl
  refine lv_aload_n hx hb d_MCells_init_11 rfl (lv_at hl 0 rfl) ?_
  refine lv_iload_n hx hb d_MCells_init_12 rfl (lv_at hl 1 rfl) ?_
  refine va_newa (atype := .long) (ty := .long) (a0 := (200, .inr (.inl (fun _ => 0)))) (n := 200) (N' := 200) hx hb (hts _ (List.mem_cons_of_mem _ q_97)) rfl hK hP hD hS hA (fun _ => rfl) (by decide) (by decide) (by decide) (Nat.le_of_ble_eq_true rfl) (Nat.le_of_ble_eq_true rfl) d_MCells_init_13 (fun q3 cA4 H hK hP hD hS => ?_)
  have hP : va_P (dC, dI) classes [(h0, .inr (14, [.ref q1, .null, .null, .null])), (q3, .inl (cA4, 200, .inr (.inl (fun _ => 0))))] H := hP
  have hD : va_D A [(h0, .inr (14, [.ref q1, .null, .null, .null])), (q3, .inl (cA4, 200, .inr (.inl (fun _ => 0))))] := hD
  have hK : va_K (dC, dI) classes [(cA4, .long)] s := hK
  refine W.widen (k := 2) (n := 400) (Nat.le_of_ble_eq_true rfl) (Nat.le_of_ble_eq_true rfl) ?_
  refine va_putF (D := (dC, dI)) (ci := 14) (v := .ref q3) (ty := (.array .long)) (C := R_MCells) (T := F_MCells) (N := 4) hx hb hts (i_MCells _) t_MCells t_MCells_ok n_MCells hown hK hP hD hS 0 rfl rfl 1 (by decide) (hts _ (List.mem_cons_of_mem _ q_2059)) (fun _ h9 => h9) rfl hin rfl (by decide +kernel) rfl rfl (Nat.le_of_ble_eq_true rfl) d_MCells_init_15 (fun H locs hP hD hS => ?_)
  have hP : va_P (dC, dI) classes [(h0, .inr (14, [.ref q1, .ref q3, .null, .null])), (q3, .inl (cA4, 200, .inr (.inl (fun _ => 0))))] H := hP
  have hD : va_D A [(h0, .inr (14, [.ref q1, .ref q3, .null, .null])), (q3, .inl (cA4, 200, .inr (.inl (fun _ => 0))))] := hD
  have hP := hP.sub (ws' := [(h0, .inr (14, [.ref q1, .ref q3, .null, .null]))]) [0] rfl
  have hD := hD.sub (ws' := [(h0, .inr (14, [.ref q1, .ref q3, .null, .null]))]) [0] (by decide) rfl
  have hK := hK.sub (tys' := []) [] rfl
  refine lv_aload_n hx hb d_MCells_init_18 rfl (lv_at hl 0 rfl) ?_
  refine lv_iload_n hx hb d_MCells_init_19 rfl (lv_at hl 1 rfl) ?_
  refine va_newa (atype := .byte) (ty := .byte) (a0 := (200, .inl (fun _ => 0))) (n := 200) (N' := 200) hx hb (hts _ (List.mem_cons_of_mem _ q_94)) rfl hK hP hD hS hA (fun _ => rfl) (by decide) (by decide) (by decide) (Nat.le_of_ble_eq_true rfl) (Nat.le_of_ble_eq_true rfl) d_MCells_init_20 (fun q5 cA6 H hK hP hD hS => ?_)
  have hP : va_P (dC, dI) classes [(h0, .inr (14, [.ref q1, .ref q3, .null, .null])), (q5, .inl (cA6, 200, .inl (fun _ => 0)))] H := hP
  have hD : va_D A [(h0, .inr (14, [.ref q1, .ref q3, .null, .null])), (q5, .inl (cA6, 200, .inl (fun _ => 0)))] := hD
  have hK : va_K (dC, dI) classes [(cA6, .byte)] s := hK
  refine W.widen (k := 3) (n := 600) (Nat.le_of_ble_eq_true rfl) (Nat.le_of_ble_eq_true rfl) ?_
  refine va_putF (D := (dC, dI)) (ci := 14) (v := .ref q5) (ty := (.array .byte)) (C := R_MCells) (T := F_MCells) (N := 4) hx hb hts (i_MCells _) t_MCells t_MCells_ok n_MCells hown hK hP hD hS 0 rfl rfl 2 (by decide) (hts _ (List.mem_cons_of_mem _ q_2062)) (fun _ h9 => h9) rfl hin rfl (by decide +kernel) rfl rfl (Nat.le_of_ble_eq_true rfl) d_MCells_init_22 (fun H locs hP hD hS => ?_)
  have hP : va_P (dC, dI) classes [(h0, .inr (14, [.ref q1, .ref q3, .ref q5, .null])), (q5, .inl (cA6, 200, .inl (fun _ => 0)))] H := hP
  have hD : va_D A [(h0, .inr (14, [.ref q1, .ref q3, .ref q5, .null])), (q5, .inl (cA6, 200, .inl (fun _ => 0)))] := hD
  have hP := hP.sub (ws' := [(h0, .inr (14, [.ref q1, .ref q3, .ref q5, .null]))]) [0] rfl
  have hD := hD.sub (ws' := [(h0, .inr (14, [.ref q1, .ref q3, .ref q5, .null]))]) [0] (by decide) rfl
  have hK := hK.sub (tys' := []) [] rfl
  refine lv_aload_n hx hb d_MCells_init_25 rfl (lv_at hl 0 rfl) ?_
  refine lv_iconst (v := 4) hx hb d_MCells_init_26 (by decide) ?_
  refine lv_iload_n hx hb d_MCells_init_27 rfl (lv_at hl 1 rfl) ?_
  refine lv_imul hx hb d_MCells_init_28 ?_
  refine bx_top (y := 800) (by decide) ?_
  refine va_newa (atype := .long) (ty := .long) (a0 := (800, .inr (.inl (fun _ => 0)))) (n := 800) (N' := 800) hx hb (hts _ (List.mem_cons_of_mem _ q_97)) rfl hK hP hD hS hA (fun _ => rfl) (by decide) (by decide) (by decide) (Nat.le_of_ble_eq_true rfl) (Nat.le_of_ble_eq_true rfl) d_MCells_init_29 (fun q7 cA8 H hK hP hD hS => ?_)
  have hP : va_P (dC, dI) classes [(h0, .inr (14, [.ref q1, .ref q3, .ref q5, .null])), (q7, .inl (cA8, 800, .inr (.inl (fun _ => 0))))] H := hP
  have hD : va_D A [(h0, .inr (14, [.ref q1, .ref q3, .ref q5, .null])), (q7, .inl (cA8, 800, .inr (.inl (fun _ => 0))))] := hD
  have hK : va_K (dC, dI) classes [(cA8, .long)] s := hK
  refine W.widen (k := 4) (n := 1400) (Nat.le_of_ble_eq_true rfl) (Nat.le_of_ble_eq_true rfl) ?_
  refine va_putF (D := (dC, dI)) (ci := 14) (v := .ref q7) (ty := (.array .long)) (C := R_MCells) (T := F_MCells) (N := 4) hx hb hts (i_MCells _) t_MCells t_MCells_ok n_MCells hown hK hP hD hS 0 rfl rfl 3 (by decide) (hts _ (List.mem_cons_of_mem _ q_2065)) (fun _ h9 => h9) rfl hin rfl (by decide +kernel) rfl rfl (Nat.le_of_ble_eq_true rfl) d_MCells_init_31 (fun H locs hP hD hS => ?_)
  have hP : va_P (dC, dI) classes [(h0, .inr (14, [.ref q1, .ref q3, .ref q5, .ref q7])), (q7, .inl (cA8, 800, .inr (.inl (fun _ => 0))))] H := hP
  have hD : va_D A [(h0, .inr (14, [.ref q1, .ref q3, .ref q5, .ref q7])), (q7, .inl (cA8, 800, .inr (.inl (fun _ => 0))))] := hD
  have hP := hP.sub (ws' := [(h0, .inr (14, [.ref q1, .ref q3, .ref q5, .ref q7]))]) [0] rfl
  have hD := hD.sub (ws' := [(h0, .inr (14, [.ref q1, .ref q3, .ref q5, .ref q7]))]) [0] (by decide) rfl
  have hK := hK.sub (tys' := []) [] rfl
  have hP9 := hP.sub (ws' := []) [] rfl
  have hD9 := hD.sub (ws' := []) [] (by decide) rfl
  have hK9 := hK.sub (tys' := []) [] rfl
  refine W.widen (k := 4) (n := 1400) (Nat.le_of_ble_eq_true rfl) (Nat.le_of_ble_eq_true rfl) ?_
  exact W.vret hx hb hr (fun t ht hW => ⟨⟨(), rfl, trivial, by rw [ht]; exact hP9, va_K.moved hW.alike hK9, hD9⟩, hS.F ht⟩) hS.2.2 d_MCells_init_34
set_option maxHeartbeats 4000000 in
set_option maxRecDepth 100000 in
theorem c_MCells_init_8000 (l : Launch) (dC : Nat → ClassId) (dI : Nat → Nat → Nat) (sz : Nat) (h0 : Nat) : Met l y_MCells_init w_MCells_init ({ frames := 1, cells := 4, slots := 56000, locals := 12 }) (va_Pc [.ref h0, .int 8000] (fun U => U.heap.size = sz ∧ va_P (dC, dI) classes [(h0, .inr (14, [.null, .null, .null, .null]))] U.heap ∧ va_K (dC, dI) classes [] U ∧ va_D (fun _ => True) [(h0, .inr (14, [.null, .null, .null, .null]))] ∧ bx_N U)) (va_Qv (fun _ : Unit => True) (fun (_ : Unit) t => va_P (dC, dI) classes [] t.heap ∧ va_K (dC, dI) classes [] t ∧ va_D (va_A [(h0, .inr (14, [.null, .null, .null, .null]))] sz) []) (va_A [(h0, .inr (14, [.null, .null, .null, .null]))] sz)) 4 56000 (va_A [(h0, .inr (14, [.null, .null, .null, .null]))] sz) := by
  refine Met.ofW (cc := b_MCells_init) (maxL := 2) (ret := none) (by decide) rfl ?_
  intro p e s m args below meth c s₁ B hml hv
  obtain ⟨rfl, hsz, hP, hK, hD0, hN⟩ := hv
  have hx := B.exec
  have hb := B.bytes
  have hr := B.returns
  have hts := atoms_spec (ws := w_MCells_init) B.pre
  have hown : s.vm.findClass R_MCells = some m.cls := findClass_of_methodNamed B.named
  have hlocks := B.notSynchronized
  have hin : meth.name = "<init>" := (name_of_methodNamed B.named B.method).1
  subst hsz
  have hD := hD0.self (sz := s.heap.size)
  generalize hAe : va_A [(h0, .inr (14, [.null, .null, .null, .null]))] s.heap.size = A at hD ⊢
  have hA : ∀ q : Nat, s.heap.size ≤ q → A q := fun q h => by rw [← hAe]; exact Or.inr h
  have hS : va_S A s.heap s.heap [] := va_S.rf
  have hP : va_P (dC, dI) classes [(h0, .inr (14, [.null, .null, .null, .null]))] s.heap := hP
  have hl := lv_entry ([.ref h0, .int 8000]) (n := 2) (Nat.le_of_ble_eq_true rfl)
  rw [lg_entry_eq]
  generalize (lg_sl ([.ref h0, .int 8000]) ++ List.replicate (2 - (lg_sl ([.ref h0, .int 8000])).length) Slot.unset).toArray = ls at hl ⊢
  have hl : lv_has ls 2 [(0, .ref h0), (1, .int 8000)] := hl
  obtain ⟨H, hH⟩ : ∃ H : Heap, s.heap = H := ⟨_, rfl⟩
  have hP : va_P (dC, dI) classes [(h0, .inr (14, [.null, .null, .null, .null]))] H := by rw [← hH]; exact hP
  have hS : va_S A s.heap H [] := by rw [← hH]; exact va_S.rf
  refine bx_heap hH ?_
  refine lv_aload_n hx hb d_MCells_init_0 rfl (lv_at hl 0 rfl) ?_
  refine W.objInit hx hb hown (hts _ (List.mem_cons_of_mem _ q_2055)) (hts _ (List.mem_cons_of_mem _ q_35)) (hts _ (List.mem_cons_of_mem _ q_36)) rfl (by rw [hml]; exact hl.1) rfl d_MCells_init_1 (Nat.le_of_ble_eq_true rfl) (Nat.le_of_ble_eq_true rfl) ?_
  refine W.eq (g2 := F0 m 4 ls []) rfl ?_
  refine lv_aload_n hx hb d_MCells_init_4 rfl (lv_at hl 0 rfl) ?_
  refine lv_iload_n hx hb d_MCells_init_5 rfl (lv_at hl 1 rfl) ?_
  refine va_newa (atype := .byte) (ty := .byte) (a0 := (8000, .inl (fun _ => 0))) (n := 8000) (N' := 8000) hx hb (hts _ (List.mem_cons_of_mem _ q_94)) rfl hK hP hD hS hA (fun _ => rfl) (by decide) (by decide) (by decide) (Nat.le_of_ble_eq_true rfl) (Nat.le_of_ble_eq_true rfl) d_MCells_init_6 (fun q1 cA2 H hK hP hD hS => ?_)
  have hP : va_P (dC, dI) classes [(h0, .inr (14, [.null, .null, .null, .null])), (q1, .inl (cA2, 8000, .inl (fun _ => 0)))] H := hP
  have hD : va_D A [(h0, .inr (14, [.null, .null, .null, .null])), (q1, .inl (cA2, 8000, .inl (fun _ => 0)))] := hD
  have hK : va_K (dC, dI) classes [(cA2, .byte)] s := hK
  refine W.widen (k := 1) (n := 8000) (Nat.le_of_ble_eq_true rfl) (Nat.le_of_ble_eq_true rfl) ?_
  refine va_putF (D := (dC, dI)) (ci := 14) (v := .ref q1) (ty := (.array .byte)) (C := R_MCells) (T := F_MCells) (N := 4) hx hb hts (i_MCells _) t_MCells t_MCells_ok n_MCells hown hK hP hD hS 0 rfl rfl 0 (by decide) (hts _ (List.mem_cons_of_mem _ q_2056)) (fun _ h9 => h9) rfl hin rfl (by decide +kernel) rfl rfl (Nat.le_of_ble_eq_true rfl) d_MCells_init_8 (fun H locs hP hD hS => ?_)
  have hP : va_P (dC, dI) classes [(h0, .inr (14, [.ref q1, .null, .null, .null])), (q1, .inl (cA2, 8000, .inl (fun _ => 0)))] H := hP
  have hD : va_D A [(h0, .inr (14, [.ref q1, .null, .null, .null])), (q1, .inl (cA2, 8000, .inl (fun _ => 0)))] := hD
  have hP := hP.sub (ws' := [(h0, .inr (14, [.ref q1, .null, .null, .null]))]) [0] rfl
  have hD := hD.sub (ws' := [(h0, .inr (14, [.ref q1, .null, .null, .null]))]) [0] (by decide) rfl
  have hK := hK.sub (tys' := []) [] rfl
  refine lv_aload_n hx hb d_MCells_init_11 rfl (lv_at hl 0 rfl) ?_
  refine lv_iload_n hx hb d_MCells_init_12 rfl (lv_at hl 1 rfl) ?_
  refine va_newa (atype := .long) (ty := .long) (a0 := (8000, .inr (.inl (fun _ => 0)))) (n := 8000) (N' := 8000) hx hb (hts _ (List.mem_cons_of_mem _ q_97)) rfl hK hP hD hS hA (fun _ => rfl) (by decide) (by decide) (by decide) (Nat.le_of_ble_eq_true rfl) (Nat.le_of_ble_eq_true rfl) d_MCells_init_13 (fun q3 cA4 H hK hP hD hS => ?_)
  have hP : va_P (dC, dI) classes [(h0, .inr (14, [.ref q1, .null, .null, .null])), (q3, .inl (cA4, 8000, .inr (.inl (fun _ => 0))))] H := hP
  have hD : va_D A [(h0, .inr (14, [.ref q1, .null, .null, .null])), (q3, .inl (cA4, 8000, .inr (.inl (fun _ => 0))))] := hD
  have hK : va_K (dC, dI) classes [(cA4, .long)] s := hK
  refine W.widen (k := 2) (n := 16000) (Nat.le_of_ble_eq_true rfl) (Nat.le_of_ble_eq_true rfl) ?_
  refine va_putF (D := (dC, dI)) (ci := 14) (v := .ref q3) (ty := (.array .long)) (C := R_MCells) (T := F_MCells) (N := 4) hx hb hts (i_MCells _) t_MCells t_MCells_ok n_MCells hown hK hP hD hS 0 rfl rfl 1 (by decide) (hts _ (List.mem_cons_of_mem _ q_2059)) (fun _ h9 => h9) rfl hin rfl (by decide +kernel) rfl rfl (Nat.le_of_ble_eq_true rfl) d_MCells_init_15 (fun H locs hP hD hS => ?_)
  have hP : va_P (dC, dI) classes [(h0, .inr (14, [.ref q1, .ref q3, .null, .null])), (q3, .inl (cA4, 8000, .inr (.inl (fun _ => 0))))] H := hP
  have hD : va_D A [(h0, .inr (14, [.ref q1, .ref q3, .null, .null])), (q3, .inl (cA4, 8000, .inr (.inl (fun _ => 0))))] := hD
  have hP := hP.sub (ws' := [(h0, .inr (14, [.ref q1, .ref q3, .null, .null]))]) [0] rfl
  have hD := hD.sub (ws' := [(h0, .inr (14, [.ref q1, .ref q3, .null, .null]))]) [0] (by decide) rfl
  have hK := hK.sub (tys' := []) [] rfl
  refine lv_aload_n hx hb d_MCells_init_18 rfl (lv_at hl 0 rfl) ?_
  refine lv_iload_n hx hb d_MCells_init_19 rfl (lv_at hl 1 rfl) ?_
  refine va_newa (atype := .byte) (ty := .byte) (a0 := (8000, .inl (fun _ => 0))) (n := 8000) (N' := 8000) hx hb (hts _ (List.mem_cons_of_mem _ q_94)) rfl hK hP hD hS hA (fun _ => rfl) (by decide) (by decide) (by decide) (Nat.le_of_ble_eq_true rfl) (Nat.le_of_ble_eq_true rfl) d_MCells_init_20 (fun q5 cA6 H hK hP hD hS => ?_)
  have hP : va_P (dC, dI) classes [(h0, .inr (14, [.ref q1, .ref q3, .null, .null])), (q5, .inl (cA6, 8000, .inl (fun _ => 0)))] H := hP
  have hD : va_D A [(h0, .inr (14, [.ref q1, .ref q3, .null, .null])), (q5, .inl (cA6, 8000, .inl (fun _ => 0)))] := hD
  have hK : va_K (dC, dI) classes [(cA6, .byte)] s := hK
  refine W.widen (k := 3) (n := 24000) (Nat.le_of_ble_eq_true rfl) (Nat.le_of_ble_eq_true rfl) ?_
  refine va_putF (D := (dC, dI)) (ci := 14) (v := .ref q5) (ty := (.array .byte)) (C := R_MCells) (T := F_MCells) (N := 4) hx hb hts (i_MCells _) t_MCells t_MCells_ok n_MCells hown hK hP hD hS 0 rfl rfl 2 (by decide) (hts _ (List.mem_cons_of_mem _ q_2062)) (fun _ h9 => h9) rfl hin rfl (by decide +kernel) rfl rfl (Nat.le_of_ble_eq_true rfl) d_MCells_init_22 (fun H locs hP hD hS => ?_)
  have hP : va_P (dC, dI) classes [(h0, .inr (14, [.ref q1, .ref q3, .ref q5, .null])), (q5, .inl (cA6, 8000, .inl (fun _ => 0)))] H := hP
  have hD : va_D A [(h0, .inr (14, [.ref q1, .ref q3, .ref q5, .null])), (q5, .inl (cA6, 8000, .inl (fun _ => 0)))] := hD
  have hP := hP.sub (ws' := [(h0, .inr (14, [.ref q1, .ref q3, .ref q5, .null]))]) [0] rfl
  have hD := hD.sub (ws' := [(h0, .inr (14, [.ref q1, .ref q3, .ref q5, .null]))]) [0] (by decide) rfl
  have hK := hK.sub (tys' := []) [] rfl
  refine lv_aload_n hx hb d_MCells_init_25 rfl (lv_at hl 0 rfl) ?_
  refine lv_iconst (v := 4) hx hb d_MCells_init_26 (by decide) ?_
  refine lv_iload_n hx hb d_MCells_init_27 rfl (lv_at hl 1 rfl) ?_
  refine lv_imul hx hb d_MCells_init_28 ?_
  refine bx_top (y := 32000) (by decide) ?_
  refine va_newa (atype := .long) (ty := .long) (a0 := (32000, .inr (.inl (fun _ => 0)))) (n := 32000) (N' := 32000) hx hb (hts _ (List.mem_cons_of_mem _ q_97)) rfl hK hP hD hS hA (fun _ => rfl) (by decide) (by decide) (by decide) (Nat.le_of_ble_eq_true rfl) (Nat.le_of_ble_eq_true rfl) d_MCells_init_29 (fun q7 cA8 H hK hP hD hS => ?_)
  have hP : va_P (dC, dI) classes [(h0, .inr (14, [.ref q1, .ref q3, .ref q5, .null])), (q7, .inl (cA8, 32000, .inr (.inl (fun _ => 0))))] H := hP
  have hD : va_D A [(h0, .inr (14, [.ref q1, .ref q3, .ref q5, .null])), (q7, .inl (cA8, 32000, .inr (.inl (fun _ => 0))))] := hD
  have hK : va_K (dC, dI) classes [(cA8, .long)] s := hK
  refine W.widen (k := 4) (n := 56000) (Nat.le_of_ble_eq_true rfl) (Nat.le_of_ble_eq_true rfl) ?_
  refine va_putF (D := (dC, dI)) (ci := 14) (v := .ref q7) (ty := (.array .long)) (C := R_MCells) (T := F_MCells) (N := 4) hx hb hts (i_MCells _) t_MCells t_MCells_ok n_MCells hown hK hP hD hS 0 rfl rfl 3 (by decide) (hts _ (List.mem_cons_of_mem _ q_2065)) (fun _ h9 => h9) rfl hin rfl (by decide +kernel) rfl rfl (Nat.le_of_ble_eq_true rfl) d_MCells_init_31 (fun H locs hP hD hS => ?_)
  have hP : va_P (dC, dI) classes [(h0, .inr (14, [.ref q1, .ref q3, .ref q5, .ref q7])), (q7, .inl (cA8, 32000, .inr (.inl (fun _ => 0))))] H := hP
  have hD : va_D A [(h0, .inr (14, [.ref q1, .ref q3, .ref q5, .ref q7])), (q7, .inl (cA8, 32000, .inr (.inl (fun _ => 0))))] := hD
  have hP := hP.sub (ws' := [(h0, .inr (14, [.ref q1, .ref q3, .ref q5, .ref q7]))]) [0] rfl
  have hD := hD.sub (ws' := [(h0, .inr (14, [.ref q1, .ref q3, .ref q5, .ref q7]))]) [0] (by decide) rfl
  have hK := hK.sub (tys' := []) [] rfl
  have hP9 := hP.sub (ws' := []) [] rfl
  have hD9 := hD.sub (ws' := []) [] (by decide) rfl
  have hK9 := hK.sub (tys' := []) [] rfl
  refine W.widen (k := 4) (n := 56000) (Nat.le_of_ble_eq_true rfl) (Nat.le_of_ble_eq_true rfl) ?_
  exact W.vret hx hb hr (fun t ht hW => ⟨⟨(), rfl, trivial, by rw [ht]; exact hP9, va_K.moved hW.alike hK9, hD9⟩, hS.F ht⟩) hS.2.2 d_MCells_init_34
set_option maxHeartbeats 4000000 in
set_option maxRecDepth 100000 in
theorem c_MCells_init_8008 (l : Launch) (dC : Nat → ClassId) (dI : Nat → Nat → Nat) (sz : Nat) (h0 : Nat) : Met l y_MCells_init w_MCells_init ({ frames := 1, cells := 4, slots := 56056, locals := 12 }) (va_Pc [.ref h0, .int 8008] (fun U => U.heap.size = sz ∧ va_P (dC, dI) classes [(h0, .inr (14, [.null, .null, .null, .null]))] U.heap ∧ va_K (dC, dI) classes [] U ∧ va_D (fun _ => True) [(h0, .inr (14, [.null, .null, .null, .null]))] ∧ bx_N U)) (va_Qv (fun _ : Unit => True) (fun (_ : Unit) t => va_P (dC, dI) classes [] t.heap ∧ va_K (dC, dI) classes [] t ∧ va_D (va_A [(h0, .inr (14, [.null, .null, .null, .null]))] sz) []) (va_A [(h0, .inr (14, [.null, .null, .null, .null]))] sz)) 4 56056 (va_A [(h0, .inr (14, [.null, .null, .null, .null]))] sz) := by
  refine Met.ofW (cc := b_MCells_init) (maxL := 2) (ret := none) (by decide) rfl ?_
  intro p e s m args below meth c s₁ B hml hv
  obtain ⟨rfl, hsz, hP, hK, hD0, hN⟩ := hv
  have hx := B.exec
  have hb := B.bytes
  have hr := B.returns
  have hts := atoms_spec (ws := w_MCells_init) B.pre
  have hown : s.vm.findClass R_MCells = some m.cls := findClass_of_methodNamed B.named
  have hlocks := B.notSynchronized
  have hin : meth.name = "<init>" := (name_of_methodNamed B.named B.method).1
  subst hsz
  have hD := hD0.self (sz := s.heap.size)
  generalize hAe : va_A [(h0, .inr (14, [.null, .null, .null, .null]))] s.heap.size = A at hD ⊢
  have hA : ∀ q : Nat, s.heap.size ≤ q → A q := fun q h => by rw [← hAe]; exact Or.inr h
  have hS : va_S A s.heap s.heap [] := va_S.rf
  have hP : va_P (dC, dI) classes [(h0, .inr (14, [.null, .null, .null, .null]))] s.heap := hP
  have hl := lv_entry ([.ref h0, .int 8008]) (n := 2) (Nat.le_of_ble_eq_true rfl)
  rw [lg_entry_eq]
  generalize (lg_sl ([.ref h0, .int 8008]) ++ List.replicate (2 - (lg_sl ([.ref h0, .int 8008])).length) Slot.unset).toArray = ls at hl ⊢
  have hl : lv_has ls 2 [(0, .ref h0), (1, .int 8008)] := hl
  obtain ⟨H, hH⟩ : ∃ H : Heap, s.heap = H := ⟨_, rfl⟩
  have hP : va_P (dC, dI) classes [(h0, .inr (14, [.null, .null, .null, .null]))] H := by rw [← hH]; exact hP
  have hS : va_S A s.heap H [] := by rw [← hH]; exact va_S.rf
  refine bx_heap hH ?_
  refine lv_aload_n hx hb d_MCells_init_0 rfl (lv_at hl 0 rfl) ?_
  refine W.objInit hx hb hown (hts _ (List.mem_cons_of_mem _ q_2055)) (hts _ (List.mem_cons_of_mem _ q_35)) (hts _ (List.mem_cons_of_mem _ q_36)) rfl (by rw [hml]; exact hl.1) rfl d_MCells_init_1 (Nat.le_of_ble_eq_true rfl) (Nat.le_of_ble_eq_true rfl) ?_
  refine W.eq (g2 := F0 m 4 ls []) rfl ?_
  refine lv_aload_n hx hb d_MCells_init_4 rfl (lv_at hl 0 rfl) ?_
  refine lv_iload_n hx hb d_MCells_init_5 rfl (lv_at hl 1 rfl) ?_
  refine va_newa (atype := .byte) (ty := .byte) (a0 := (8008, .inl (fun _ => 0))) (n := 8008) (N' := 8008) hx hb (hts _ (List.mem_cons_of_mem _ q_94)) rfl hK hP hD hS hA (fun _ => rfl) (by decide) (by decide) (by decide) (Nat.le_of_ble_eq_true rfl) (Nat.le_of_ble_eq_true rfl) d_MCells_init_6 (fun q1 cA2 H hK hP hD hS => ?_)
  have hP : va_P (dC, dI) classes [(h0, .inr (14, [.null, .null, .null, .null])), (q1, .inl (cA2, 8008, .inl (fun _ => 0)))] H := hP
  have hD : va_D A [(h0, .inr (14, [.null, .null, .null, .null])), (q1, .inl (cA2, 8008, .inl (fun _ => 0)))] := hD
  have hK : va_K (dC, dI) classes [(cA2, .byte)] s := hK
  refine W.widen (k := 1) (n := 8008) (Nat.le_of_ble_eq_true rfl) (Nat.le_of_ble_eq_true rfl) ?_
  refine va_putF (D := (dC, dI)) (ci := 14) (v := .ref q1) (ty := (.array .byte)) (C := R_MCells) (T := F_MCells) (N := 4) hx hb hts (i_MCells _) t_MCells t_MCells_ok n_MCells hown hK hP hD hS 0 rfl rfl 0 (by decide) (hts _ (List.mem_cons_of_mem _ q_2056)) (fun _ h9 => h9) rfl hin rfl (by decide +kernel) rfl rfl (Nat.le_of_ble_eq_true rfl) d_MCells_init_8 (fun H locs hP hD hS => ?_)
  have hP : va_P (dC, dI) classes [(h0, .inr (14, [.ref q1, .null, .null, .null])), (q1, .inl (cA2, 8008, .inl (fun _ => 0)))] H := hP
  have hD : va_D A [(h0, .inr (14, [.ref q1, .null, .null, .null])), (q1, .inl (cA2, 8008, .inl (fun _ => 0)))] := hD
  have hP := hP.sub (ws' := [(h0, .inr (14, [.ref q1, .null, .null, .null]))]) [0] rfl
  have hD := hD.sub (ws' := [(h0, .inr (14, [.ref q1, .null, .null, .null]))]) [0] (by decide) rfl
  have hK := hK.sub (tys' := []) [] rfl
  refine lv_aload_n hx hb d_MCells_init_11 rfl (lv_at hl 0 rfl) ?_
  refine lv_iload_n hx hb d_MCells_init_12 rfl (lv_at hl 1 rfl) ?_
  refine va_newa (atype := .long) (ty := .long) (a0 := (8008, .inr (.inl (fun _ => 0)))) (n := 8008) (N' := 8008) hx hb (hts _ (List.mem_cons_of_mem _ q_97)) rfl hK hP hD hS hA (fun _ => rfl) (by decide) (by decide) (by decide) (Nat.le_of_ble_eq_true rfl) (Nat.le_of_ble_eq_true rfl) d_MCells_init_13 (fun q3 cA4 H hK hP hD hS => ?_)
  have hP : va_P (dC, dI) classes [(h0, .inr (14, [.ref q1, .null, .null, .null])), (q3, .inl (cA4, 8008, .inr (.inl (fun _ => 0))))] H := hP
  have hD : va_D A [(h0, .inr (14, [.ref q1, .null, .null, .null])), (q3, .inl (cA4, 8008, .inr (.inl (fun _ => 0))))] := hD
  have hK : va_K (dC, dI) classes [(cA4, .long)] s := hK
  refine W.widen (k := 2) (n := 16016) (Nat.le_of_ble_eq_true rfl) (Nat.le_of_ble_eq_true rfl) ?_
  refine va_putF (D := (dC, dI)) (ci := 14) (v := .ref q3) (ty := (.array .long)) (C := R_MCells) (T := F_MCells) (N := 4) hx hb hts (i_MCells _) t_MCells t_MCells_ok n_MCells hown hK hP hD hS 0 rfl rfl 1 (by decide) (hts _ (List.mem_cons_of_mem _ q_2059)) (fun _ h9 => h9) rfl hin rfl (by decide +kernel) rfl rfl (Nat.le_of_ble_eq_true rfl) d_MCells_init_15 (fun H locs hP hD hS => ?_)
  have hP : va_P (dC, dI) classes [(h0, .inr (14, [.ref q1, .ref q3, .null, .null])), (q3, .inl (cA4, 8008, .inr (.inl (fun _ => 0))))] H := hP
  have hD : va_D A [(h0, .inr (14, [.ref q1, .ref q3, .null, .null])), (q3, .inl (cA4, 8008, .inr (.inl (fun _ => 0))))] := hD
  have hP := hP.sub (ws' := [(h0, .inr (14, [.ref q1, .ref q3, .null, .null]))]) [0] rfl
  have hD := hD.sub (ws' := [(h0, .inr (14, [.ref q1, .ref q3, .null, .null]))]) [0] (by decide) rfl
  have hK := hK.sub (tys' := []) [] rfl
  refine lv_aload_n hx hb d_MCells_init_18 rfl (lv_at hl 0 rfl) ?_
  refine lv_iload_n hx hb d_MCells_init_19 rfl (lv_at hl 1 rfl) ?_
  refine va_newa (atype := .byte) (ty := .byte) (a0 := (8008, .inl (fun _ => 0))) (n := 8008) (N' := 8008) hx hb (hts _ (List.mem_cons_of_mem _ q_94)) rfl hK hP hD hS hA (fun _ => rfl) (by decide) (by decide) (by decide) (Nat.le_of_ble_eq_true rfl) (Nat.le_of_ble_eq_true rfl) d_MCells_init_20 (fun q5 cA6 H hK hP hD hS => ?_)
  have hP : va_P (dC, dI) classes [(h0, .inr (14, [.ref q1, .ref q3, .null, .null])), (q5, .inl (cA6, 8008, .inl (fun _ => 0)))] H := hP
  have hD : va_D A [(h0, .inr (14, [.ref q1, .ref q3, .null, .null])), (q5, .inl (cA6, 8008, .inl (fun _ => 0)))] := hD
  have hK : va_K (dC, dI) classes [(cA6, .byte)] s := hK
  refine W.widen (k := 3) (n := 24024) (Nat.le_of_ble_eq_true rfl) (Nat.le_of_ble_eq_true rfl) ?_
  refine va_putF (D := (dC, dI)) (ci := 14) (v := .ref q5) (ty := (.array .byte)) (C := R_MCells) (T := F_MCells) (N := 4) hx hb hts (i_MCells _) t_MCells t_MCells_ok n_MCells hown hK hP hD hS 0 rfl rfl 2 (by decide) (hts _ (List.mem_cons_of_mem _ q_2062)) (fun _ h9 => h9) rfl hin rfl (by decide +kernel) rfl rfl (Nat.le_of_ble_eq_true rfl) d_MCells_init_22 (fun H locs hP hD hS => ?_)
  have hP : va_P (dC, dI) classes [(h0, .inr (14, [.ref q1, .ref q3, .ref q5, .null])), (q5, .inl (cA6, 8008, .inl (fun _ => 0)))] H := hP
  have hD : va_D A [(h0, .inr (14, [.ref q1, .ref q3, .ref q5, .null])), (q5, .inl (cA6, 8008, .inl (fun _ => 0)))] := hD
  have hP := hP.sub (ws' := [(h0, .inr (14, [.ref q1, .ref q3, .ref q5, .null]))]) [0] rfl
  have hD := hD.sub (ws' := [(h0, .inr (14, [.ref q1, .ref q3, .ref q5, .null]))]) [0] (by decide) rfl
  have hK := hK.sub (tys' := []) [] rfl
  refine lv_aload_n hx hb d_MCells_init_25 rfl (lv_at hl 0 rfl) ?_
  refine lv_iconst (v := 4) hx hb d_MCells_init_26 (by decide) ?_
  refine lv_iload_n hx hb d_MCells_init_27 rfl (lv_at hl 1 rfl) ?_
  refine lv_imul hx hb d_MCells_init_28 ?_
  refine bx_top (y := 32032) (by decide) ?_
  refine va_newa (atype := .long) (ty := .long) (a0 := (32032, .inr (.inl (fun _ => 0)))) (n := 32032) (N' := 32032) hx hb (hts _ (List.mem_cons_of_mem _ q_97)) rfl hK hP hD hS hA (fun _ => rfl) (by decide) (by decide) (by decide) (Nat.le_of_ble_eq_true rfl) (Nat.le_of_ble_eq_true rfl) d_MCells_init_29 (fun q7 cA8 H hK hP hD hS => ?_)
  have hP : va_P (dC, dI) classes [(h0, .inr (14, [.ref q1, .ref q3, .ref q5, .null])), (q7, .inl (cA8, 32032, .inr (.inl (fun _ => 0))))] H := hP
  have hD : va_D A [(h0, .inr (14, [.ref q1, .ref q3, .ref q5, .null])), (q7, .inl (cA8, 32032, .inr (.inl (fun _ => 0))))] := hD
  have hK : va_K (dC, dI) classes [(cA8, .long)] s := hK
  refine W.widen (k := 4) (n := 56056) (Nat.le_of_ble_eq_true rfl) (Nat.le_of_ble_eq_true rfl) ?_
  refine va_putF (D := (dC, dI)) (ci := 14) (v := .ref q7) (ty := (.array .long)) (C := R_MCells) (T := F_MCells) (N := 4) hx hb hts (i_MCells _) t_MCells t_MCells_ok n_MCells hown hK hP hD hS 0 rfl rfl 3 (by decide) (hts _ (List.mem_cons_of_mem _ q_2065)) (fun _ h9 => h9) rfl hin rfl (by decide +kernel) rfl rfl (Nat.le_of_ble_eq_true rfl) d_MCells_init_31 (fun H locs hP hD hS => ?_)
  have hP : va_P (dC, dI) classes [(h0, .inr (14, [.ref q1, .ref q3, .ref q5, .ref q7])), (q7, .inl (cA8, 32032, .inr (.inl (fun _ => 0))))] H := hP
  have hD : va_D A [(h0, .inr (14, [.ref q1, .ref q3, .ref q5, .ref q7])), (q7, .inl (cA8, 32032, .inr (.inl (fun _ => 0))))] := hD
  have hP := hP.sub (ws' := [(h0, .inr (14, [.ref q1, .ref q3, .ref q5, .ref q7]))]) [0] rfl
  have hD := hD.sub (ws' := [(h0, .inr (14, [.ref q1, .ref q3, .ref q5, .ref q7]))]) [0] (by decide) rfl
  have hK := hK.sub (tys' := []) [] rfl
  have hP9 := hP.sub (ws' := []) [] rfl
  have hD9 := hD.sub (ws' := []) [] (by decide) rfl
  have hK9 := hK.sub (tys' := []) [] rfl
  refine W.widen (k := 4) (n := 56056) (Nat.le_of_ble_eq_true rfl) (Nat.le_of_ble_eq_true rfl) ?_
  exact W.vret hx hb hr (fun t ht hW => ⟨⟨(), rfl, trivial, by rw [ht]; exact hP9, va_K.moved hW.alike hK9, hD9⟩, hS.F ht⟩) hS.2.2 d_MCells_init_34
set_option maxHeartbeats 4000000 in
set_option maxRecDepth 100000 in
theorem c_MCatalog_init (l : Launch) (dC : Nat → ClassId) (dI : Nat → Nat → Nat) (sz : Nat) (h0 : Nat) : Met l y_MCatalog_init w_MCatalog_init ({ frames := 1, cells := 11, slots := 1392, locals := 12 }) (va_Pc [.ref h0] (fun U => U.heap.size = sz ∧ va_P (dC, dI) classes [(h0, .inr (13, [.int 0, .null, .null, .null, .null, .null, .null, .null, .null, .int 0, .null, .null, .null]))] U.heap ∧ va_K (dC, dI) classes [] U ∧ va_D (fun _ => True) [(h0, .inr (13, [.int 0, .null, .null, .null, .null, .null, .null, .null, .null, .int 0, .null, .null, .null]))] ∧ bx_N U)) (va_Qv (fun _ : Unit => True) (fun (_ : Unit) t => ∃ e1 : Nat, ∃ e2 : Nat, ∃ e3 : Nat, ∃ e4 : Nat, ∃ e5 : Nat, ∃ e6 : Nat, ∃ e7 : Nat, ∃ e8 : Nat, ∃ e9 : Nat, ∃ e10 : Nat, ∃ e11 : Nat, ∃ e12 : ClassId, va_P (dC, dI) classes [(h0, .inr (13, [.int 0, .ref e1, .ref e2, .ref e3, .ref e4, .ref e5, .ref e6, .ref e7, .ref e8, .int 0, .ref e9, .ref e10, .ref e11])), (e1, .inl (e12, 8, .inl (fun _ => 0)))] t.heap ∧ va_K (dC, dI) classes [(e12, .int)] t ∧ va_D (va_A [(h0, .inr (13, [.int 0, .null, .null, .null, .null, .null, .null, .null, .null, .int 0, .null, .null, .null]))] sz) [(h0, .inr (13, [.int 0, .ref e1, .ref e2, .ref e3, .ref e4, .ref e5, .ref e6, .ref e7, .ref e8, .int 0, .ref e9, .ref e10, .ref e11])), (e1, .inl (e12, 8, .inl (fun _ => 0)))]) (va_A [(h0, .inr (13, [.int 0, .null, .null, .null, .null, .null, .null, .null, .null, .int 0, .null, .null, .null]))] sz)) 11 1392 (va_A [(h0, .inr (13, [.int 0, .null, .null, .null, .null, .null, .null, .null, .null, .int 0, .null, .null, .null]))] sz) := by
  refine Met.ofW (cc := b_MCatalog_init) (maxL := 1) (ret := none) (by decide) rfl ?_
  intro p e s m args below meth c s₁ B hml hv
  obtain ⟨rfl, hsz, hP, hK, hD0, hN⟩ := hv
  have hx := B.exec
  have hb := B.bytes
  have hr := B.returns
  have hts := atoms_spec (ws := w_MCatalog_init) B.pre
  have hown : s.vm.findClass R_MCatalog = some m.cls := findClass_of_methodNamed B.named
  have hlocks := B.notSynchronized
  have hin : meth.name = "<init>" := (name_of_methodNamed B.named B.method).1
  subst hsz
  have hD := hD0.self (sz := s.heap.size)
  generalize hAe : va_A [(h0, .inr (13, [.int 0, .null, .null, .null, .null, .null, .null, .null, .null, .int 0, .null, .null, .null]))] s.heap.size = A at hD ⊢
  have hA : ∀ q : Nat, s.heap.size ≤ q → A q := fun q h => by rw [← hAe]; exact Or.inr h
  have hS : va_S A s.heap s.heap [] := va_S.rf
  have hP : va_P (dC, dI) classes [(h0, .inr (13, [.int 0, .null, .null, .null, .null, .null, .null, .null, .null, .int 0, .null, .null, .null]))] s.heap := hP
  have hl := lv_entry ([.ref h0]) (n := 1) (Nat.le_of_ble_eq_true rfl)
  rw [lg_entry_eq]
  generalize (lg_sl ([.ref h0]) ++ List.replicate (1 - (lg_sl ([.ref h0])).length) Slot.unset).toArray = ls at hl ⊢
  have hl : lv_has ls 1 [(0, .ref h0)] := hl
  obtain ⟨H, hH⟩ : ∃ H : Heap, s.heap = H := ⟨_, rfl⟩
  have hP : va_P (dC, dI) classes [(h0, .inr (13, [.int 0, .null, .null, .null, .null, .null, .null, .null, .null, .int 0, .null, .null, .null]))] H := by rw [← hH]; exact hP
  have hS : va_S A s.heap H [] := by rw [← hH]; exact va_S.rf
  refine bx_heap hH ?_
  refine lv_aload_n hx hb d_MCatalog_init_0 rfl (lv_at hl 0 rfl) ?_
  refine W.objInit hx hb hown (hts _ (List.mem_cons_of_mem _ q_1984)) (hts _ (List.mem_cons_of_mem _ q_35)) (hts _ (List.mem_cons_of_mem _ q_36)) rfl (by rw [hml]; exact hl.1) rfl d_MCatalog_init_1 (Nat.le_of_ble_eq_true rfl) (Nat.le_of_ble_eq_true rfl) ?_
  refine W.eq (g2 := F0 m 4 ls []) rfl ?_
  refine lv_aload_n hx hb d_MCatalog_init_4 rfl (lv_at hl 0 rfl) ?_
  refine lv_bipush (v := 8) hx hb d_MCatalog_init_5 (by decide) ?_
  refine va_newa (atype := .int) (ty := .int) (a0 := (8, .inl (fun _ => 0))) (n := 8) (N' := 8) hx hb (hts _ (List.mem_cons_of_mem _ q_95)) rfl hK hP hD hS hA (fun _ => rfl) (by decide) (by decide) (by decide) (Nat.le_of_ble_eq_true rfl) (Nat.le_of_ble_eq_true rfl) d_MCatalog_init_7 (fun q1 cA2 H hK hP hD hS => ?_)
  have hP : va_P (dC, dI) classes [(h0, .inr (13, [.int 0, .null, .null, .null, .null, .null, .null, .null, .null, .int 0, .null, .null, .null])), (q1, .inl (cA2, 8, .inl (fun _ => 0)))] H := hP
  have hD : va_D A [(h0, .inr (13, [.int 0, .null, .null, .null, .null, .null, .null, .null, .null, .int 0, .null, .null, .null])), (q1, .inl (cA2, 8, .inl (fun _ => 0)))] := hD
  have hK : va_K (dC, dI) classes [(cA2, .int)] s := hK
  refine W.widen (k := 1) (n := 8) (Nat.le_of_ble_eq_true rfl) (Nat.le_of_ble_eq_true rfl) ?_
  refine va_putF (D := (dC, dI)) (ci := 13) (v := .ref q1) (ty := (.array .int)) (C := R_MCatalog) (T := F_MCatalog) (N := 13) hx hb hts (i_MCatalog _) t_MCatalog t_MCatalog_ok n_MCatalog hown hK hP hD hS 0 rfl rfl 1 (by decide) (hts _ (List.mem_cons_of_mem _ q_1986)) (fun _ h9 => h9) rfl hin rfl (by decide +kernel) rfl rfl (Nat.le_of_ble_eq_true rfl) d_MCatalog_init_9 (fun H locs hP hD hS => ?_)
  have hP : va_P (dC, dI) classes [(h0, .inr (13, [.int 0, .ref q1, .null, .null, .null, .null, .null, .null, .null, .int 0, .null, .null, .null])), (q1, .inl (cA2, 8, .inl (fun _ => 0)))] H := hP
  have hD : va_D A [(h0, .inr (13, [.int 0, .ref q1, .null, .null, .null, .null, .null, .null, .null, .int 0, .null, .null, .null])), (q1, .inl (cA2, 8, .inl (fun _ => 0)))] := hD
  refine lv_aload_n hx hb d_MCatalog_init_12 rfl (lv_at hl 0 rfl) ?_
  refine lv_bipush (v := 8) hx hb d_MCatalog_init_13 (by decide) ?_
  refine va_newa (atype := .int) (ty := .int) (a0 := (8, .inl (fun _ => 0))) (n := 8) (N' := 8) hx hb (hts _ (List.mem_cons_of_mem _ q_95)) rfl hK hP hD hS hA (fun _ => rfl) (by decide) (by decide) (by decide) (Nat.le_of_ble_eq_true rfl) (Nat.le_of_ble_eq_true rfl) d_MCatalog_init_15 (fun q3 cA4 H hK hP hD hS => ?_)
  have hP : va_P (dC, dI) classes [(h0, .inr (13, [.int 0, .ref q1, .null, .null, .null, .null, .null, .null, .null, .int 0, .null, .null, .null])), (q1, .inl (cA2, 8, .inl (fun _ => 0))), (q3, .inl (cA4, 8, .inl (fun _ => 0)))] H := hP
  have hD : va_D A [(h0, .inr (13, [.int 0, .ref q1, .null, .null, .null, .null, .null, .null, .null, .int 0, .null, .null, .null])), (q1, .inl (cA2, 8, .inl (fun _ => 0))), (q3, .inl (cA4, 8, .inl (fun _ => 0)))] := hD
  have hK : va_K (dC, dI) classes [(cA2, .int), (cA4, .int)] s := hK
  refine W.widen (k := 2) (n := 16) (Nat.le_of_ble_eq_true rfl) (Nat.le_of_ble_eq_true rfl) ?_
  refine va_putF (D := (dC, dI)) (ci := 13) (v := .ref q3) (ty := (.array .int)) (C := R_MCatalog) (T := F_MCatalog) (N := 13) hx hb hts (i_MCatalog _) t_MCatalog t_MCatalog_ok n_MCatalog hown hK hP hD hS 0 rfl rfl 2 (by decide) (hts _ (List.mem_cons_of_mem _ q_1988)) (fun _ h9 => h9) rfl hin rfl (by decide +kernel) rfl rfl (Nat.le_of_ble_eq_true rfl) d_MCatalog_init_17 (fun H locs hP hD hS => ?_)
  have hP : va_P (dC, dI) classes [(h0, .inr (13, [.int 0, .ref q1, .ref q3, .null, .null, .null, .null, .null, .null, .int 0, .null, .null, .null])), (q1, .inl (cA2, 8, .inl (fun _ => 0))), (q3, .inl (cA4, 8, .inl (fun _ => 0)))] H := hP
  have hD : va_D A [(h0, .inr (13, [.int 0, .ref q1, .ref q3, .null, .null, .null, .null, .null, .null, .int 0, .null, .null, .null])), (q1, .inl (cA2, 8, .inl (fun _ => 0))), (q3, .inl (cA4, 8, .inl (fun _ => 0)))] := hD
  have hP := hP.sub (ws' := [(h0, .inr (13, [.int 0, .ref q1, .ref q3, .null, .null, .null, .null, .null, .null, .int 0, .null, .null, .null])), (q1, .inl (cA2, 8, .inl (fun _ => 0)))]) [0, 1] rfl
  have hD := hD.sub (ws' := [(h0, .inr (13, [.int 0, .ref q1, .ref q3, .null, .null, .null, .null, .null, .null, .int 0, .null, .null, .null])), (q1, .inl (cA2, 8, .inl (fun _ => 0)))]) [0, 1] (by decide) rfl
  have hK := hK.sub (tys' := [(cA2, .int)]) [0] rfl
  refine lv_aload_n hx hb d_MCatalog_init_20 rfl (lv_at hl 0 rfl) ?_
  refine lv_sipush (v := 128) hx hb d_MCatalog_init_21 (by decide) ?_
  refine va_newa (atype := .byte) (ty := .byte) (a0 := (128, .inl (fun _ => 0))) (n := 128) (N' := 128) hx hb (hts _ (List.mem_cons_of_mem _ q_94)) rfl hK hP hD hS hA (fun _ => rfl) (by decide) (by decide) (by decide) (Nat.le_of_ble_eq_true rfl) (Nat.le_of_ble_eq_true rfl) d_MCatalog_init_24 (fun q5 cA6 H hK hP hD hS => ?_)
  have hP : va_P (dC, dI) classes [(h0, .inr (13, [.int 0, .ref q1, .ref q3, .null, .null, .null, .null, .null, .null, .int 0, .null, .null, .null])), (q1, .inl (cA2, 8, .inl (fun _ => 0))), (q5, .inl (cA6, 128, .inl (fun _ => 0)))] H := hP
  have hD : va_D A [(h0, .inr (13, [.int 0, .ref q1, .ref q3, .null, .null, .null, .null, .null, .null, .int 0, .null, .null, .null])), (q1, .inl (cA2, 8, .inl (fun _ => 0))), (q5, .inl (cA6, 128, .inl (fun _ => 0)))] := hD
  have hK : va_K (dC, dI) classes [(cA2, .int), (cA6, .byte)] s := hK
  refine W.widen (k := 3) (n := 144) (Nat.le_of_ble_eq_true rfl) (Nat.le_of_ble_eq_true rfl) ?_
  refine va_putF (D := (dC, dI)) (ci := 13) (v := .ref q5) (ty := (.array .byte)) (C := R_MCatalog) (T := F_MCatalog) (N := 13) hx hb hts (i_MCatalog _) t_MCatalog t_MCatalog_ok n_MCatalog hown hK hP hD hS 0 rfl rfl 3 (by decide) (hts _ (List.mem_cons_of_mem _ q_1989)) (fun _ h9 => h9) rfl hin rfl (by decide +kernel) rfl rfl (Nat.le_of_ble_eq_true rfl) d_MCatalog_init_26 (fun H locs hP hD hS => ?_)
  have hP : va_P (dC, dI) classes [(h0, .inr (13, [.int 0, .ref q1, .ref q3, .ref q5, .null, .null, .null, .null, .null, .int 0, .null, .null, .null])), (q1, .inl (cA2, 8, .inl (fun _ => 0))), (q5, .inl (cA6, 128, .inl (fun _ => 0)))] H := hP
  have hD : va_D A [(h0, .inr (13, [.int 0, .ref q1, .ref q3, .ref q5, .null, .null, .null, .null, .null, .int 0, .null, .null, .null])), (q1, .inl (cA2, 8, .inl (fun _ => 0))), (q5, .inl (cA6, 128, .inl (fun _ => 0)))] := hD
  have hP := hP.sub (ws' := [(h0, .inr (13, [.int 0, .ref q1, .ref q3, .ref q5, .null, .null, .null, .null, .null, .int 0, .null, .null, .null])), (q1, .inl (cA2, 8, .inl (fun _ => 0)))]) [0, 1] rfl
  have hD := hD.sub (ws' := [(h0, .inr (13, [.int 0, .ref q1, .ref q3, .ref q5, .null, .null, .null, .null, .null, .int 0, .null, .null, .null])), (q1, .inl (cA2, 8, .inl (fun _ => 0)))]) [0, 1] (by decide) rfl
  have hK := hK.sub (tys' := [(cA2, .int)]) [0] rfl
  refine lv_aload_n hx hb d_MCatalog_init_29 rfl (lv_at hl 0 rfl) ?_
  refine lv_bipush (v := 8) hx hb d_MCatalog_init_30 (by decide) ?_
  refine va_newa (atype := .int) (ty := .int) (a0 := (8, .inl (fun _ => 0))) (n := 8) (N' := 8) hx hb (hts _ (List.mem_cons_of_mem _ q_95)) rfl hK hP hD hS hA (fun _ => rfl) (by decide) (by decide) (by decide) (Nat.le_of_ble_eq_true rfl) (Nat.le_of_ble_eq_true rfl) d_MCatalog_init_32 (fun q7 cA8 H hK hP hD hS => ?_)
  have hP : va_P (dC, dI) classes [(h0, .inr (13, [.int 0, .ref q1, .ref q3, .ref q5, .null, .null, .null, .null, .null, .int 0, .null, .null, .null])), (q1, .inl (cA2, 8, .inl (fun _ => 0))), (q7, .inl (cA8, 8, .inl (fun _ => 0)))] H := hP
  have hD : va_D A [(h0, .inr (13, [.int 0, .ref q1, .ref q3, .ref q5, .null, .null, .null, .null, .null, .int 0, .null, .null, .null])), (q1, .inl (cA2, 8, .inl (fun _ => 0))), (q7, .inl (cA8, 8, .inl (fun _ => 0)))] := hD
  have hK : va_K (dC, dI) classes [(cA2, .int), (cA8, .int)] s := hK
  refine W.widen (k := 4) (n := 152) (Nat.le_of_ble_eq_true rfl) (Nat.le_of_ble_eq_true rfl) ?_
  refine va_putF (D := (dC, dI)) (ci := 13) (v := .ref q7) (ty := (.array .int)) (C := R_MCatalog) (T := F_MCatalog) (N := 13) hx hb hts (i_MCatalog _) t_MCatalog t_MCatalog_ok n_MCatalog hown hK hP hD hS 0 rfl rfl 4 (by decide) (hts _ (List.mem_cons_of_mem _ q_1990)) (fun _ h9 => h9) rfl hin rfl (by decide +kernel) rfl rfl (Nat.le_of_ble_eq_true rfl) d_MCatalog_init_34 (fun H locs hP hD hS => ?_)
  have hP : va_P (dC, dI) classes [(h0, .inr (13, [.int 0, .ref q1, .ref q3, .ref q5, .ref q7, .null, .null, .null, .null, .int 0, .null, .null, .null])), (q1, .inl (cA2, 8, .inl (fun _ => 0))), (q7, .inl (cA8, 8, .inl (fun _ => 0)))] H := hP
  have hD : va_D A [(h0, .inr (13, [.int 0, .ref q1, .ref q3, .ref q5, .ref q7, .null, .null, .null, .null, .int 0, .null, .null, .null])), (q1, .inl (cA2, 8, .inl (fun _ => 0))), (q7, .inl (cA8, 8, .inl (fun _ => 0)))] := hD
  have hP := hP.sub (ws' := [(h0, .inr (13, [.int 0, .ref q1, .ref q3, .ref q5, .ref q7, .null, .null, .null, .null, .int 0, .null, .null, .null])), (q1, .inl (cA2, 8, .inl (fun _ => 0)))]) [0, 1] rfl
  have hD := hD.sub (ws' := [(h0, .inr (13, [.int 0, .ref q1, .ref q3, .ref q5, .ref q7, .null, .null, .null, .null, .int 0, .null, .null, .null])), (q1, .inl (cA2, 8, .inl (fun _ => 0)))]) [0, 1] (by decide) rfl
  have hK := hK.sub (tys' := [(cA2, .int)]) [0] rfl
  refine lv_aload_n hx hb d_MCatalog_init_37 rfl (lv_at hl 0 rfl) ?_
  refine lv_sipush (v := 1024) hx hb d_MCatalog_init_38 (by decide) ?_
  refine va_newa (atype := .byte) (ty := .byte) (a0 := (1024, .inl (fun _ => 0))) (n := 1024) (N' := 1024) hx hb (hts _ (List.mem_cons_of_mem _ q_94)) rfl hK hP hD hS hA (fun _ => rfl) (by decide) (by decide) (by decide) (Nat.le_of_ble_eq_true rfl) (Nat.le_of_ble_eq_true rfl) d_MCatalog_init_41 (fun q9 cA10 H hK hP hD hS => ?_)
  have hP : va_P (dC, dI) classes [(h0, .inr (13, [.int 0, .ref q1, .ref q3, .ref q5, .ref q7, .null, .null, .null, .null, .int 0, .null, .null, .null])), (q1, .inl (cA2, 8, .inl (fun _ => 0))), (q9, .inl (cA10, 1024, .inl (fun _ => 0)))] H := hP
  have hD : va_D A [(h0, .inr (13, [.int 0, .ref q1, .ref q3, .ref q5, .ref q7, .null, .null, .null, .null, .int 0, .null, .null, .null])), (q1, .inl (cA2, 8, .inl (fun _ => 0))), (q9, .inl (cA10, 1024, .inl (fun _ => 0)))] := hD
  have hK : va_K (dC, dI) classes [(cA2, .int), (cA10, .byte)] s := hK
  refine W.widen (k := 5) (n := 1176) (Nat.le_of_ble_eq_true rfl) (Nat.le_of_ble_eq_true rfl) ?_
  refine va_putF (D := (dC, dI)) (ci := 13) (v := .ref q9) (ty := (.array .byte)) (C := R_MCatalog) (T := F_MCatalog) (N := 13) hx hb hts (i_MCatalog _) t_MCatalog t_MCatalog_ok n_MCatalog hown hK hP hD hS 0 rfl rfl 5 (by decide) (hts _ (List.mem_cons_of_mem _ q_1991)) (fun _ h9 => h9) rfl hin rfl (by decide +kernel) rfl rfl (Nat.le_of_ble_eq_true rfl) d_MCatalog_init_43 (fun H locs hP hD hS => ?_)
  have hP : va_P (dC, dI) classes [(h0, .inr (13, [.int 0, .ref q1, .ref q3, .ref q5, .ref q7, .ref q9, .null, .null, .null, .int 0, .null, .null, .null])), (q1, .inl (cA2, 8, .inl (fun _ => 0))), (q9, .inl (cA10, 1024, .inl (fun _ => 0)))] H := hP
  have hD : va_D A [(h0, .inr (13, [.int 0, .ref q1, .ref q3, .ref q5, .ref q7, .ref q9, .null, .null, .null, .int 0, .null, .null, .null])), (q1, .inl (cA2, 8, .inl (fun _ => 0))), (q9, .inl (cA10, 1024, .inl (fun _ => 0)))] := hD
  have hP := hP.sub (ws' := [(h0, .inr (13, [.int 0, .ref q1, .ref q3, .ref q5, .ref q7, .ref q9, .null, .null, .null, .int 0, .null, .null, .null])), (q1, .inl (cA2, 8, .inl (fun _ => 0)))]) [0, 1] rfl
  have hD := hD.sub (ws' := [(h0, .inr (13, [.int 0, .ref q1, .ref q3, .ref q5, .ref q7, .ref q9, .null, .null, .null, .int 0, .null, .null, .null])), (q1, .inl (cA2, 8, .inl (fun _ => 0)))]) [0, 1] (by decide) rfl
  have hK := hK.sub (tys' := [(cA2, .int)]) [0] rfl
  refine lv_aload_n hx hb d_MCatalog_init_46 rfl (lv_at hl 0 rfl) ?_
  refine lv_bipush (v := 64) hx hb d_MCatalog_init_47 (by decide) ?_
  refine va_newa (atype := .int) (ty := .int) (a0 := (64, .inl (fun _ => 0))) (n := 64) (N' := 64) hx hb (hts _ (List.mem_cons_of_mem _ q_95)) rfl hK hP hD hS hA (fun _ => rfl) (by decide) (by decide) (by decide) (Nat.le_of_ble_eq_true rfl) (Nat.le_of_ble_eq_true rfl) d_MCatalog_init_49 (fun q11 cA12 H hK hP hD hS => ?_)
  have hP : va_P (dC, dI) classes [(h0, .inr (13, [.int 0, .ref q1, .ref q3, .ref q5, .ref q7, .ref q9, .null, .null, .null, .int 0, .null, .null, .null])), (q1, .inl (cA2, 8, .inl (fun _ => 0))), (q11, .inl (cA12, 64, .inl (fun _ => 0)))] H := hP
  have hD : va_D A [(h0, .inr (13, [.int 0, .ref q1, .ref q3, .ref q5, .ref q7, .ref q9, .null, .null, .null, .int 0, .null, .null, .null])), (q1, .inl (cA2, 8, .inl (fun _ => 0))), (q11, .inl (cA12, 64, .inl (fun _ => 0)))] := hD
  have hK : va_K (dC, dI) classes [(cA2, .int), (cA12, .int)] s := hK
  refine W.widen (k := 6) (n := 1240) (Nat.le_of_ble_eq_true rfl) (Nat.le_of_ble_eq_true rfl) ?_
  refine va_putF (D := (dC, dI)) (ci := 13) (v := .ref q11) (ty := (.array .int)) (C := R_MCatalog) (T := F_MCatalog) (N := 13) hx hb hts (i_MCatalog _) t_MCatalog t_MCatalog_ok n_MCatalog hown hK hP hD hS 0 rfl rfl 6 (by decide) (hts _ (List.mem_cons_of_mem _ q_1992)) (fun _ h9 => h9) rfl hin rfl (by decide +kernel) rfl rfl (Nat.le_of_ble_eq_true rfl) d_MCatalog_init_51 (fun H locs hP hD hS => ?_)
  have hP : va_P (dC, dI) classes [(h0, .inr (13, [.int 0, .ref q1, .ref q3, .ref q5, .ref q7, .ref q9, .ref q11, .null, .null, .int 0, .null, .null, .null])), (q1, .inl (cA2, 8, .inl (fun _ => 0))), (q11, .inl (cA12, 64, .inl (fun _ => 0)))] H := hP
  have hD : va_D A [(h0, .inr (13, [.int 0, .ref q1, .ref q3, .ref q5, .ref q7, .ref q9, .ref q11, .null, .null, .int 0, .null, .null, .null])), (q1, .inl (cA2, 8, .inl (fun _ => 0))), (q11, .inl (cA12, 64, .inl (fun _ => 0)))] := hD
  have hP := hP.sub (ws' := [(h0, .inr (13, [.int 0, .ref q1, .ref q3, .ref q5, .ref q7, .ref q9, .ref q11, .null, .null, .int 0, .null, .null, .null])), (q1, .inl (cA2, 8, .inl (fun _ => 0)))]) [0, 1] rfl
  have hD := hD.sub (ws' := [(h0, .inr (13, [.int 0, .ref q1, .ref q3, .ref q5, .ref q7, .ref q9, .ref q11, .null, .null, .int 0, .null, .null, .null])), (q1, .inl (cA2, 8, .inl (fun _ => 0)))]) [0, 1] (by decide) rfl
  have hK := hK.sub (tys' := [(cA2, .int)]) [0] rfl
  refine lv_aload_n hx hb d_MCatalog_init_54 rfl (lv_at hl 0 rfl) ?_
  refine lv_bipush (v := 64) hx hb d_MCatalog_init_55 (by decide) ?_
  refine va_newa (atype := .int) (ty := .int) (a0 := (64, .inl (fun _ => 0))) (n := 64) (N' := 64) hx hb (hts _ (List.mem_cons_of_mem _ q_95)) rfl hK hP hD hS hA (fun _ => rfl) (by decide) (by decide) (by decide) (Nat.le_of_ble_eq_true rfl) (Nat.le_of_ble_eq_true rfl) d_MCatalog_init_57 (fun q13 cA14 H hK hP hD hS => ?_)
  have hP : va_P (dC, dI) classes [(h0, .inr (13, [.int 0, .ref q1, .ref q3, .ref q5, .ref q7, .ref q9, .ref q11, .null, .null, .int 0, .null, .null, .null])), (q1, .inl (cA2, 8, .inl (fun _ => 0))), (q13, .inl (cA14, 64, .inl (fun _ => 0)))] H := hP
  have hD : va_D A [(h0, .inr (13, [.int 0, .ref q1, .ref q3, .ref q5, .ref q7, .ref q9, .ref q11, .null, .null, .int 0, .null, .null, .null])), (q1, .inl (cA2, 8, .inl (fun _ => 0))), (q13, .inl (cA14, 64, .inl (fun _ => 0)))] := hD
  have hK : va_K (dC, dI) classes [(cA2, .int), (cA14, .int)] s := hK
  refine W.widen (k := 7) (n := 1304) (Nat.le_of_ble_eq_true rfl) (Nat.le_of_ble_eq_true rfl) ?_
  refine va_putF (D := (dC, dI)) (ci := 13) (v := .ref q13) (ty := (.array .int)) (C := R_MCatalog) (T := F_MCatalog) (N := 13) hx hb hts (i_MCatalog _) t_MCatalog t_MCatalog_ok n_MCatalog hown hK hP hD hS 0 rfl rfl 7 (by decide) (hts _ (List.mem_cons_of_mem _ q_1993)) (fun _ h9 => h9) rfl hin rfl (by decide +kernel) rfl rfl (Nat.le_of_ble_eq_true rfl) d_MCatalog_init_59 (fun H locs hP hD hS => ?_)
  have hP : va_P (dC, dI) classes [(h0, .inr (13, [.int 0, .ref q1, .ref q3, .ref q5, .ref q7, .ref q9, .ref q11, .ref q13, .null, .int 0, .null, .null, .null])), (q1, .inl (cA2, 8, .inl (fun _ => 0))), (q13, .inl (cA14, 64, .inl (fun _ => 0)))] H := hP
  have hD : va_D A [(h0, .inr (13, [.int 0, .ref q1, .ref q3, .ref q5, .ref q7, .ref q9, .ref q11, .ref q13, .null, .int 0, .null, .null, .null])), (q1, .inl (cA2, 8, .inl (fun _ => 0))), (q13, .inl (cA14, 64, .inl (fun _ => 0)))] := hD
  have hP := hP.sub (ws' := [(h0, .inr (13, [.int 0, .ref q1, .ref q3, .ref q5, .ref q7, .ref q9, .ref q11, .ref q13, .null, .int 0, .null, .null, .null])), (q1, .inl (cA2, 8, .inl (fun _ => 0)))]) [0, 1] rfl
  have hD := hD.sub (ws' := [(h0, .inr (13, [.int 0, .ref q1, .ref q3, .ref q5, .ref q7, .ref q9, .ref q11, .ref q13, .null, .int 0, .null, .null, .null])), (q1, .inl (cA2, 8, .inl (fun _ => 0)))]) [0, 1] (by decide) rfl
  have hK := hK.sub (tys' := [(cA2, .int)]) [0] rfl
  refine lv_aload_n hx hb d_MCatalog_init_62 rfl (lv_at hl 0 rfl) ?_
  refine lv_bipush (v := 64) hx hb d_MCatalog_init_63 (by decide) ?_
  refine va_newa (atype := .boolean) (ty := .boolean) (a0 := (64, .inl (fun _ => 0))) (n := 64) (N' := 64) hx hb (hts _ (List.mem_cons_of_mem _ q_96)) rfl hK hP hD hS hA (fun _ => rfl) (by decide) (by decide) (by decide) (Nat.le_of_ble_eq_true rfl) (Nat.le_of_ble_eq_true rfl) d_MCatalog_init_65 (fun q15 cA16 H hK hP hD hS => ?_)
  have hP : va_P (dC, dI) classes [(h0, .inr (13, [.int 0, .ref q1, .ref q3, .ref q5, .ref q7, .ref q9, .ref q11, .ref q13, .null, .int 0, .null, .null, .null])), (q1, .inl (cA2, 8, .inl (fun _ => 0))), (q15, .inl (cA16, 64, .inl (fun _ => 0)))] H := hP
  have hD : va_D A [(h0, .inr (13, [.int 0, .ref q1, .ref q3, .ref q5, .ref q7, .ref q9, .ref q11, .ref q13, .null, .int 0, .null, .null, .null])), (q1, .inl (cA2, 8, .inl (fun _ => 0))), (q15, .inl (cA16, 64, .inl (fun _ => 0)))] := hD
  have hK : va_K (dC, dI) classes [(cA2, .int), (cA16, .boolean)] s := hK
  refine W.widen (k := 8) (n := 1368) (Nat.le_of_ble_eq_true rfl) (Nat.le_of_ble_eq_true rfl) ?_
  refine va_putF (D := (dC, dI)) (ci := 13) (v := .ref q15) (ty := (.array .boolean)) (C := R_MCatalog) (T := F_MCatalog) (N := 13) hx hb hts (i_MCatalog _) t_MCatalog t_MCatalog_ok n_MCatalog hown hK hP hD hS 0 rfl rfl 8 (by decide) (hts _ (List.mem_cons_of_mem _ q_1994)) (fun _ h9 => h9) rfl hin rfl (by decide +kernel) rfl rfl (Nat.le_of_ble_eq_true rfl) d_MCatalog_init_67 (fun H locs hP hD hS => ?_)
  have hP : va_P (dC, dI) classes [(h0, .inr (13, [.int 0, .ref q1, .ref q3, .ref q5, .ref q7, .ref q9, .ref q11, .ref q13, .ref q15, .int 0, .null, .null, .null])), (q1, .inl (cA2, 8, .inl (fun _ => 0))), (q15, .inl (cA16, 64, .inl (fun _ => 0)))] H := hP
  have hD : va_D A [(h0, .inr (13, [.int 0, .ref q1, .ref q3, .ref q5, .ref q7, .ref q9, .ref q11, .ref q13, .ref q15, .int 0, .null, .null, .null])), (q1, .inl (cA2, 8, .inl (fun _ => 0))), (q15, .inl (cA16, 64, .inl (fun _ => 0)))] := hD
  have hP := hP.sub (ws' := [(h0, .inr (13, [.int 0, .ref q1, .ref q3, .ref q5, .ref q7, .ref q9, .ref q11, .ref q13, .ref q15, .int 0, .null, .null, .null])), (q1, .inl (cA2, 8, .inl (fun _ => 0)))]) [0, 1] rfl
  have hD := hD.sub (ws' := [(h0, .inr (13, [.int 0, .ref q1, .ref q3, .ref q5, .ref q7, .ref q9, .ref q11, .ref q13, .ref q15, .int 0, .null, .null, .null])), (q1, .inl (cA2, 8, .inl (fun _ => 0)))]) [0, 1] (by decide) rfl
  have hK := hK.sub (tys' := [(cA2, .int)]) [0] rfl
  refine lv_aload_n hx hb d_MCatalog_init_70 rfl (lv_at hl 0 rfl) ?_
  refine lv_bipush (v := 8) hx hb d_MCatalog_init_71 (by decide) ?_
  refine va_newa (atype := .int) (ty := .int) (a0 := (8, .inl (fun _ => 0))) (n := 8) (N' := 8) hx hb (hts _ (List.mem_cons_of_mem _ q_95)) rfl hK hP hD hS hA (fun _ => rfl) (by decide) (by decide) (by decide) (Nat.le_of_ble_eq_true rfl) (Nat.le_of_ble_eq_true rfl) d_MCatalog_init_73 (fun q17 cA18 H hK hP hD hS => ?_)
  have hP : va_P (dC, dI) classes [(h0, .inr (13, [.int 0, .ref q1, .ref q3, .ref q5, .ref q7, .ref q9, .ref q11, .ref q13, .ref q15, .int 0, .null, .null, .null])), (q1, .inl (cA2, 8, .inl (fun _ => 0))), (q17, .inl (cA18, 8, .inl (fun _ => 0)))] H := hP
  have hD : va_D A [(h0, .inr (13, [.int 0, .ref q1, .ref q3, .ref q5, .ref q7, .ref q9, .ref q11, .ref q13, .ref q15, .int 0, .null, .null, .null])), (q1, .inl (cA2, 8, .inl (fun _ => 0))), (q17, .inl (cA18, 8, .inl (fun _ => 0)))] := hD
  have hK : va_K (dC, dI) classes [(cA2, .int), (cA18, .int)] s := hK
  refine W.widen (k := 9) (n := 1376) (Nat.le_of_ble_eq_true rfl) (Nat.le_of_ble_eq_true rfl) ?_
  refine va_putF (D := (dC, dI)) (ci := 13) (v := .ref q17) (ty := (.array .int)) (C := R_MCatalog) (T := F_MCatalog) (N := 13) hx hb hts (i_MCatalog _) t_MCatalog t_MCatalog_ok n_MCatalog hown hK hP hD hS 0 rfl rfl 10 (by decide) (hts _ (List.mem_cons_of_mem _ q_1998)) (fun _ h9 => h9) rfl hin rfl (by decide +kernel) rfl rfl (Nat.le_of_ble_eq_true rfl) d_MCatalog_init_75 (fun H locs hP hD hS => ?_)
  have hP : va_P (dC, dI) classes [(h0, .inr (13, [.int 0, .ref q1, .ref q3, .ref q5, .ref q7, .ref q9, .ref q11, .ref q13, .ref q15, .int 0, .ref q17, .null, .null])), (q1, .inl (cA2, 8, .inl (fun _ => 0))), (q17, .inl (cA18, 8, .inl (fun _ => 0)))] H := hP
  have hD : va_D A [(h0, .inr (13, [.int 0, .ref q1, .ref q3, .ref q5, .ref q7, .ref q9, .ref q11, .ref q13, .ref q15, .int 0, .ref q17, .null, .null])), (q1, .inl (cA2, 8, .inl (fun _ => 0))), (q17, .inl (cA18, 8, .inl (fun _ => 0)))] := hD
  have hP := hP.sub (ws' := [(h0, .inr (13, [.int 0, .ref q1, .ref q3, .ref q5, .ref q7, .ref q9, .ref q11, .ref q13, .ref q15, .int 0, .ref q17, .null, .null])), (q1, .inl (cA2, 8, .inl (fun _ => 0)))]) [0, 1] rfl
  have hD := hD.sub (ws' := [(h0, .inr (13, [.int 0, .ref q1, .ref q3, .ref q5, .ref q7, .ref q9, .ref q11, .ref q13, .ref q15, .int 0, .ref q17, .null, .null])), (q1, .inl (cA2, 8, .inl (fun _ => 0)))]) [0, 1] (by decide) rfl
  have hK := hK.sub (tys' := [(cA2, .int)]) [0] rfl
  refine lv_aload_n hx hb d_MCatalog_init_78 rfl (lv_at hl 0 rfl) ?_
  refine lv_bipush (v := 8) hx hb d_MCatalog_init_79 (by decide) ?_
  refine va_newa (atype := .int) (ty := .int) (a0 := (8, .inl (fun _ => 0))) (n := 8) (N' := 8) hx hb (hts _ (List.mem_cons_of_mem _ q_95)) rfl hK hP hD hS hA (fun _ => rfl) (by decide) (by decide) (by decide) (Nat.le_of_ble_eq_true rfl) (Nat.le_of_ble_eq_true rfl) d_MCatalog_init_81 (fun q19 cA20 H hK hP hD hS => ?_)
  have hP : va_P (dC, dI) classes [(h0, .inr (13, [.int 0, .ref q1, .ref q3, .ref q5, .ref q7, .ref q9, .ref q11, .ref q13, .ref q15, .int 0, .ref q17, .null, .null])), (q1, .inl (cA2, 8, .inl (fun _ => 0))), (q19, .inl (cA20, 8, .inl (fun _ => 0)))] H := hP
  have hD : va_D A [(h0, .inr (13, [.int 0, .ref q1, .ref q3, .ref q5, .ref q7, .ref q9, .ref q11, .ref q13, .ref q15, .int 0, .ref q17, .null, .null])), (q1, .inl (cA2, 8, .inl (fun _ => 0))), (q19, .inl (cA20, 8, .inl (fun _ => 0)))] := hD
  have hK : va_K (dC, dI) classes [(cA2, .int), (cA20, .int)] s := hK
  refine W.widen (k := 10) (n := 1384) (Nat.le_of_ble_eq_true rfl) (Nat.le_of_ble_eq_true rfl) ?_
  refine va_putF (D := (dC, dI)) (ci := 13) (v := .ref q19) (ty := (.array .int)) (C := R_MCatalog) (T := F_MCatalog) (N := 13) hx hb hts (i_MCatalog _) t_MCatalog t_MCatalog_ok n_MCatalog hown hK hP hD hS 0 rfl rfl 11 (by decide) (hts _ (List.mem_cons_of_mem _ q_2000)) (fun _ h9 => h9) rfl hin rfl (by decide +kernel) rfl rfl (Nat.le_of_ble_eq_true rfl) d_MCatalog_init_83 (fun H locs hP hD hS => ?_)
  have hP : va_P (dC, dI) classes [(h0, .inr (13, [.int 0, .ref q1, .ref q3, .ref q5, .ref q7, .ref q9, .ref q11, .ref q13, .ref q15, .int 0, .ref q17, .ref q19, .null])), (q1, .inl (cA2, 8, .inl (fun _ => 0))), (q19, .inl (cA20, 8, .inl (fun _ => 0)))] H := hP
  have hD : va_D A [(h0, .inr (13, [.int 0, .ref q1, .ref q3, .ref q5, .ref q7, .ref q9, .ref q11, .ref q13, .ref q15, .int 0, .ref q17, .ref q19, .null])), (q1, .inl (cA2, 8, .inl (fun _ => 0))), (q19, .inl (cA20, 8, .inl (fun _ => 0)))] := hD
  have hP := hP.sub (ws' := [(h0, .inr (13, [.int 0, .ref q1, .ref q3, .ref q5, .ref q7, .ref q9, .ref q11, .ref q13, .ref q15, .int 0, .ref q17, .ref q19, .null])), (q1, .inl (cA2, 8, .inl (fun _ => 0)))]) [0, 1] rfl
  have hD := hD.sub (ws' := [(h0, .inr (13, [.int 0, .ref q1, .ref q3, .ref q5, .ref q7, .ref q9, .ref q11, .ref q13, .ref q15, .int 0, .ref q17, .ref q19, .null])), (q1, .inl (cA2, 8, .inl (fun _ => 0)))]) [0, 1] (by decide) rfl
  have hK := hK.sub (tys' := [(cA2, .int)]) [0] rfl
  refine lv_aload_n hx hb d_MCatalog_init_86 rfl (lv_at hl 0 rfl) ?_
  refine lv_bipush (v := 8) hx hb d_MCatalog_init_87 (by decide) ?_
  refine va_newa (atype := .boolean) (ty := .boolean) (a0 := (8, .inl (fun _ => 0))) (n := 8) (N' := 8) hx hb (hts _ (List.mem_cons_of_mem _ q_96)) rfl hK hP hD hS hA (fun _ => rfl) (by decide) (by decide) (by decide) (Nat.le_of_ble_eq_true rfl) (Nat.le_of_ble_eq_true rfl) d_MCatalog_init_89 (fun q21 cA22 H hK hP hD hS => ?_)
  have hP : va_P (dC, dI) classes [(h0, .inr (13, [.int 0, .ref q1, .ref q3, .ref q5, .ref q7, .ref q9, .ref q11, .ref q13, .ref q15, .int 0, .ref q17, .ref q19, .null])), (q1, .inl (cA2, 8, .inl (fun _ => 0))), (q21, .inl (cA22, 8, .inl (fun _ => 0)))] H := hP
  have hD : va_D A [(h0, .inr (13, [.int 0, .ref q1, .ref q3, .ref q5, .ref q7, .ref q9, .ref q11, .ref q13, .ref q15, .int 0, .ref q17, .ref q19, .null])), (q1, .inl (cA2, 8, .inl (fun _ => 0))), (q21, .inl (cA22, 8, .inl (fun _ => 0)))] := hD
  have hK : va_K (dC, dI) classes [(cA2, .int), (cA22, .boolean)] s := hK
  refine W.widen (k := 11) (n := 1392) (Nat.le_of_ble_eq_true rfl) (Nat.le_of_ble_eq_true rfl) ?_
  refine va_putF (D := (dC, dI)) (ci := 13) (v := .ref q21) (ty := (.array .boolean)) (C := R_MCatalog) (T := F_MCatalog) (N := 13) hx hb hts (i_MCatalog _) t_MCatalog t_MCatalog_ok n_MCatalog hown hK hP hD hS 0 rfl rfl 12 (by decide) (hts _ (List.mem_cons_of_mem _ q_2002)) (fun _ h9 => h9) rfl hin rfl (by decide +kernel) rfl rfl (Nat.le_of_ble_eq_true rfl) d_MCatalog_init_91 (fun H locs hP hD hS => ?_)
  have hP : va_P (dC, dI) classes [(h0, .inr (13, [.int 0, .ref q1, .ref q3, .ref q5, .ref q7, .ref q9, .ref q11, .ref q13, .ref q15, .int 0, .ref q17, .ref q19, .ref q21])), (q1, .inl (cA2, 8, .inl (fun _ => 0))), (q21, .inl (cA22, 8, .inl (fun _ => 0)))] H := hP
  have hD : va_D A [(h0, .inr (13, [.int 0, .ref q1, .ref q3, .ref q5, .ref q7, .ref q9, .ref q11, .ref q13, .ref q15, .int 0, .ref q17, .ref q19, .ref q21])), (q1, .inl (cA2, 8, .inl (fun _ => 0))), (q21, .inl (cA22, 8, .inl (fun _ => 0)))] := hD
  have hP := hP.sub (ws' := [(h0, .inr (13, [.int 0, .ref q1, .ref q3, .ref q5, .ref q7, .ref q9, .ref q11, .ref q13, .ref q15, .int 0, .ref q17, .ref q19, .ref q21])), (q1, .inl (cA2, 8, .inl (fun _ => 0)))]) [0, 1] rfl
  have hD := hD.sub (ws' := [(h0, .inr (13, [.int 0, .ref q1, .ref q3, .ref q5, .ref q7, .ref q9, .ref q11, .ref q13, .ref q15, .int 0, .ref q17, .ref q19, .ref q21])), (q1, .inl (cA2, 8, .inl (fun _ => 0)))]) [0, 1] (by decide) rfl
  have hK := hK.sub (tys' := [(cA2, .int)]) [0] rfl
  have hP9 := hP.sub (ws' := [(h0, .inr (13, [.int 0, .ref q1, .ref q3, .ref q5, .ref q7, .ref q9, .ref q11, .ref q13, .ref q15, .int 0, .ref q17, .ref q19, .ref q21])), (q1, .inl (cA2, 8, .inl (fun _ => 0)))]) [0, 1] rfl
  have hD9 := hD.sub (ws' := [(h0, .inr (13, [.int 0, .ref q1, .ref q3, .ref q5, .ref q7, .ref q9, .ref q11, .ref q13, .ref q15, .int 0, .ref q17, .ref q19, .ref q21])), (q1, .inl (cA2, 8, .inl (fun _ => 0)))]) [0, 1] (by decide) rfl
  have hK9 := hK.sub (tys' := [(cA2, .int)]) [0] rfl
  refine W.widen (k := 11) (n := 1392) (Nat.le_of_ble_eq_true rfl) (Nat.le_of_ble_eq_true rfl) ?_
  exact W.vret hx hb hr (fun t ht hW => ⟨⟨(), rfl, trivial, q1, q3, q5, q7, q9, q11, q13, q15, q17, q19, q21, cA2, by rw [ht]; exact hP9, va_K.moved hW.alike hK9, hD9⟩, hS.F ht⟩) hS.2.2 d_MCatalog_init_94
set_option maxHeartbeats 4000000 in
set_option maxRecDepth 100000 in
theorem c_MSpan_init (l : Launch) (dC : Nat → ClassId) (dI : Nat → Nat → Nat) (sz : Nat) (h0 : Nat) : Met l y_MSpan_init w_MSpan_init ({ frames := 2, cells := 5, slots := 18, locals := 33 }) (va_Pc [.ref h0] (fun U => U.heap.size = sz ∧ va_P (dC, dI) classes [(h0, .inr (15, [.int 0, .int 0, .int 0, .int 0, .int 0, .int 0, .int 0, .null]))] U.heap ∧ va_K (dC, dI) classes [] U ∧ va_D (fun _ => True) [(h0, .inr (15, [.int 0, .int 0, .int 0, .int 0, .int 0, .int 0, .int 0, .null]))] ∧ bx_N U)) (va_Qv (fun _ : Unit => True) (fun (_ : Unit) t => ∃ e1 : Nat, va_P (dC, dI) classes [(h0, .inr (15, [.int 0, .int (-1), .int 0, .int 0, .int 0, .int 0, .int 0, .ref e1]))] t.heap ∧ va_K (dC, dI) classes [] t ∧ va_D (va_A [(h0, .inr (15, [.int 0, .int 0, .int 0, .int 0, .int 0, .int 0, .int 0, .null]))] sz) [(h0, .inr (15, [.int 0, .int (-1), .int 0, .int 0, .int 0, .int 0, .int 0, .ref e1]))]) (va_A [(h0, .inr (15, [.int 0, .int 0, .int 0, .int 0, .int 0, .int 0, .int 0, .null]))] sz)) 5 18 (va_A [(h0, .inr (15, [.int 0, .int 0, .int 0, .int 0, .int 0, .int 0, .int 0, .null]))] sz) := by
  refine Met.ofW (cc := b_MSpan_init) (maxL := 1) (ret := none) (by decide) rfl ?_
  intro p e s m args below meth c s₁ B hml hv
  obtain ⟨rfl, hsz, hP, hK, hD0, hN⟩ := hv
  have hx := B.exec
  have hb := B.bytes
  have hr := B.returns
  have hts := atoms_spec (ws := w_MSpan_init) B.pre
  have hown : s.vm.findClass R_MSpan = some m.cls := findClass_of_methodNamed B.named
  have hlocks := B.notSynchronized
  have hin : meth.name = "<init>" := (name_of_methodNamed B.named B.method).1
  subst hsz
  have hD := hD0.self (sz := s.heap.size)
  generalize hAe : va_A [(h0, .inr (15, [.int 0, .int 0, .int 0, .int 0, .int 0, .int 0, .int 0, .null]))] s.heap.size = A at hD ⊢
  have hA : ∀ q : Nat, s.heap.size ≤ q → A q := fun q h => by rw [← hAe]; exact Or.inr h
  have hS : va_S A s.heap s.heap [] := va_S.rf
  have hP : va_P (dC, dI) classes [(h0, .inr (15, [.int 0, .int 0, .int 0, .int 0, .int 0, .int 0, .int 0, .null]))] s.heap := hP
  have hl := lv_entry ([.ref h0]) (n := 1) (Nat.le_of_ble_eq_true rfl)
  rw [lg_entry_eq]
  generalize (lg_sl ([.ref h0]) ++ List.replicate (1 - (lg_sl ([.ref h0])).length) Slot.unset).toArray = ls at hl ⊢
  have hl : lv_has ls 1 [(0, .ref h0)] := hl
  obtain ⟨H, hH⟩ : ∃ H : Heap, s.heap = H := ⟨_, rfl⟩
  have hP : va_P (dC, dI) classes [(h0, .inr (15, [.int 0, .int 0, .int 0, .int 0, .int 0, .int 0, .int 0, .null]))] H := by rw [← hH]; exact hP
  have hS : va_S A s.heap H [] := by rw [← hH]; exact va_S.rf
  refine bx_heap hH ?_
  refine lv_aload_n hx hb d_MSpan_init_0 rfl (lv_at hl 0 rfl) ?_
  refine W.objInit hx hb hown (hts _ (List.mem_cons_of_mem _ q_2049)) (hts _ (List.mem_cons_of_mem _ q_35)) (hts _ (List.mem_cons_of_mem _ q_36)) rfl (by rw [hml]; exact hl.1) rfl d_MSpan_init_1 (Nat.le_of_ble_eq_true rfl) (Nat.le_of_ble_eq_true rfl) ?_
  refine W.eq (g2 := F0 m 4 ls []) rfl ?_
  refine lv_aload_n hx hb d_MSpan_init_4 rfl (lv_at hl 0 rfl) ?_
  refine lv_iconst (v := -1) hx hb d_MSpan_init_5 (by decide) ?_
  refine va_put (D := (dC, dI)) (ci := 15) (v := .int (-1)) (ty := .int) (C := R_MSpan) (T := F_MSpan) (N := 8) hx hb hts (i_MSpan _) t_MSpan t_MSpan_ok n_MSpan hown hK hP hD hS 0 rfl rfl 1 (by decide) (hts _ (List.mem_cons_of_mem _ q_2078)) (fun _ h9 => h9) rfl (by decide +kernel) rfl rfl (Nat.le_of_ble_eq_true rfl) d_MSpan_init_6 (fun H locs hP hD hS => ?_)
  have hP : va_P (dC, dI) classes [(h0, .inr (15, [.int 0, .int (-1), .int 0, .int 0, .int 0, .int 0, .int 0, .null]))] H := hP
  have hD : va_D A [(h0, .inr (15, [.int 0, .int (-1), .int 0, .int 0, .int 0, .int 0, .int 0, .null]))] := hD
  refine lv_aload_n hx hb d_MSpan_init_9 rfl (lv_at hl 0 rfl) ?_
  refine va_new (ci := 14) (fs := [.null, .null, .null, .null]) (C := R_MCells) (T := F_MCells) (N := 4) hx hb hts (i_MCells _) t_MCells t_MCells_ok hown (hts _ (List.mem_cons_of_mem _ q_2050)) (hts _ (List.mem_cons_of_mem _ q_2051)) (hts _ (List.mem_cons_of_mem _ q_18)) hK hP hD hS hA rfl (fs_MCells) (Nat.le_of_ble_eq_true rfl) (Nat.le_of_ble_eq_true rfl) d_MSpan_init_10 (fun q1 H hP hD hS => ?_)
  have hP : va_P (dC, dI) classes [(h0, .inr (15, [.int 0, .int (-1), .int 0, .int 0, .int 0, .int 0, .int 0, .null])), (q1, .inr (14, [.null, .null, .null, .null]))] H := hP
  have hD : va_D A [(h0, .inr (15, [.int 0, .int (-1), .int 0, .int 0, .int 0, .int 0, .int 0, .null])), (q1, .inr (14, [.null, .null, .null, .null]))] := hD
  refine W.widen (k := 1) (n := 4) (Nat.le_of_ble_eq_true rfl) (Nat.le_of_ble_eq_true rfl) ?_
  refine lv_dup hx hb d_MSpan_init_13 rfl ?_
  refine lv_iconst (v := 2) hx hb d_MSpan_init_14 (by decide) ?_
  have hPc := hP.sub (ws' := [(q1, .inr (14, [.null, .null, .null, .null]))]) [1] rfl
  have hDc := hD.sub (ws' := [(q1, .inr (14, [.null, .null, .null, .null]))]) [1] (by decide) rfl
  have hKc := hK.sub (tys' := []) [] rfl
  have hFc := va_free (wc := [(q1, .inr (14, [.null, .null, .null, .null]))]) hD hS hA [1] rfl
  refine va_callv (va_runI (As := [.int 2]) (rest := [.ref q1, .ref h0]) ⟨hx, hb, hml, hown, hts⟩ (c_MCells_init_2 l dC dI H.size q1) (cwI 1 hts (gG_good q_2054) rfl rfl rfl (hts _ (List.mem_cons_of_mem _ q_18)) (hts _ (List.mem_cons_of_mem _ q_2052)) (hts _ (List.mem_cons_of_mem _ q_2053)) rfl (by decide +kernel) ⟨Nat.le_of_ble_eq_true rfl, Nat.le_of_ble_eq_true rfl⟩) ⟨fun a U g mk q => by obtain ⟨q0, q1, qP, qK, qD, qN⟩ := q; exact ⟨q0, q1, qP, va_K.moved (u := U) (U := U.calling g mk a) (Vm.Alike.refl U.vm) qK, qD, bx_N.same rfl qN⟩, fun U hU hW => ⟨rfl, by rw [hU], by rw [hU]; exact hPc, va_K.moved hW.alike hKc, hDc.weaken (fun _ _ _ _ => trivial), bx_N.warm hW hN⟩⟩ rfl rfl hl.1 rfl (lv_room (Nat.le_of_ble_eq_true rfl)) d_MSpan_init_15 ⟨Nat.le_of_ble_eq_true rfl, Nat.le_of_ble_eq_true rfl⟩) hS (fun q _ h => hFc q h) hFc (fun u t H1 locs ht hvm hw hB hz1 hk1 hS => ?_)
  obtain ⟨hP1, hK1, hD1⟩ := hB
  rw [ht] at hP1
  have hK1 := va_K.moved hvm.symm hK1
  obtain ⟨hP, hD⟩ := va_join (wr := [(h0, .inr (15, [.int 0, .int (-1), .int 0, .int 0, .int 0, .int 0, .int 0, .null]))]) (w1 := []) hP hD [1] [0] rfl rfl (by decide) (by decide) hk1 hFc hP1 hD1
  have hK := (hK.sub (tys' := []) [] rfl).app hK1
  generalize H1 = H at hP hS ⊢
  have hP : va_P (dC, dI) classes [(h0, .inr (15, [.int 0, .int (-1), .int 0, .int 0, .int 0, .int 0, .int 0, .null]))] H := hP
  have hD : va_D A [(h0, .inr (15, [.int 0, .int (-1), .int 0, .int 0, .int 0, .int 0, .int 0, .null]))] := hD
  have hK : va_K (dC, dI) classes [] s := hK
  refine W.widen (k := 5) (n := 18) (Nat.le_of_ble_eq_true rfl) (Nat.le_of_ble_eq_true rfl) ?_
  refine va_putF (D := (dC, dI)) (ci := 15) (v := .ref q1) (ty := (.object "SessionServerModel$Cells")) (C := R_MSpan) (T := F_MSpan) (N := 8) hx hb hts (i_MSpan _) t_MSpan t_MSpan_ok n_MSpan hown hK hP hD hS 0 rfl rfl 7 (by decide) (hts _ (List.mem_cons_of_mem _ q_2087)) (fun _ h9 => h9) rfl hin rfl (by decide +kernel) rfl rfl (Nat.le_of_ble_eq_true rfl) d_MSpan_init_18 (fun H locs hP hD hS => ?_)
  have hP : va_P (dC, dI) classes [(h0, .inr (15, [.int 0, .int (-1), .int 0, .int 0, .int 0, .int 0, .int 0, .ref q1]))] H := hP
  have hD : va_D A [(h0, .inr (15, [.int 0, .int (-1), .int 0, .int 0, .int 0, .int 0, .int 0, .ref q1]))] := hD
  have hP9 := hP.sub (ws' := [(h0, .inr (15, [.int 0, .int (-1), .int 0, .int 0, .int 0, .int 0, .int 0, .ref q1]))]) [0] rfl
  have hD9 := hD.sub (ws' := [(h0, .inr (15, [.int 0, .int (-1), .int 0, .int 0, .int 0, .int 0, .int 0, .ref q1]))]) [0] (by decide) rfl
  have hK9 := hK.sub (tys' := []) [] rfl
  refine W.widen (k := 5) (n := 18) (Nat.le_of_ble_eq_true rfl) (Nat.le_of_ble_eq_true rfl) ?_
  exact W.vret hx hb hr (fun t ht hW => ⟨⟨(), rfl, trivial, q1, by rw [ht]; exact hP9, va_K.moved hW.alike hK9, hD9⟩, hS.F ht⟩) hS.2.2 d_MSpan_init_21
set_option maxHeartbeats 4000000 in
set_option maxRecDepth 100000 in
theorem c_MWork_init (l : Launch) (dC : Nat → ClassId) (dI : Nat → Nat → Nat) (sz : Nat) (h0 : Nat) (h1 : Nat) : Met l y_MWork_init w_MWork_init ({ frames := 2, cells := 22, slots := 15229, locals := 33 }) (va_Pc [.ref h0, .ref h1] (fun U => U.heap.size = sz ∧ va_P (dC, dI) classes [(h0, .inr (17, [.null, .null, .null, .null, .null, .null, .null, .null, .null, .int 0, .null, .null, .int 0, .null, .null]))] U.heap ∧ va_K (dC, dI) classes [] U ∧ va_D (fun _ => True) [(h0, .inr (17, [.null, .null, .null, .null, .null, .null, .null, .null, .null, .int 0, .null, .null, .int 0, .null, .null]))] ∧ bx_N U)) (va_Qv (fun _ : Unit => True) (fun (_ : Unit) t => va_P (dC, dI) classes [] t.heap ∧ va_K (dC, dI) classes [] t ∧ va_D (va_A [(h0, .inr (17, [.null, .null, .null, .null, .null, .null, .null, .null, .null, .int 0, .null, .null, .int 0, .null, .null]))] sz) []) (va_A [(h0, .inr (17, [.null, .null, .null, .null, .null, .null, .null, .null, .null, .int 0, .null, .null, .int 0, .null, .null]))] sz)) 22 15229 (va_A [(h0, .inr (17, [.null, .null, .null, .null, .null, .null, .null, .null, .null, .int 0, .null, .null, .int 0, .null, .null]))] sz) := by
  refine Met.ofW (cc := b_MWork_init) (maxL := 2) (ret := none) (by decide) rfl ?_
  intro p e s m args below meth c s₁ B hml hv
  obtain ⟨rfl, hsz, hP, hK, hD0, hN⟩ := hv
  have hx := B.exec
  have hb := B.bytes
  have hr := B.returns
  have hts := atoms_spec (ws := w_MWork_init) B.pre
  have hown : s.vm.findClass R_MWork = some m.cls := findClass_of_methodNamed B.named
  have hlocks := B.notSynchronized
  have hin : meth.name = "<init>" := (name_of_methodNamed B.named B.method).1
  subst hsz
  have hD := hD0.self (sz := s.heap.size)
  generalize hAe : va_A [(h0, .inr (17, [.null, .null, .null, .null, .null, .null, .null, .null, .null, .int 0, .null, .null, .int 0, .null, .null]))] s.heap.size = A at hD ⊢
  have hA : ∀ q : Nat, s.heap.size ≤ q → A q := fun q h => by rw [← hAe]; exact Or.inr h
  have hS : va_S A s.heap s.heap [] := va_S.rf
  have hP : va_P (dC, dI) classes [(h0, .inr (17, [.null, .null, .null, .null, .null, .null, .null, .null, .null, .int 0, .null, .null, .int 0, .null, .null]))] s.heap := hP
  have hl := lv_entry ([.ref h0, .ref h1]) (n := 2) (Nat.le_of_ble_eq_true rfl)
  rw [lg_entry_eq]
  generalize (lg_sl ([.ref h0, .ref h1]) ++ List.replicate (2 - (lg_sl ([.ref h0, .ref h1])).length) Slot.unset).toArray = ls at hl ⊢
  have hl : lv_has ls 2 [(0, .ref h0), (1, .ref h1)] := hl
  obtain ⟨H, hH⟩ : ∃ H : Heap, s.heap = H := ⟨_, rfl⟩
  have hP : va_P (dC, dI) classes [(h0, .inr (17, [.null, .null, .null, .null, .null, .null, .null, .null, .null, .int 0, .null, .null, .int 0, .null, .null]))] H := by rw [← hH]; exact hP
  have hS : va_S A s.heap H [] := by rw [← hH]; exact va_S.rf
  refine bx_heap hH ?_
  refine lv_aload_n hx hb d_MWork_init_0 rfl (lv_at hl 0 rfl) ?_
  refine W.objInit hx hb hown (hts _ (List.mem_cons_of_mem _ q_2163)) (hts _ (List.mem_cons_of_mem _ q_35)) (hts _ (List.mem_cons_of_mem _ q_36)) rfl (by rw [hml]; exact hl.1) rfl d_MWork_init_1 (Nat.le_of_ble_eq_true rfl) (Nat.le_of_ble_eq_true rfl) ?_
  refine W.eq (g2 := F0 m 4 ls []) rfl ?_
  refine lv_aload_n hx hb d_MWork_init_4 rfl (lv_at hl 0 rfl) ?_
  refine lv_iconst (v := 3) hx hb d_MWork_init_5 (by decide) ?_
  refine va_newa (atype := .int) (ty := .int) (a0 := (3, .inl (fun _ => 0))) (n := 3) (N' := 3) hx hb (hts _ (List.mem_cons_of_mem _ q_95)) rfl hK hP hD hS hA (fun _ => rfl) (by decide) (by decide) (by decide) (Nat.le_of_ble_eq_true rfl) (Nat.le_of_ble_eq_true rfl) d_MWork_init_6 (fun q1 cA2 H hK hP hD hS => ?_)
  have hP : va_P (dC, dI) classes [(h0, .inr (17, [.null, .null, .null, .null, .null, .null, .null, .null, .null, .int 0, .null, .null, .int 0, .null, .null])), (q1, .inl (cA2, 3, .inl (fun _ => 0)))] H := hP
  have hD : va_D A [(h0, .inr (17, [.null, .null, .null, .null, .null, .null, .null, .null, .null, .int 0, .null, .null, .int 0, .null, .null])), (q1, .inl (cA2, 3, .inl (fun _ => 0)))] := hD
  have hK : va_K (dC, dI) classes [(cA2, .int)] s := hK
  refine W.widen (k := 1) (n := 3) (Nat.le_of_ble_eq_true rfl) (Nat.le_of_ble_eq_true rfl) ?_
  refine va_putF (D := (dC, dI)) (ci := 17) (v := .ref q1) (ty := (.array .int)) (C := R_MWork) (T := F_MWork) (N := 15) hx hb hts (i_MWork _) t_MWork t_MWork_ok n_MWork hown hK hP hD hS 0 rfl rfl 3 (by decide) (hts _ (List.mem_cons_of_mem _ q_2169)) (fun _ h9 => h9) rfl hin rfl (by decide +kernel) rfl rfl (Nat.le_of_ble_eq_true rfl) d_MWork_init_8 (fun H locs hP hD hS => ?_)
  have hP : va_P (dC, dI) classes [(h0, .inr (17, [.null, .null, .null, .ref q1, .null, .null, .null, .null, .null, .int 0, .null, .null, .int 0, .null, .null])), (q1, .inl (cA2, 3, .inl (fun _ => 0)))] H := hP
  have hD : va_D A [(h0, .inr (17, [.null, .null, .null, .ref q1, .null, .null, .null, .null, .null, .int 0, .null, .null, .int 0, .null, .null])), (q1, .inl (cA2, 3, .inl (fun _ => 0)))] := hD
  have hP := hP.sub (ws' := [(h0, .inr (17, [.null, .null, .null, .ref q1, .null, .null, .null, .null, .null, .int 0, .null, .null, .int 0, .null, .null]))]) [0] rfl
  have hD := hD.sub (ws' := [(h0, .inr (17, [.null, .null, .null, .ref q1, .null, .null, .null, .null, .null, .int 0, .null, .null, .int 0, .null, .null]))]) [0] (by decide) rfl
  have hK := hK.sub (tys' := []) [] rfl
  refine lv_aload_n hx hb d_MWork_init_11 rfl (lv_at hl 0 rfl) ?_
  refine va_new (ci := 14) (fs := [.null, .null, .null, .null]) (C := R_MCells) (T := F_MCells) (N := 4) hx hb hts (i_MCells _) t_MCells t_MCells_ok hown (hts _ (List.mem_cons_of_mem _ q_2164)) (hts _ (List.mem_cons_of_mem _ q_2051)) (hts _ (List.mem_cons_of_mem _ q_18)) hK hP hD hS hA rfl (fs_MCells) (Nat.le_of_ble_eq_true rfl) (Nat.le_of_ble_eq_true rfl) d_MWork_init_12 (fun q3 H hP hD hS => ?_)
  have hP : va_P (dC, dI) classes [(h0, .inr (17, [.null, .null, .null, .ref q1, .null, .null, .null, .null, .null, .int 0, .null, .null, .int 0, .null, .null])), (q3, .inr (14, [.null, .null, .null, .null]))] H := hP
  have hD : va_D A [(h0, .inr (17, [.null, .null, .null, .ref q1, .null, .null, .null, .null, .null, .int 0, .null, .null, .int 0, .null, .null])), (q3, .inr (14, [.null, .null, .null, .null]))] := hD
  refine W.widen (k := 2) (n := 7) (Nat.le_of_ble_eq_true rfl) (Nat.le_of_ble_eq_true rfl) ?_
  refine lv_dup hx hb d_MWork_init_15 rfl ?_
  refine lv_sipush (v := 200) hx hb d_MWork_init_16 (by decide) ?_
  have hPc := hP.sub (ws' := [(q3, .inr (14, [.null, .null, .null, .null]))]) [1] rfl
  have hDc := hD.sub (ws' := [(q3, .inr (14, [.null, .null, .null, .null]))]) [1] (by decide) rfl
  have hKc := hK.sub (tys' := []) [] rfl
  have hFc := va_free (wc := [(q3, .inr (14, [.null, .null, .null, .null]))]) hD hS hA [1] rfl
  refine va_callv (va_runI (As := [.int 200]) (rest := [.ref q3, .ref h0]) ⟨hx, hb, hml, hown, hts⟩ (c_MCells_init_200 l dC dI H.size q3) (cwI 1 hts (gG_good q_2054) rfl rfl rfl (hts _ (List.mem_cons_of_mem _ q_18)) (hts _ (List.mem_cons_of_mem _ q_2165)) (hts _ (List.mem_cons_of_mem _ q_2053)) rfl (by decide +kernel) ⟨Nat.le_of_ble_eq_true rfl, Nat.le_of_ble_eq_true rfl⟩) ⟨fun a U g mk q => by obtain ⟨q0, q1, qP, qK, qD, qN⟩ := q; exact ⟨q0, q1, qP, va_K.moved (u := U) (U := U.calling g mk a) (Vm.Alike.refl U.vm) qK, qD, bx_N.same rfl qN⟩, fun U hU hW => ⟨rfl, by rw [hU], by rw [hU]; exact hPc, va_K.moved hW.alike hKc, hDc.weaken (fun _ _ _ _ => trivial), bx_N.warm hW hN⟩⟩ rfl rfl hl.1 rfl (lv_room (Nat.le_of_ble_eq_true rfl)) d_MWork_init_19 ⟨Nat.le_of_ble_eq_true rfl, Nat.le_of_ble_eq_true rfl⟩) hS (fun q _ h => hFc q h) hFc (fun u t H1 locs ht hvm hw hB hz1 hk1 hS => ?_)
  obtain ⟨hP1, hK1, hD1⟩ := hB
  rw [ht] at hP1
  have hK1 := va_K.moved hvm.symm hK1
  obtain ⟨hP, hD⟩ := va_join (wr := [(h0, .inr (17, [.null, .null, .null, .ref q1, .null, .null, .null, .null, .null, .int 0, .null, .null, .int 0, .null, .null]))]) (w1 := []) hP hD [1] [0] rfl rfl (by decide) (by decide) hk1 hFc hP1 hD1
  have hK := (hK.sub (tys' := []) [] rfl).app hK1
  generalize H1 = H at hP hS ⊢
  have hP : va_P (dC, dI) classes [(h0, .inr (17, [.null, .null, .null, .ref q1, .null, .null, .null, .null, .null, .int 0, .null, .null, .int 0, .null, .null]))] H := hP
  have hD : va_D A [(h0, .inr (17, [.null, .null, .null, .ref q1, .null, .null, .null, .null, .null, .int 0, .null, .null, .int 0, .null, .null]))] := hD
  have hK : va_K (dC, dI) classes [] s := hK
  refine W.widen (k := 6) (n := 1407) (Nat.le_of_ble_eq_true rfl) (Nat.le_of_ble_eq_true rfl) ?_
  refine va_putF (D := (dC, dI)) (ci := 17) (v := .ref q3) (ty := (.object "SessionServerModel$Cells")) (C := R_MWork) (T := F_MWork) (N := 15) hx hb hts (i_MWork _) t_MWork t_MWork_ok n_MWork hown hK hP hD hS 0 rfl rfl 4 (by decide) (hts _ (List.mem_cons_of_mem _ q_2171)) (fun _ h9 => h9) rfl hin rfl (by decide +kernel) rfl rfl (Nat.le_of_ble_eq_true rfl) d_MWork_init_22 (fun H locs hP hD hS => ?_)
  have hP : va_P (dC, dI) classes [(h0, .inr (17, [.null, .null, .null, .ref q1, .ref q3, .null, .null, .null, .null, .int 0, .null, .null, .int 0, .null, .null]))] H := hP
  have hD : va_D A [(h0, .inr (17, [.null, .null, .null, .ref q1, .ref q3, .null, .null, .null, .null, .int 0, .null, .null, .int 0, .null, .null]))] := hD
  refine lv_aload_n hx hb d_MWork_init_25 rfl (lv_at hl 0 rfl) ?_
  refine lv_sipush (v := 200) hx hb d_MWork_init_26 (by decide) ?_
  refine va_newa (atype := .long) (ty := .long) (a0 := (200, .inr (.inl (fun _ => 0)))) (n := 200) (N' := 200) hx hb (hts _ (List.mem_cons_of_mem _ q_97)) rfl hK hP hD hS hA (fun _ => rfl) (by decide) (by decide) (by decide) (Nat.le_of_ble_eq_true rfl) (Nat.le_of_ble_eq_true rfl) d_MWork_init_29 (fun q4 cA5 H hK hP hD hS => ?_)
  have hP : va_P (dC, dI) classes [(h0, .inr (17, [.null, .null, .null, .ref q1, .ref q3, .null, .null, .null, .null, .int 0, .null, .null, .int 0, .null, .null])), (q4, .inl (cA5, 200, .inr (.inl (fun _ => 0))))] H := hP
  have hD : va_D A [(h0, .inr (17, [.null, .null, .null, .ref q1, .ref q3, .null, .null, .null, .null, .int 0, .null, .null, .int 0, .null, .null])), (q4, .inl (cA5, 200, .inr (.inl (fun _ => 0))))] := hD
  have hK : va_K (dC, dI) classes [(cA5, .long)] s := hK
  refine W.widen (k := 7) (n := 1607) (Nat.le_of_ble_eq_true rfl) (Nat.le_of_ble_eq_true rfl) ?_
  refine va_putF (D := (dC, dI)) (ci := 17) (v := .ref q4) (ty := (.array .long)) (C := R_MWork) (T := F_MWork) (N := 15) hx hb hts (i_MWork _) t_MWork t_MWork_ok n_MWork hown hK hP hD hS 0 rfl rfl 5 (by decide) (hts _ (List.mem_cons_of_mem _ q_2173)) (fun _ h9 => h9) rfl hin rfl (by decide +kernel) rfl rfl (Nat.le_of_ble_eq_true rfl) d_MWork_init_31 (fun H locs hP hD hS => ?_)
  have hP : va_P (dC, dI) classes [(h0, .inr (17, [.null, .null, .null, .ref q1, .ref q3, .ref q4, .null, .null, .null, .int 0, .null, .null, .int 0, .null, .null])), (q4, .inl (cA5, 200, .inr (.inl (fun _ => 0))))] H := hP
  have hD : va_D A [(h0, .inr (17, [.null, .null, .null, .ref q1, .ref q3, .ref q4, .null, .null, .null, .int 0, .null, .null, .int 0, .null, .null])), (q4, .inl (cA5, 200, .inr (.inl (fun _ => 0))))] := hD
  have hP := hP.sub (ws' := [(h0, .inr (17, [.null, .null, .null, .ref q1, .ref q3, .ref q4, .null, .null, .null, .int 0, .null, .null, .int 0, .null, .null]))]) [0] rfl
  have hD := hD.sub (ws' := [(h0, .inr (17, [.null, .null, .null, .ref q1, .ref q3, .ref q4, .null, .null, .null, .int 0, .null, .null, .int 0, .null, .null]))]) [0] (by decide) rfl
  have hK := hK.sub (tys' := []) [] rfl
  refine lv_aload_n hx hb d_MWork_init_34 rfl (lv_at hl 0 rfl) ?_
  refine va_new (ci := 14) (fs := [.null, .null, .null, .null]) (C := R_MCells) (T := F_MCells) (N := 4) hx hb hts (i_MCells _) t_MCells t_MCells_ok hown (hts _ (List.mem_cons_of_mem _ q_2164)) (hts _ (List.mem_cons_of_mem _ q_2051)) (hts _ (List.mem_cons_of_mem _ q_18)) hK hP hD hS hA rfl (fs_MCells) (Nat.le_of_ble_eq_true rfl) (Nat.le_of_ble_eq_true rfl) d_MWork_init_35 (fun q6 H hP hD hS => ?_)
  have hP : va_P (dC, dI) classes [(h0, .inr (17, [.null, .null, .null, .ref q1, .ref q3, .ref q4, .null, .null, .null, .int 0, .null, .null, .int 0, .null, .null])), (q6, .inr (14, [.null, .null, .null, .null]))] H := hP
  have hD : va_D A [(h0, .inr (17, [.null, .null, .null, .ref q1, .ref q3, .ref q4, .null, .null, .null, .int 0, .null, .null, .int 0, .null, .null])), (q6, .inr (14, [.null, .null, .null, .null]))] := hD
  refine W.widen (k := 8) (n := 1611) (Nat.le_of_ble_eq_true rfl) (Nat.le_of_ble_eq_true rfl) ?_
  refine lv_dup hx hb d_MWork_init_38 rfl ?_
  refine lv_sipush (v := 200) hx hb d_MWork_init_39 (by decide) ?_
  have hPc := hP.sub (ws' := [(q6, .inr (14, [.null, .null, .null, .null]))]) [1] rfl
  have hDc := hD.sub (ws' := [(q6, .inr (14, [.null, .null, .null, .null]))]) [1] (by decide) rfl
  have hKc := hK.sub (tys' := []) [] rfl
  have hFc := va_free (wc := [(q6, .inr (14, [.null, .null, .null, .null]))]) hD hS hA [1] rfl
  refine va_callv (va_runI (As := [.int 200]) (rest := [.ref q6, .ref h0]) ⟨hx, hb, hml, hown, hts⟩ (c_MCells_init_200 l dC dI H.size q6) (cwI 1 hts (gG_good q_2054) rfl rfl rfl (hts _ (List.mem_cons_of_mem _ q_18)) (hts _ (List.mem_cons_of_mem _ q_2165)) (hts _ (List.mem_cons_of_mem _ q_2053)) rfl (by decide +kernel) ⟨Nat.le_of_ble_eq_true rfl, Nat.le_of_ble_eq_true rfl⟩) ⟨fun a U g mk q => by obtain ⟨q0, q1, qP, qK, qD, qN⟩ := q; exact ⟨q0, q1, qP, va_K.moved (u := U) (U := U.calling g mk a) (Vm.Alike.refl U.vm) qK, qD, bx_N.same rfl qN⟩, fun U hU hW => ⟨rfl, by rw [hU], by rw [hU]; exact hPc, va_K.moved hW.alike hKc, hDc.weaken (fun _ _ _ _ => trivial), bx_N.warm hW hN⟩⟩ rfl rfl hl.1 rfl (lv_room (Nat.le_of_ble_eq_true rfl)) d_MWork_init_42 ⟨Nat.le_of_ble_eq_true rfl, Nat.le_of_ble_eq_true rfl⟩) hS (fun q _ h => hFc q h) hFc (fun u t H1 locs ht hvm hw hB hz1 hk1 hS => ?_)
  obtain ⟨hP1, hK1, hD1⟩ := hB
  rw [ht] at hP1
  have hK1 := va_K.moved hvm.symm hK1
  obtain ⟨hP, hD⟩ := va_join (wr := [(h0, .inr (17, [.null, .null, .null, .ref q1, .ref q3, .ref q4, .null, .null, .null, .int 0, .null, .null, .int 0, .null, .null]))]) (w1 := []) hP hD [1] [0] rfl rfl (by decide) (by decide) hk1 hFc hP1 hD1
  have hK := (hK.sub (tys' := []) [] rfl).app hK1
  generalize H1 = H at hP hS ⊢
  have hP : va_P (dC, dI) classes [(h0, .inr (17, [.null, .null, .null, .ref q1, .ref q3, .ref q4, .null, .null, .null, .int 0, .null, .null, .int 0, .null, .null]))] H := hP
  have hD : va_D A [(h0, .inr (17, [.null, .null, .null, .ref q1, .ref q3, .ref q4, .null, .null, .null, .int 0, .null, .null, .int 0, .null, .null]))] := hD
  have hK : va_K (dC, dI) classes [] s := hK
  refine W.widen (k := 12) (n := 3011) (Nat.le_of_ble_eq_true rfl) (Nat.le_of_ble_eq_true rfl) ?_
  refine va_putF (D := (dC, dI)) (ci := 17) (v := .ref q6) (ty := (.object "SessionServerModel$Cells")) (C := R_MWork) (T := F_MWork) (N := 15) hx hb hts (i_MWork _) t_MWork t_MWork_ok n_MWork hown hK hP hD hS 0 rfl rfl 6 (by decide) (hts _ (List.mem_cons_of_mem _ q_2174)) (fun _ h9 => h9) rfl hin rfl (by decide +kernel) rfl rfl (Nat.le_of_ble_eq_true rfl) d_MWork_init_45 (fun H locs hP hD hS => ?_)
  have hP : va_P (dC, dI) classes [(h0, .inr (17, [.null, .null, .null, .ref q1, .ref q3, .ref q4, .ref q6, .null, .null, .int 0, .null, .null, .int 0, .null, .null]))] H := hP
  have hD : va_D A [(h0, .inr (17, [.null, .null, .null, .ref q1, .ref q3, .ref q4, .ref q6, .null, .null, .int 0, .null, .null, .int 0, .null, .null]))] := hD
  refine lv_aload_n hx hb d_MWork_init_48 rfl (lv_at hl 0 rfl) ?_
  refine lv_sipush (v := 200) hx hb d_MWork_init_49 (by decide) ?_
  refine va_newa (atype := .int) (ty := .int) (a0 := (200, .inl (fun _ => 0))) (n := 200) (N' := 200) hx hb (hts _ (List.mem_cons_of_mem _ q_95)) rfl hK hP hD hS hA (fun _ => rfl) (by decide) (by decide) (by decide) (Nat.le_of_ble_eq_true rfl) (Nat.le_of_ble_eq_true rfl) d_MWork_init_52 (fun q7 cA8 H hK hP hD hS => ?_)
  have hP : va_P (dC, dI) classes [(h0, .inr (17, [.null, .null, .null, .ref q1, .ref q3, .ref q4, .ref q6, .null, .null, .int 0, .null, .null, .int 0, .null, .null])), (q7, .inl (cA8, 200, .inl (fun _ => 0)))] H := hP
  have hD : va_D A [(h0, .inr (17, [.null, .null, .null, .ref q1, .ref q3, .ref q4, .ref q6, .null, .null, .int 0, .null, .null, .int 0, .null, .null])), (q7, .inl (cA8, 200, .inl (fun _ => 0)))] := hD
  have hK : va_K (dC, dI) classes [(cA8, .int)] s := hK
  refine W.widen (k := 13) (n := 3211) (Nat.le_of_ble_eq_true rfl) (Nat.le_of_ble_eq_true rfl) ?_
  refine va_putF (D := (dC, dI)) (ci := 17) (v := .ref q7) (ty := (.array .int)) (C := R_MWork) (T := F_MWork) (N := 15) hx hb hts (i_MWork _) t_MWork t_MWork_ok n_MWork hown hK hP hD hS 0 rfl rfl 7 (by decide) (hts _ (List.mem_cons_of_mem _ q_2175)) (fun _ h9 => h9) rfl hin rfl (by decide +kernel) rfl rfl (Nat.le_of_ble_eq_true rfl) d_MWork_init_54 (fun H locs hP hD hS => ?_)
  have hP : va_P (dC, dI) classes [(h0, .inr (17, [.null, .null, .null, .ref q1, .ref q3, .ref q4, .ref q6, .ref q7, .null, .int 0, .null, .null, .int 0, .null, .null])), (q7, .inl (cA8, 200, .inl (fun _ => 0)))] H := hP
  have hD : va_D A [(h0, .inr (17, [.null, .null, .null, .ref q1, .ref q3, .ref q4, .ref q6, .ref q7, .null, .int 0, .null, .null, .int 0, .null, .null])), (q7, .inl (cA8, 200, .inl (fun _ => 0)))] := hD
  have hP := hP.sub (ws' := [(h0, .inr (17, [.null, .null, .null, .ref q1, .ref q3, .ref q4, .ref q6, .ref q7, .null, .int 0, .null, .null, .int 0, .null, .null]))]) [0] rfl
  have hD := hD.sub (ws' := [(h0, .inr (17, [.null, .null, .null, .ref q1, .ref q3, .ref q4, .ref q6, .ref q7, .null, .int 0, .null, .null, .int 0, .null, .null]))]) [0] (by decide) rfl
  have hK := hK.sub (tys' := []) [] rfl
  refine lv_aload_n hx hb d_MWork_init_57 rfl (lv_at hl 0 rfl) ?_
  refine va_new (ci := 14) (fs := [.null, .null, .null, .null]) (C := R_MCells) (T := F_MCells) (N := 4) hx hb hts (i_MCells _) t_MCells t_MCells_ok hown (hts _ (List.mem_cons_of_mem _ q_2164)) (hts _ (List.mem_cons_of_mem _ q_2051)) (hts _ (List.mem_cons_of_mem _ q_18)) hK hP hD hS hA rfl (fs_MCells) (Nat.le_of_ble_eq_true rfl) (Nat.le_of_ble_eq_true rfl) d_MWork_init_58 (fun q9 H hP hD hS => ?_)
  have hP : va_P (dC, dI) classes [(h0, .inr (17, [.null, .null, .null, .ref q1, .ref q3, .ref q4, .ref q6, .ref q7, .null, .int 0, .null, .null, .int 0, .null, .null])), (q9, .inr (14, [.null, .null, .null, .null]))] H := hP
  have hD : va_D A [(h0, .inr (17, [.null, .null, .null, .ref q1, .ref q3, .ref q4, .ref q6, .ref q7, .null, .int 0, .null, .null, .int 0, .null, .null])), (q9, .inr (14, [.null, .null, .null, .null]))] := hD
  refine W.widen (k := 14) (n := 3215) (Nat.le_of_ble_eq_true rfl) (Nat.le_of_ble_eq_true rfl) ?_
  refine lv_dup hx hb d_MWork_init_61 rfl ?_
  refine lv_iconst (v := 2) hx hb d_MWork_init_62 (by decide) ?_
  have hPc := hP.sub (ws' := [(q9, .inr (14, [.null, .null, .null, .null]))]) [1] rfl
  have hDc := hD.sub (ws' := [(q9, .inr (14, [.null, .null, .null, .null]))]) [1] (by decide) rfl
  have hKc := hK.sub (tys' := []) [] rfl
  have hFc := va_free (wc := [(q9, .inr (14, [.null, .null, .null, .null]))]) hD hS hA [1] rfl
  refine va_callv (va_runI (As := [.int 2]) (rest := [.ref q9, .ref h0]) ⟨hx, hb, hml, hown, hts⟩ (c_MCells_init_2 l dC dI H.size q9) (cwI 1 hts (gG_good q_2054) rfl rfl rfl (hts _ (List.mem_cons_of_mem _ q_18)) (hts _ (List.mem_cons_of_mem _ q_2165)) (hts _ (List.mem_cons_of_mem _ q_2053)) rfl (by decide +kernel) ⟨Nat.le_of_ble_eq_true rfl, Nat.le_of_ble_eq_true rfl⟩) ⟨fun a U g mk q => by obtain ⟨q0, q1, qP, qK, qD, qN⟩ := q; exact ⟨q0, q1, qP, va_K.moved (u := U) (U := U.calling g mk a) (Vm.Alike.refl U.vm) qK, qD, bx_N.same rfl qN⟩, fun U hU hW => ⟨rfl, by rw [hU], by rw [hU]; exact hPc, va_K.moved hW.alike hKc, hDc.weaken (fun _ _ _ _ => trivial), bx_N.warm hW hN⟩⟩ rfl rfl hl.1 rfl (lv_room (Nat.le_of_ble_eq_true rfl)) d_MWork_init_63 ⟨Nat.le_of_ble_eq_true rfl, Nat.le_of_ble_eq_true rfl⟩) hS (fun q _ h => hFc q h) hFc (fun u t H1 locs ht hvm hw hB hz1 hk1 hS => ?_)
  obtain ⟨hP1, hK1, hD1⟩ := hB
  rw [ht] at hP1
  have hK1 := va_K.moved hvm.symm hK1
  obtain ⟨hP, hD⟩ := va_join (wr := [(h0, .inr (17, [.null, .null, .null, .ref q1, .ref q3, .ref q4, .ref q6, .ref q7, .null, .int 0, .null, .null, .int 0, .null, .null]))]) (w1 := []) hP hD [1] [0] rfl rfl (by decide) (by decide) hk1 hFc hP1 hD1
  have hK := (hK.sub (tys' := []) [] rfl).app hK1
  generalize H1 = H at hP hS ⊢
  have hP : va_P (dC, dI) classes [(h0, .inr (17, [.null, .null, .null, .ref q1, .ref q3, .ref q4, .ref q6, .ref q7, .null, .int 0, .null, .null, .int 0, .null, .null]))] H := hP
  have hD : va_D A [(h0, .inr (17, [.null, .null, .null, .ref q1, .ref q3, .ref q4, .ref q6, .ref q7, .null, .int 0, .null, .null, .int 0, .null, .null]))] := hD
  have hK : va_K (dC, dI) classes [] s := hK
  refine W.widen (k := 18) (n := 3229) (Nat.le_of_ble_eq_true rfl) (Nat.le_of_ble_eq_true rfl) ?_
  refine va_putF (D := (dC, dI)) (ci := 17) (v := .ref q9) (ty := (.object "SessionServerModel$Cells")) (C := R_MWork) (T := F_MWork) (N := 15) hx hb hts (i_MWork _) t_MWork t_MWork_ok n_MWork hown hK hP hD hS 0 rfl rfl 8 (by decide) (hts _ (List.mem_cons_of_mem _ q_2177)) (fun _ h9 => h9) rfl hin rfl (by decide +kernel) rfl rfl (Nat.le_of_ble_eq_true rfl) d_MWork_init_66 (fun H locs hP hD hS => ?_)
  have hP : va_P (dC, dI) classes [(h0, .inr (17, [.null, .null, .null, .ref q1, .ref q3, .ref q4, .ref q6, .ref q7, .ref q9, .int 0, .null, .null, .int 0, .null, .null]))] H := hP
  have hD : va_D A [(h0, .inr (17, [.null, .null, .null, .ref q1, .ref q3, .ref q4, .ref q6, .ref q7, .ref q9, .int 0, .null, .null, .int 0, .null, .null]))] := hD
  refine lv_aload_n hx hb d_MWork_init_69 rfl (lv_at hl 0 rfl) ?_
  refine lv_sipush (v := 6000) hx hb d_MWork_init_70 (by decide) ?_
  refine va_newa (atype := .int) (ty := .int) (a0 := (6000, .inl (fun _ => 0))) (n := 6000) (N' := 6000) hx hb (hts _ (List.mem_cons_of_mem _ q_95)) rfl hK hP hD hS hA (fun _ => rfl) (by decide) (by decide) (by decide) (Nat.le_of_ble_eq_true rfl) (Nat.le_of_ble_eq_true rfl) d_MWork_init_73 (fun q10 cA11 H hK hP hD hS => ?_)
  have hP : va_P (dC, dI) classes [(h0, .inr (17, [.null, .null, .null, .ref q1, .ref q3, .ref q4, .ref q6, .ref q7, .ref q9, .int 0, .null, .null, .int 0, .null, .null])), (q10, .inl (cA11, 6000, .inl (fun _ => 0)))] H := hP
  have hD : va_D A [(h0, .inr (17, [.null, .null, .null, .ref q1, .ref q3, .ref q4, .ref q6, .ref q7, .ref q9, .int 0, .null, .null, .int 0, .null, .null])), (q10, .inl (cA11, 6000, .inl (fun _ => 0)))] := hD
  have hK : va_K (dC, dI) classes [(cA11, .int)] s := hK
  refine W.widen (k := 19) (n := 9229) (Nat.le_of_ble_eq_true rfl) (Nat.le_of_ble_eq_true rfl) ?_
  refine va_putF (D := (dC, dI)) (ci := 17) (v := .ref q10) (ty := (.array .int)) (C := R_MWork) (T := F_MWork) (N := 15) hx hb hts (i_MWork _) t_MWork t_MWork_ok n_MWork hown hK hP hD hS 0 rfl rfl 10 (by decide) (hts _ (List.mem_cons_of_mem _ q_2179)) (fun _ h9 => h9) rfl hin rfl (by decide +kernel) rfl rfl (Nat.le_of_ble_eq_true rfl) d_MWork_init_75 (fun H locs hP hD hS => ?_)
  have hP : va_P (dC, dI) classes [(h0, .inr (17, [.null, .null, .null, .ref q1, .ref q3, .ref q4, .ref q6, .ref q7, .ref q9, .int 0, .ref q10, .null, .int 0, .null, .null])), (q10, .inl (cA11, 6000, .inl (fun _ => 0)))] H := hP
  have hD : va_D A [(h0, .inr (17, [.null, .null, .null, .ref q1, .ref q3, .ref q4, .ref q6, .ref q7, .ref q9, .int 0, .ref q10, .null, .int 0, .null, .null])), (q10, .inl (cA11, 6000, .inl (fun _ => 0)))] := hD
  have hP := hP.sub (ws' := [(h0, .inr (17, [.null, .null, .null, .ref q1, .ref q3, .ref q4, .ref q6, .ref q7, .ref q9, .int 0, .ref q10, .null, .int 0, .null, .null]))]) [0] rfl
  have hD := hD.sub (ws' := [(h0, .inr (17, [.null, .null, .null, .ref q1, .ref q3, .ref q4, .ref q6, .ref q7, .ref q9, .int 0, .ref q10, .null, .int 0, .null, .null]))]) [0] (by decide) rfl
  have hK := hK.sub (tys' := []) [] rfl
  refine lv_aload_n hx hb d_MWork_init_78 rfl (lv_at hl 0 rfl) ?_
  refine lv_sipush (v := 2000) hx hb d_MWork_init_79 (by decide) ?_
  refine va_newa (atype := .int) (ty := .int) (a0 := (2000, .inl (fun _ => 0))) (n := 2000) (N' := 2000) hx hb (hts _ (List.mem_cons_of_mem _ q_95)) rfl hK hP hD hS hA (fun _ => rfl) (by decide) (by decide) (by decide) (Nat.le_of_ble_eq_true rfl) (Nat.le_of_ble_eq_true rfl) d_MWork_init_82 (fun q12 cA13 H hK hP hD hS => ?_)
  have hP : va_P (dC, dI) classes [(h0, .inr (17, [.null, .null, .null, .ref q1, .ref q3, .ref q4, .ref q6, .ref q7, .ref q9, .int 0, .ref q10, .null, .int 0, .null, .null])), (q12, .inl (cA13, 2000, .inl (fun _ => 0)))] H := hP
  have hD : va_D A [(h0, .inr (17, [.null, .null, .null, .ref q1, .ref q3, .ref q4, .ref q6, .ref q7, .ref q9, .int 0, .ref q10, .null, .int 0, .null, .null])), (q12, .inl (cA13, 2000, .inl (fun _ => 0)))] := hD
  have hK : va_K (dC, dI) classes [(cA13, .int)] s := hK
  refine W.widen (k := 20) (n := 11229) (Nat.le_of_ble_eq_true rfl) (Nat.le_of_ble_eq_true rfl) ?_
  refine va_putF (D := (dC, dI)) (ci := 17) (v := .ref q12) (ty := (.array .int)) (C := R_MWork) (T := F_MWork) (N := 15) hx hb hts (i_MWork _) t_MWork t_MWork_ok n_MWork hown hK hP hD hS 0 rfl rfl 11 (by decide) (hts _ (List.mem_cons_of_mem _ q_2180)) (fun _ h9 => h9) rfl hin rfl (by decide +kernel) rfl rfl (Nat.le_of_ble_eq_true rfl) d_MWork_init_84 (fun H locs hP hD hS => ?_)
  have hP : va_P (dC, dI) classes [(h0, .inr (17, [.null, .null, .null, .ref q1, .ref q3, .ref q4, .ref q6, .ref q7, .ref q9, .int 0, .ref q10, .ref q12, .int 0, .null, .null])), (q12, .inl (cA13, 2000, .inl (fun _ => 0)))] H := hP
  have hD : va_D A [(h0, .inr (17, [.null, .null, .null, .ref q1, .ref q3, .ref q4, .ref q6, .ref q7, .ref q9, .int 0, .ref q10, .ref q12, .int 0, .null, .null])), (q12, .inl (cA13, 2000, .inl (fun _ => 0)))] := hD
  have hP := hP.sub (ws' := [(h0, .inr (17, [.null, .null, .null, .ref q1, .ref q3, .ref q4, .ref q6, .ref q7, .ref q9, .int 0, .ref q10, .ref q12, .int 0, .null, .null]))]) [0] rfl
  have hD := hD.sub (ws' := [(h0, .inr (17, [.null, .null, .null, .ref q1, .ref q3, .ref q4, .ref q6, .ref q7, .ref q9, .int 0, .ref q10, .ref q12, .int 0, .null, .null]))]) [0] (by decide) rfl
  have hK := hK.sub (tys' := []) [] rfl
  refine lv_aload_n hx hb d_MWork_init_87 rfl (lv_at hl 0 rfl) ?_
  refine lv_sipush (v := 2000) hx hb d_MWork_init_88 (by decide) ?_
  refine va_newa (atype := .int) (ty := .int) (a0 := (2000, .inl (fun _ => 0))) (n := 2000) (N' := 2000) hx hb (hts _ (List.mem_cons_of_mem _ q_95)) rfl hK hP hD hS hA (fun _ => rfl) (by decide) (by decide) (by decide) (Nat.le_of_ble_eq_true rfl) (Nat.le_of_ble_eq_true rfl) d_MWork_init_91 (fun q14 cA15 H hK hP hD hS => ?_)
  have hP : va_P (dC, dI) classes [(h0, .inr (17, [.null, .null, .null, .ref q1, .ref q3, .ref q4, .ref q6, .ref q7, .ref q9, .int 0, .ref q10, .ref q12, .int 0, .null, .null])), (q14, .inl (cA15, 2000, .inl (fun _ => 0)))] H := hP
  have hD : va_D A [(h0, .inr (17, [.null, .null, .null, .ref q1, .ref q3, .ref q4, .ref q6, .ref q7, .ref q9, .int 0, .ref q10, .ref q12, .int 0, .null, .null])), (q14, .inl (cA15, 2000, .inl (fun _ => 0)))] := hD
  have hK : va_K (dC, dI) classes [(cA15, .int)] s := hK
  refine W.widen (k := 21) (n := 13229) (Nat.le_of_ble_eq_true rfl) (Nat.le_of_ble_eq_true rfl) ?_
  refine va_putF (D := (dC, dI)) (ci := 17) (v := .ref q14) (ty := (.array .int)) (C := R_MWork) (T := F_MWork) (N := 15) hx hb hts (i_MWork _) t_MWork t_MWork_ok n_MWork hown hK hP hD hS 0 rfl rfl 13 (by decide) (hts _ (List.mem_cons_of_mem _ q_2183)) (fun _ h9 => h9) rfl hin rfl (by decide +kernel) rfl rfl (Nat.le_of_ble_eq_true rfl) d_MWork_init_93 (fun H locs hP hD hS => ?_)
  have hP : va_P (dC, dI) classes [(h0, .inr (17, [.null, .null, .null, .ref q1, .ref q3, .ref q4, .ref q6, .ref q7, .ref q9, .int 0, .ref q10, .ref q12, .int 0, .ref q14, .null])), (q14, .inl (cA15, 2000, .inl (fun _ => 0)))] H := hP
  have hD : va_D A [(h0, .inr (17, [.null, .null, .null, .ref q1, .ref q3, .ref q4, .ref q6, .ref q7, .ref q9, .int 0, .ref q10, .ref q12, .int 0, .ref q14, .null])), (q14, .inl (cA15, 2000, .inl (fun _ => 0)))] := hD
  have hP := hP.sub (ws' := [(h0, .inr (17, [.null, .null, .null, .ref q1, .ref q3, .ref q4, .ref q6, .ref q7, .ref q9, .int 0, .ref q10, .ref q12, .int 0, .ref q14, .null]))]) [0] rfl
  have hD := hD.sub (ws' := [(h0, .inr (17, [.null, .null, .null, .ref q1, .ref q3, .ref q4, .ref q6, .ref q7, .ref q9, .int 0, .ref q10, .ref q12, .int 0, .ref q14, .null]))]) [0] (by decide) rfl
  have hK := hK.sub (tys' := []) [] rfl
  refine lv_aload_n hx hb d_MWork_init_96 rfl (lv_at hl 0 rfl) ?_
  refine lv_sipush (v := 2000) hx hb d_MWork_init_97 (by decide) ?_
  refine va_newa (atype := .int) (ty := .int) (a0 := (2000, .inl (fun _ => 0))) (n := 2000) (N' := 2000) hx hb (hts _ (List.mem_cons_of_mem _ q_95)) rfl hK hP hD hS hA (fun _ => rfl) (by decide) (by decide) (by decide) (Nat.le_of_ble_eq_true rfl) (Nat.le_of_ble_eq_true rfl) d_MWork_init_100 (fun q16 cA17 H hK hP hD hS => ?_)
  have hP : va_P (dC, dI) classes [(h0, .inr (17, [.null, .null, .null, .ref q1, .ref q3, .ref q4, .ref q6, .ref q7, .ref q9, .int 0, .ref q10, .ref q12, .int 0, .ref q14, .null])), (q16, .inl (cA17, 2000, .inl (fun _ => 0)))] H := hP
  have hD : va_D A [(h0, .inr (17, [.null, .null, .null, .ref q1, .ref q3, .ref q4, .ref q6, .ref q7, .ref q9, .int 0, .ref q10, .ref q12, .int 0, .ref q14, .null])), (q16, .inl (cA17, 2000, .inl (fun _ => 0)))] := hD
  have hK : va_K (dC, dI) classes [(cA17, .int)] s := hK
  refine W.widen (k := 22) (n := 15229) (Nat.le_of_ble_eq_true rfl) (Nat.le_of_ble_eq_true rfl) ?_
  refine va_putF (D := (dC, dI)) (ci := 17) (v := .ref q16) (ty := (.array .int)) (C := R_MWork) (T := F_MWork) (N := 15) hx hb hts (i_MWork _) t_MWork t_MWork_ok n_MWork hown hK hP hD hS 0 rfl rfl 14 (by decide) (hts _ (List.mem_cons_of_mem _ q_2184)) (fun _ h9 => h9) rfl hin rfl (by decide +kernel) rfl rfl (Nat.le_of_ble_eq_true rfl) d_MWork_init_102 (fun H locs hP hD hS => ?_)
  have hP : va_P (dC, dI) classes [(h0, .inr (17, [.null, .null, .null, .ref q1, .ref q3, .ref q4, .ref q6, .ref q7, .ref q9, .int 0, .ref q10, .ref q12, .int 0, .ref q14, .ref q16])), (q16, .inl (cA17, 2000, .inl (fun _ => 0)))] H := hP
  have hD : va_D A [(h0, .inr (17, [.null, .null, .null, .ref q1, .ref q3, .ref q4, .ref q6, .ref q7, .ref q9, .int 0, .ref q10, .ref q12, .int 0, .ref q14, .ref q16])), (q16, .inl (cA17, 2000, .inl (fun _ => 0)))] := hD
  have hP := hP.sub (ws' := [(h0, .inr (17, [.null, .null, .null, .ref q1, .ref q3, .ref q4, .ref q6, .ref q7, .ref q9, .int 0, .ref q10, .ref q12, .int 0, .ref q14, .ref q16]))]) [0] rfl
  have hD := hD.sub (ws' := [(h0, .inr (17, [.null, .null, .null, .ref q1, .ref q3, .ref q4, .ref q6, .ref q7, .ref q9, .int 0, .ref q10, .ref q12, .int 0, .ref q14, .ref q16]))]) [0] (by decide) rfl
  have hK := hK.sub (tys' := []) [] rfl
  refine lv_aload_n hx hb d_MWork_init_105 rfl (lv_at hl 0 rfl) ?_
  refine lv_aload_n hx hb d_MWork_init_106 rfl (lv_at hl 1 rfl) ?_
  refine va_putF (D := (dC, dI)) (ci := 17) (v := .ref h1) (ty := (.object "SessionServerModel$Cells")) (C := R_MWork) (T := F_MWork) (N := 15) hx hb hts (i_MWork _) t_MWork t_MWork_ok n_MWork hown hK hP hD hS 0 rfl rfl 0 (by decide) (hts _ (List.mem_cons_of_mem _ q_2166)) (fun _ h9 => h9) rfl hin rfl (by decide +kernel) rfl rfl (Nat.le_of_ble_eq_true rfl) d_MWork_init_107 (fun H locs hP hD hS => ?_)
  have hP : va_P (dC, dI) classes [(h0, .inr (17, [.ref h1, .null, .null, .ref q1, .ref q3, .ref q4, .ref q6, .ref q7, .ref q9, .int 0, .ref q10, .ref q12, .int 0, .ref q14, .ref q16]))] H := hP
  have hD : va_D A [(h0, .inr (17, [.ref h1, .null, .null, .ref q1, .ref q3, .ref q4, .ref q6, .ref q7, .ref q9, .int 0, .ref q10, .ref q12, .int 0, .ref q14, .ref q16]))] := hD
  have hP9 := hP.sub (ws' := []) [] rfl
  have hD9 := hD.sub (ws' := []) [] (by decide) rfl
  have hK9 := hK.sub (tys' := []) [] rfl
  refine W.widen (k := 22) (n := 15229) (Nat.le_of_ble_eq_true rfl) (Nat.le_of_ble_eq_true rfl) ?_
  exact W.vret hx hb hr (fun t ht hW => ⟨⟨(), rfl, trivial, by rw [ht]; exact hP9, va_K.moved hW.alike hK9, hD9⟩, hS.F ht⟩) hS.2.2 d_MWork_init_110
set_option maxHeartbeats 4000000 in
set_option maxRecDepth 100000 in
theorem c_MReader_forget (l : Launch) (dC : Nat → ClassId) (dI : Nat → Nat → Nat) (sz : Nat) (h0 : Nat) (a1 : Nat) (a3 : Nat) (a4 : Nat) (a5 : Nat) (a7 : Nat) (a9 : Nat) (a10 : Nat) (a11 : Nat) (a12 : Nat) (a13 : Nat) (a14 : Nat) (a15 : Nat) (a16 : Nat) (a17 : Nat) (a19 : Nat) (a20 : Nat) (a21 : Nat) (a33 : Nat) (a35 : Nat) (a37 : Nat) (a38 : Nat) (a40 : Nat) (a41 : Nat) (a42 : Nat) (a44 : Nat) (a45 : Nat) (a46 : Nat) (a50 : Nat) (a52 : Nat) (a53 : Nat) (a58 : Nat) (a61 : Nat) (cN : ClassId) : Met l y_MReader_forget w_MReader_forget ({ frames := 0, cells := 0, slots := 0, locals := 0 }) (va_Pc [.ref h0] (fun U => U.heap.size = sz ∧ va_P (dC, dI) classes [(h0, .inr (18, [.int 0, .ref a1, .int 0, .ref a3, .ref a4, .ref a5, .int 0, .ref a7, .int 0, .ref a9, .ref a10, .ref a11, .ref a12, .ref a13, .ref a14, .ref a15, .ref a16, .ref a17, .int 0, .ref a19, .ref a20, .ref a21, .int 0, .int 0, .int 0, .int 0, .int 0, .int 0, .int 0, .int 0, .long 0, .int 0, .int 0, .ref a33, .int 0, .ref a35, .int 0, .ref a37, .ref a38, .int 0, .ref a40, .ref a41, .ref a42, .int 0, .ref a44, .ref a45, .ref a46, .int 0, .int 0, .int 0, .ref a50, .int 0, .ref a52, .ref a53, .int 0, .int 0, .int 0, .int 0, .ref a58, .int 0, .int 0, .ref a61])), (a58, .inl (cN, 10, .inl (fun _ => 0)))] U.heap ∧ va_K (dC, dI) classes [(cN, .int)] U ∧ va_D (fun _ => True) [(h0, .inr (18, [.int 0, .ref a1, .int 0, .ref a3, .ref a4, .ref a5, .int 0, .ref a7, .int 0, .ref a9, .ref a10, .ref a11, .ref a12, .ref a13, .ref a14, .ref a15, .ref a16, .ref a17, .int 0, .ref a19, .ref a20, .ref a21, .int 0, .int 0, .int 0, .int 0, .int 0, .int 0, .int 0, .int 0, .long 0, .int 0, .int 0, .ref a33, .int 0, .ref a35, .int 0, .ref a37, .ref a38, .int 0, .ref a40, .ref a41, .ref a42, .int 0, .ref a44, .ref a45, .ref a46, .int 0, .int 0, .int 0, .ref a50, .int 0, .ref a52, .ref a53, .int 0, .int 0, .int 0, .int 0, .ref a58, .int 0, .int 0, .ref a61])), (a58, .inl (cN, 10, .inl (fun _ => 0)))] ∧ bx_N U)) (va_Qv (fun _ : Unit => True) (fun (_ : Unit) t => va_P (dC, dI) classes [] t.heap ∧ va_K (dC, dI) classes [] t ∧ va_D (va_A [(h0, .inr (18, [.int 0, .ref a1, .int 0, .ref a3, .ref a4, .ref a5, .int 0, .ref a7, .int 0, .ref a9, .ref a10, .ref a11, .ref a12, .ref a13, .ref a14, .ref a15, .ref a16, .ref a17, .int 0, .ref a19, .ref a20, .ref a21, .int 0, .int 0, .int 0, .int 0, .int 0, .int 0, .int 0, .int 0, .long 0, .int 0, .int 0, .ref a33, .int 0, .ref a35, .int 0, .ref a37, .ref a38, .int 0, .ref a40, .ref a41, .ref a42, .int 0, .ref a44, .ref a45, .ref a46, .int 0, .int 0, .int 0, .ref a50, .int 0, .ref a52, .ref a53, .int 0, .int 0, .int 0, .int 0, .ref a58, .int 0, .int 0, .ref a61])), (a58, .inl (cN, 10, .inl (fun _ => 0)))] sz) []) (va_A [(h0, .inr (18, [.int 0, .ref a1, .int 0, .ref a3, .ref a4, .ref a5, .int 0, .ref a7, .int 0, .ref a9, .ref a10, .ref a11, .ref a12, .ref a13, .ref a14, .ref a15, .ref a16, .ref a17, .int 0, .ref a19, .ref a20, .ref a21, .int 0, .int 0, .int 0, .int 0, .int 0, .int 0, .int 0, .int 0, .long 0, .int 0, .int 0, .ref a33, .int 0, .ref a35, .int 0, .ref a37, .ref a38, .int 0, .ref a40, .ref a41, .ref a42, .int 0, .ref a44, .ref a45, .ref a46, .int 0, .int 0, .int 0, .ref a50, .int 0, .ref a52, .ref a53, .int 0, .int 0, .int 0, .int 0, .ref a58, .int 0, .int 0, .ref a61])), (a58, .inl (cN, 10, .inl (fun _ => 0)))] sz)) 0 0 (va_A [(h0, .inr (18, [.int 0, .ref a1, .int 0, .ref a3, .ref a4, .ref a5, .int 0, .ref a7, .int 0, .ref a9, .ref a10, .ref a11, .ref a12, .ref a13, .ref a14, .ref a15, .ref a16, .ref a17, .int 0, .ref a19, .ref a20, .ref a21, .int 0, .int 0, .int 0, .int 0, .int 0, .int 0, .int 0, .int 0, .long 0, .int 0, .int 0, .ref a33, .int 0, .ref a35, .int 0, .ref a37, .ref a38, .int 0, .ref a40, .ref a41, .ref a42, .int 0, .ref a44, .ref a45, .ref a46, .int 0, .int 0, .int 0, .ref a50, .int 0, .ref a52, .ref a53, .int 0, .int 0, .int 0, .int 0, .ref a58, .int 0, .int 0, .ref a61])), (a58, .inl (cN, 10, .inl (fun _ => 0)))] sz) := by
  refine Met.ofW (cc := b_MReader_forget) (maxL := 2) (ret := none) (by decide) rfl ?_
  intro p e s m args below meth c s₁ B hml hv
  obtain ⟨rfl, hsz, hP, hK, hD0, hN⟩ := hv
  have hx := B.exec
  have hb := B.bytes
  have hr := B.returns
  have hts := atoms_spec (ws := w_MReader_forget) B.pre
  have hown : s.vm.findClass R_MReader = some m.cls := findClass_of_methodNamed B.named
  have hlocks := B.notSynchronized
  subst hsz
  have hD := hD0.self (sz := s.heap.size)
  generalize hAe : va_A [(h0, .inr (18, [.int 0, .ref a1, .int 0, .ref a3, .ref a4, .ref a5, .int 0, .ref a7, .int 0, .ref a9, .ref a10, .ref a11, .ref a12, .ref a13, .ref a14, .ref a15, .ref a16, .ref a17, .int 0, .ref a19, .ref a20, .ref a21, .int 0, .int 0, .int 0, .int 0, .int 0, .int 0, .int 0, .int 0, .long 0, .int 0, .int 0, .ref a33, .int 0, .ref a35, .int 0, .ref a37, .ref a38, .int 0, .ref a40, .ref a41, .ref a42, .int 0, .ref a44, .ref a45, .ref a46, .int 0, .int 0, .int 0, .ref a50, .int 0, .ref a52, .ref a53, .int 0, .int 0, .int 0, .int 0, .ref a58, .int 0, .int 0, .ref a61])), (a58, .inl (cN, 10, .inl (fun _ => 0)))] s.heap.size = A at hD ⊢
  have hA : ∀ q : Nat, s.heap.size ≤ q → A q := fun q h => by rw [← hAe]; exact Or.inr h
  have hS : va_S A s.heap s.heap [] := va_S.rf
  have hP : va_P (dC, dI) classes [(h0, .inr (18, [.int 0, .ref a1, .int 0, .ref a3, .ref a4, .ref a5, .int 0, .ref a7, .int 0, .ref a9, .ref a10, .ref a11, .ref a12, .ref a13, .ref a14, .ref a15, .ref a16, .ref a17, .int 0, .ref a19, .ref a20, .ref a21, .int 0, .int 0, .int 0, .int 0, .int 0, .int 0, .int 0, .int 0, .long 0, .int 0, .int 0, .ref a33, .int 0, .ref a35, .int 0, .ref a37, .ref a38, .int 0, .ref a40, .ref a41, .ref a42, .int 0, .ref a44, .ref a45, .ref a46, .int 0, .int 0, .int 0, .ref a50, .int 0, .ref a52, .ref a53, .int 0, .int 0, .int 0, .int 0, .ref a58, .int 0, .int 0, .ref a61])), (a58, .inl (cN, 10, .inl (fun _ => 0)))] s.heap := hP
  have hl := lv_entry ([.ref h0]) (n := 2) (Nat.le_of_ble_eq_true rfl)
  rw [lg_entry_eq]
  generalize (lg_sl ([.ref h0]) ++ List.replicate (2 - (lg_sl ([.ref h0])).length) Slot.unset).toArray = ls at hl ⊢
  have hl : lv_has ls 2 [(0, .ref h0)] := hl
  obtain ⟨H, hH⟩ : ∃ H : Heap, s.heap = H := ⟨_, rfl⟩
  have hP : va_P (dC, dI) classes [(h0, .inr (18, [.int 0, .ref a1, .int 0, .ref a3, .ref a4, .ref a5, .int 0, .ref a7, .int 0, .ref a9, .ref a10, .ref a11, .ref a12, .ref a13, .ref a14, .ref a15, .ref a16, .ref a17, .int 0, .ref a19, .ref a20, .ref a21, .int 0, .int 0, .int 0, .int 0, .int 0, .int 0, .int 0, .int 0, .long 0, .int 0, .int 0, .ref a33, .int 0, .ref a35, .int 0, .ref a37, .ref a38, .int 0, .ref a40, .ref a41, .ref a42, .int 0, .ref a44, .ref a45, .ref a46, .int 0, .int 0, .int 0, .ref a50, .int 0, .ref a52, .ref a53, .int 0, .int 0, .int 0, .int 0, .ref a58, .int 0, .int 0, .ref a61])), (a58, .inl (cN, 10, .inl (fun _ => 0)))] H := by rw [← hH]; exact hP
  have hS : va_S A s.heap H [] := by rw [← hH]; exact va_S.rf
  refine bx_heap hH ?_
  refine lv_aload_n hx hb d_MReader_forget_0 rfl (lv_at hl 0 rfl) ?_
  refine lv_iconst (v := 0) hx hb d_MReader_forget_1 (by decide) ?_
  refine va_put (D := (dC, dI)) (ci := 18) (v := .int 0) (ty := .int) (C := R_MReader) (T := F_MReader) (N := 62) hx hb hts (i_MReader _) t_MReader t_MReader_ok n_MReader hown hK hP hD hS 0 rfl rfl 8 (by decide) (hts _ (List.mem_cons_of_mem _ q_2248)) (fun _ h9 => h9) rfl (by decide +kernel) rfl rfl (Nat.le_of_ble_eq_true rfl) d_MReader_forget_2 (fun H locs hP hD hS => ?_)
  have hP : va_P (dC, dI) classes [(h0, .inr (18, [.int 0, .ref a1, .int 0, .ref a3, .ref a4, .ref a5, .int 0, .ref a7, .int 0, .ref a9, .ref a10, .ref a11, .ref a12, .ref a13, .ref a14, .ref a15, .ref a16, .ref a17, .int 0, .ref a19, .ref a20, .ref a21, .int 0, .int 0, .int 0, .int 0, .int 0, .int 0, .int 0, .int 0, .long 0, .int 0, .int 0, .ref a33, .int 0, .ref a35, .int 0, .ref a37, .ref a38, .int 0, .ref a40, .ref a41, .ref a42, .int 0, .ref a44, .ref a45, .ref a46, .int 0, .int 0, .int 0, .ref a50, .int 0, .ref a52, .ref a53, .int 0, .int 0, .int 0, .int 0, .ref a58, .int 0, .int 0, .ref a61])), (a58, .inl (cN, 10, .inl (fun _ => 0)))] H := hP
  have hD : va_D A [(h0, .inr (18, [.int 0, .ref a1, .int 0, .ref a3, .ref a4, .ref a5, .int 0, .ref a7, .int 0, .ref a9, .ref a10, .ref a11, .ref a12, .ref a13, .ref a14, .ref a15, .ref a16, .ref a17, .int 0, .ref a19, .ref a20, .ref a21, .int 0, .int 0, .int 0, .int 0, .int 0, .int 0, .int 0, .int 0, .long 0, .int 0, .int 0, .ref a33, .int 0, .ref a35, .int 0, .ref a37, .ref a38, .int 0, .ref a40, .ref a41, .ref a42, .int 0, .ref a44, .ref a45, .ref a46, .int 0, .int 0, .int 0, .ref a50, .int 0, .ref a52, .ref a53, .int 0, .int 0, .int 0, .int 0, .ref a58, .int 0, .int 0, .ref a61])), (a58, .inl (cN, 10, .inl (fun _ => 0)))] := hD
  refine lv_aload_n hx hb d_MReader_forget_5 rfl (lv_at hl 0 rfl) ?_
  refine lv_iconst (v := 0) hx hb d_MReader_forget_6 (by decide) ?_
  refine va_put (D := (dC, dI)) (ci := 18) (v := .int 0) (ty := .int) (C := R_MReader) (T := F_MReader) (N := 62) hx hb hts (i_MReader _) t_MReader t_MReader_ok n_MReader hown hK hP hD hS 0 rfl rfl 18 (by decide) (hts _ (List.mem_cons_of_mem _ q_2267)) (fun _ h9 => h9) rfl (by decide +kernel) rfl rfl (Nat.le_of_ble_eq_true rfl) d_MReader_forget_7 (fun H locs hP hD hS => ?_)
  have hP : va_P (dC, dI) classes [(h0, .inr (18, [.int 0, .ref a1, .int 0, .ref a3, .ref a4, .ref a5, .int 0, .ref a7, .int 0, .ref a9, .ref a10, .ref a11, .ref a12, .ref a13, .ref a14, .ref a15, .ref a16, .ref a17, .int 0, .ref a19, .ref a20, .ref a21, .int 0, .int 0, .int 0, .int 0, .int 0, .int 0, .int 0, .int 0, .long 0, .int 0, .int 0, .ref a33, .int 0, .ref a35, .int 0, .ref a37, .ref a38, .int 0, .ref a40, .ref a41, .ref a42, .int 0, .ref a44, .ref a45, .ref a46, .int 0, .int 0, .int 0, .ref a50, .int 0, .ref a52, .ref a53, .int 0, .int 0, .int 0, .int 0, .ref a58, .int 0, .int 0, .ref a61])), (a58, .inl (cN, 10, .inl (fun _ => 0)))] H := hP
  have hD : va_D A [(h0, .inr (18, [.int 0, .ref a1, .int 0, .ref a3, .ref a4, .ref a5, .int 0, .ref a7, .int 0, .ref a9, .ref a10, .ref a11, .ref a12, .ref a13, .ref a14, .ref a15, .ref a16, .ref a17, .int 0, .ref a19, .ref a20, .ref a21, .int 0, .int 0, .int 0, .int 0, .int 0, .int 0, .int 0, .int 0, .long 0, .int 0, .int 0, .ref a33, .int 0, .ref a35, .int 0, .ref a37, .ref a38, .int 0, .ref a40, .ref a41, .ref a42, .int 0, .ref a44, .ref a45, .ref a46, .int 0, .int 0, .int 0, .ref a50, .int 0, .ref a52, .ref a53, .int 0, .int 0, .int 0, .int 0, .ref a58, .int 0, .int 0, .ref a61])), (a58, .inl (cN, 10, .inl (fun _ => 0)))] := hD
  refine lv_aload_n hx hb d_MReader_forget_10 rfl (lv_at hl 0 rfl) ?_
  refine lv_iconst (v := 0) hx hb d_MReader_forget_11 (by decide) ?_
  refine va_put (D := (dC, dI)) (ci := 18) (v := .int 0) (ty := .int) (C := R_MReader) (T := F_MReader) (N := 62) hx hb hts (i_MReader _) t_MReader t_MReader_ok n_MReader hown hK hP hD hS 0 rfl rfl 22 (by decide) (hts _ (List.mem_cons_of_mem _ q_2271)) (fun _ h9 => h9) rfl (by decide +kernel) rfl rfl (Nat.le_of_ble_eq_true rfl) d_MReader_forget_12 (fun H locs hP hD hS => ?_)
  have hP : va_P (dC, dI) classes [(h0, .inr (18, [.int 0, .ref a1, .int 0, .ref a3, .ref a4, .ref a5, .int 0, .ref a7, .int 0, .ref a9, .ref a10, .ref a11, .ref a12, .ref a13, .ref a14, .ref a15, .ref a16, .ref a17, .int 0, .ref a19, .ref a20, .ref a21, .int 0, .int 0, .int 0, .int 0, .int 0, .int 0, .int 0, .int 0, .long 0, .int 0, .int 0, .ref a33, .int 0, .ref a35, .int 0, .ref a37, .ref a38, .int 0, .ref a40, .ref a41, .ref a42, .int 0, .ref a44, .ref a45, .ref a46, .int 0, .int 0, .int 0, .ref a50, .int 0, .ref a52, .ref a53, .int 0, .int 0, .int 0, .int 0, .ref a58, .int 0, .int 0, .ref a61])), (a58, .inl (cN, 10, .inl (fun _ => 0)))] H := hP
  have hD : va_D A [(h0, .inr (18, [.int 0, .ref a1, .int 0, .ref a3, .ref a4, .ref a5, .int 0, .ref a7, .int 0, .ref a9, .ref a10, .ref a11, .ref a12, .ref a13, .ref a14, .ref a15, .ref a16, .ref a17, .int 0, .ref a19, .ref a20, .ref a21, .int 0, .int 0, .int 0, .int 0, .int 0, .int 0, .int 0, .int 0, .long 0, .int 0, .int 0, .ref a33, .int 0, .ref a35, .int 0, .ref a37, .ref a38, .int 0, .ref a40, .ref a41, .ref a42, .int 0, .ref a44, .ref a45, .ref a46, .int 0, .int 0, .int 0, .ref a50, .int 0, .ref a52, .ref a53, .int 0, .int 0, .int 0, .int 0, .ref a58, .int 0, .int 0, .ref a61])), (a58, .inl (cN, 10, .inl (fun _ => 0)))] := hD
  refine lv_aload_n hx hb d_MReader_forget_15 rfl (lv_at hl 0 rfl) ?_
  refine lv_iconst (v := 0) hx hb d_MReader_forget_16 (by decide) ?_
  refine va_put (D := (dC, dI)) (ci := 18) (v := .int 0) (ty := .int) (C := R_MReader) (T := F_MReader) (N := 62) hx hb hts (i_MReader _) t_MReader t_MReader_ok n_MReader hown hK hP hD hS 0 rfl rfl 23 (by decide) (hts _ (List.mem_cons_of_mem _ q_2273)) (fun _ h9 => h9) rfl (by decide +kernel) rfl rfl (Nat.le_of_ble_eq_true rfl) d_MReader_forget_17 (fun H locs hP hD hS => ?_)
  have hP : va_P (dC, dI) classes [(h0, .inr (18, [.int 0, .ref a1, .int 0, .ref a3, .ref a4, .ref a5, .int 0, .ref a7, .int 0, .ref a9, .ref a10, .ref a11, .ref a12, .ref a13, .ref a14, .ref a15, .ref a16, .ref a17, .int 0, .ref a19, .ref a20, .ref a21, .int 0, .int 0, .int 0, .int 0, .int 0, .int 0, .int 0, .int 0, .long 0, .int 0, .int 0, .ref a33, .int 0, .ref a35, .int 0, .ref a37, .ref a38, .int 0, .ref a40, .ref a41, .ref a42, .int 0, .ref a44, .ref a45, .ref a46, .int 0, .int 0, .int 0, .ref a50, .int 0, .ref a52, .ref a53, .int 0, .int 0, .int 0, .int 0, .ref a58, .int 0, .int 0, .ref a61])), (a58, .inl (cN, 10, .inl (fun _ => 0)))] H := hP
  have hD : va_D A [(h0, .inr (18, [.int 0, .ref a1, .int 0, .ref a3, .ref a4, .ref a5, .int 0, .ref a7, .int 0, .ref a9, .ref a10, .ref a11, .ref a12, .ref a13, .ref a14, .ref a15, .ref a16, .ref a17, .int 0, .ref a19, .ref a20, .ref a21, .int 0, .int 0, .int 0, .int 0, .int 0, .int 0, .int 0, .int 0, .long 0, .int 0, .int 0, .ref a33, .int 0, .ref a35, .int 0, .ref a37, .ref a38, .int 0, .ref a40, .ref a41, .ref a42, .int 0, .ref a44, .ref a45, .ref a46, .int 0, .int 0, .int 0, .ref a50, .int 0, .ref a52, .ref a53, .int 0, .int 0, .int 0, .int 0, .ref a58, .int 0, .int 0, .ref a61])), (a58, .inl (cN, 10, .inl (fun _ => 0)))] := hD
  refine lv_aload_n hx hb d_MReader_forget_20 rfl (lv_at hl 0 rfl) ?_
  refine lv_iconst (v := -1) hx hb d_MReader_forget_21 (by decide) ?_
  refine va_put (D := (dC, dI)) (ci := 18) (v := .int (-1)) (ty := .int) (C := R_MReader) (T := F_MReader) (N := 62) hx hb hts (i_MReader _) t_MReader t_MReader_ok n_MReader hown hK hP hD hS 0 rfl rfl 24 (by decide) (hts _ (List.mem_cons_of_mem _ q_2274)) (fun _ h9 => h9) rfl (by decide +kernel) rfl rfl (Nat.le_of_ble_eq_true rfl) d_MReader_forget_22 (fun H locs hP hD hS => ?_)
  have hP : va_P (dC, dI) classes [(h0, .inr (18, [.int 0, .ref a1, .int 0, .ref a3, .ref a4, .ref a5, .int 0, .ref a7, .int 0, .ref a9, .ref a10, .ref a11, .ref a12, .ref a13, .ref a14, .ref a15, .ref a16, .ref a17, .int 0, .ref a19, .ref a20, .ref a21, .int 0, .int 0, .int (-1), .int 0, .int 0, .int 0, .int 0, .int 0, .long 0, .int 0, .int 0, .ref a33, .int 0, .ref a35, .int 0, .ref a37, .ref a38, .int 0, .ref a40, .ref a41, .ref a42, .int 0, .ref a44, .ref a45, .ref a46, .int 0, .int 0, .int 0, .ref a50, .int 0, .ref a52, .ref a53, .int 0, .int 0, .int 0, .int 0, .ref a58, .int 0, .int 0, .ref a61])), (a58, .inl (cN, 10, .inl (fun _ => 0)))] H := hP
  have hD : va_D A [(h0, .inr (18, [.int 0, .ref a1, .int 0, .ref a3, .ref a4, .ref a5, .int 0, .ref a7, .int 0, .ref a9, .ref a10, .ref a11, .ref a12, .ref a13, .ref a14, .ref a15, .ref a16, .ref a17, .int 0, .ref a19, .ref a20, .ref a21, .int 0, .int 0, .int (-1), .int 0, .int 0, .int 0, .int 0, .int 0, .long 0, .int 0, .int 0, .ref a33, .int 0, .ref a35, .int 0, .ref a37, .ref a38, .int 0, .ref a40, .ref a41, .ref a42, .int 0, .ref a44, .ref a45, .ref a46, .int 0, .int 0, .int 0, .ref a50, .int 0, .ref a52, .ref a53, .int 0, .int 0, .int 0, .int 0, .ref a58, .int 0, .int 0, .ref a61])), (a58, .inl (cN, 10, .inl (fun _ => 0)))] := hD
  refine lv_aload_n hx hb d_MReader_forget_25 rfl (lv_at hl 0 rfl) ?_
  refine lv_iconst (v := -1) hx hb d_MReader_forget_26 (by decide) ?_
  refine va_put (D := (dC, dI)) (ci := 18) (v := .int (-1)) (ty := .int) (C := R_MReader) (T := F_MReader) (N := 62) hx hb hts (i_MReader _) t_MReader t_MReader_ok n_MReader hown hK hP hD hS 0 rfl rfl 25 (by decide) (hts _ (List.mem_cons_of_mem _ q_2276)) (fun _ h9 => h9) rfl (by decide +kernel) rfl rfl (Nat.le_of_ble_eq_true rfl) d_MReader_forget_27 (fun H locs hP hD hS => ?_)
  have hP : va_P (dC, dI) classes [(h0, .inr (18, [.int 0, .ref a1, .int 0, .ref a3, .ref a4, .ref a5, .int 0, .ref a7, .int 0, .ref a9, .ref a10, .ref a11, .ref a12, .ref a13, .ref a14, .ref a15, .ref a16, .ref a17, .int 0, .ref a19, .ref a20, .ref a21, .int 0, .int 0, .int (-1), .int (-1), .int 0, .int 0, .int 0, .int 0, .long 0, .int 0, .int 0, .ref a33, .int 0, .ref a35, .int 0, .ref a37, .ref a38, .int 0, .ref a40, .ref a41, .ref a42, .int 0, .ref a44, .ref a45, .ref a46, .int 0, .int 0, .int 0, .ref a50, .int 0, .ref a52, .ref a53, .int 0, .int 0, .int 0, .int 0, .ref a58, .int 0, .int 0, .ref a61])), (a58, .inl (cN, 10, .inl (fun _ => 0)))] H := hP
  have hD : va_D A [(h0, .inr (18, [.int 0, .ref a1, .int 0, .ref a3, .ref a4, .ref a5, .int 0, .ref a7, .int 0, .ref a9, .ref a10, .ref a11, .ref a12, .ref a13, .ref a14, .ref a15, .ref a16, .ref a17, .int 0, .ref a19, .ref a20, .ref a21, .int 0, .int 0, .int (-1), .int (-1), .int 0, .int 0, .int 0, .int 0, .long 0, .int 0, .int 0, .ref a33, .int 0, .ref a35, .int 0, .ref a37, .ref a38, .int 0, .ref a40, .ref a41, .ref a42, .int 0, .ref a44, .ref a45, .ref a46, .int 0, .int 0, .int 0, .ref a50, .int 0, .ref a52, .ref a53, .int 0, .int 0, .int 0, .int 0, .ref a58, .int 0, .int 0, .ref a61])), (a58, .inl (cN, 10, .inl (fun _ => 0)))] := hD
  refine lv_aload_n hx hb d_MReader_forget_30 rfl (lv_at hl 0 rfl) ?_
  refine lv_iconst (v := 0) hx hb d_MReader_forget_31 (by decide) ?_
  refine va_put (D := (dC, dI)) (ci := 18) (v := .int 0) (ty := .int) (C := R_MReader) (T := F_MReader) (N := 62) hx hb hts (i_MReader _) t_MReader t_MReader_ok n_MReader hown hK hP hD hS 0 rfl rfl 26 (by decide) (hts _ (List.mem_cons_of_mem _ q_2277)) (fun _ h9 => h9) rfl (by decide +kernel) rfl rfl (Nat.le_of_ble_eq_true rfl) d_MReader_forget_32 (fun H locs hP hD hS => ?_)
  have hP : va_P (dC, dI) classes [(h0, .inr (18, [.int 0, .ref a1, .int 0, .ref a3, .ref a4, .ref a5, .int 0, .ref a7, .int 0, .ref a9, .ref a10, .ref a11, .ref a12, .ref a13, .ref a14, .ref a15, .ref a16, .ref a17, .int 0, .ref a19, .ref a20, .ref a21, .int 0, .int 0, .int (-1), .int (-1), .int 0, .int 0, .int 0, .int 0, .long 0, .int 0, .int 0, .ref a33, .int 0, .ref a35, .int 0, .ref a37, .ref a38, .int 0, .ref a40, .ref a41, .ref a42, .int 0, .ref a44, .ref a45, .ref a46, .int 0, .int 0, .int 0, .ref a50, .int 0, .ref a52, .ref a53, .int 0, .int 0, .int 0, .int 0, .ref a58, .int 0, .int 0, .ref a61])), (a58, .inl (cN, 10, .inl (fun _ => 0)))] H := hP
  have hD : va_D A [(h0, .inr (18, [.int 0, .ref a1, .int 0, .ref a3, .ref a4, .ref a5, .int 0, .ref a7, .int 0, .ref a9, .ref a10, .ref a11, .ref a12, .ref a13, .ref a14, .ref a15, .ref a16, .ref a17, .int 0, .ref a19, .ref a20, .ref a21, .int 0, .int 0, .int (-1), .int (-1), .int 0, .int 0, .int 0, .int 0, .long 0, .int 0, .int 0, .ref a33, .int 0, .ref a35, .int 0, .ref a37, .ref a38, .int 0, .ref a40, .ref a41, .ref a42, .int 0, .ref a44, .ref a45, .ref a46, .int 0, .int 0, .int 0, .ref a50, .int 0, .ref a52, .ref a53, .int 0, .int 0, .int 0, .int 0, .ref a58, .int 0, .int 0, .ref a61])), (a58, .inl (cN, 10, .inl (fun _ => 0)))] := hD
  refine lv_aload_n hx hb d_MReader_forget_35 rfl (lv_at hl 0 rfl) ?_
  refine lv_iconst (v := -1) hx hb d_MReader_forget_36 (by decide) ?_
  refine va_put (D := (dC, dI)) (ci := 18) (v := .int (-1)) (ty := .int) (C := R_MReader) (T := F_MReader) (N := 62) hx hb hts (i_MReader _) t_MReader t_MReader_ok n_MReader hown hK hP hD hS 0 rfl rfl 27 (by decide) (hts _ (List.mem_cons_of_mem _ q_2279)) (fun _ h9 => h9) rfl (by decide +kernel) rfl rfl (Nat.le_of_ble_eq_true rfl) d_MReader_forget_37 (fun H locs hP hD hS => ?_)
  have hP : va_P (dC, dI) classes [(h0, .inr (18, [.int 0, .ref a1, .int 0, .ref a3, .ref a4, .ref a5, .int 0, .ref a7, .int 0, .ref a9, .ref a10, .ref a11, .ref a12, .ref a13, .ref a14, .ref a15, .ref a16, .ref a17, .int 0, .ref a19, .ref a20, .ref a21, .int 0, .int 0, .int (-1), .int (-1), .int 0, .int (-1), .int 0, .int 0, .long 0, .int 0, .int 0, .ref a33, .int 0, .ref a35, .int 0, .ref a37, .ref a38, .int 0, .ref a40, .ref a41, .ref a42, .int 0, .ref a44, .ref a45, .ref a46, .int 0, .int 0, .int 0, .ref a50, .int 0, .ref a52, .ref a53, .int 0, .int 0, .int 0, .int 0, .ref a58, .int 0, .int 0, .ref a61])), (a58, .inl (cN, 10, .inl (fun _ => 0)))] H := hP
  have hD : va_D A [(h0, .inr (18, [.int 0, .ref a1, .int 0, .ref a3, .ref a4, .ref a5, .int 0, .ref a7, .int 0, .ref a9, .ref a10, .ref a11, .ref a12, .ref a13, .ref a14, .ref a15, .ref a16, .ref a17, .int 0, .ref a19, .ref a20, .ref a21, .int 0, .int 0, .int (-1), .int (-1), .int 0, .int (-1), .int 0, .int 0, .long 0, .int 0, .int 0, .ref a33, .int 0, .ref a35, .int 0, .ref a37, .ref a38, .int 0, .ref a40, .ref a41, .ref a42, .int 0, .ref a44, .ref a45, .ref a46, .int 0, .int 0, .int 0, .ref a50, .int 0, .ref a52, .ref a53, .int 0, .int 0, .int 0, .int 0, .ref a58, .int 0, .int 0, .ref a61])), (a58, .inl (cN, 10, .inl (fun _ => 0)))] := hD
  refine lv_aload_n hx hb d_MReader_forget_40 rfl (lv_at hl 0 rfl) ?_
  refine lv_iconst (v := 0) hx hb d_MReader_forget_41 (by decide) ?_
  refine va_put (D := (dC, dI)) (ci := 18) (v := .int 0) (ty := .boolean) (C := R_MReader) (T := F_MReader) (N := 62) hx hb hts (i_MReader _) t_MReader t_MReader_ok n_MReader hown hK hP hD hS 0 rfl rfl 28 (by decide) (hts _ (List.mem_cons_of_mem _ q_2281)) (fun _ h9 => h9) rfl (by decide +kernel) rfl rfl (Nat.le_of_ble_eq_true rfl) d_MReader_forget_42 (fun H locs hP hD hS => ?_)
  have hP : va_P (dC, dI) classes [(h0, .inr (18, [.int 0, .ref a1, .int 0, .ref a3, .ref a4, .ref a5, .int 0, .ref a7, .int 0, .ref a9, .ref a10, .ref a11, .ref a12, .ref a13, .ref a14, .ref a15, .ref a16, .ref a17, .int 0, .ref a19, .ref a20, .ref a21, .int 0, .int 0, .int (-1), .int (-1), .int 0, .int (-1), .int 0, .int 0, .long 0, .int 0, .int 0, .ref a33, .int 0, .ref a35, .int 0, .ref a37, .ref a38, .int 0, .ref a40, .ref a41, .ref a42, .int 0, .ref a44, .ref a45, .ref a46, .int 0, .int 0, .int 0, .ref a50, .int 0, .ref a52, .ref a53, .int 0, .int 0, .int 0, .int 0, .ref a58, .int 0, .int 0, .ref a61])), (a58, .inl (cN, 10, .inl (fun _ => 0)))] H := hP
  have hD : va_D A [(h0, .inr (18, [.int 0, .ref a1, .int 0, .ref a3, .ref a4, .ref a5, .int 0, .ref a7, .int 0, .ref a9, .ref a10, .ref a11, .ref a12, .ref a13, .ref a14, .ref a15, .ref a16, .ref a17, .int 0, .ref a19, .ref a20, .ref a21, .int 0, .int 0, .int (-1), .int (-1), .int 0, .int (-1), .int 0, .int 0, .long 0, .int 0, .int 0, .ref a33, .int 0, .ref a35, .int 0, .ref a37, .ref a38, .int 0, .ref a40, .ref a41, .ref a42, .int 0, .ref a44, .ref a45, .ref a46, .int 0, .int 0, .int 0, .ref a50, .int 0, .ref a52, .ref a53, .int 0, .int 0, .int 0, .int 0, .ref a58, .int 0, .int 0, .ref a61])), (a58, .inl (cN, 10, .inl (fun _ => 0)))] := hD
  refine lv_aload_n hx hb d_MReader_forget_45 rfl (lv_at hl 0 rfl) ?_
  refine lv_iconst (v := 0) hx hb d_MReader_forget_46 (by decide) ?_
  refine va_put (D := (dC, dI)) (ci := 18) (v := .int 0) (ty := .boolean) (C := R_MReader) (T := F_MReader) (N := 62) hx hb hts (i_MReader _) t_MReader t_MReader_ok n_MReader hown hK hP hD hS 0 rfl rfl 29 (by decide) (hts _ (List.mem_cons_of_mem _ q_2282)) (fun _ h9 => h9) rfl (by decide +kernel) rfl rfl (Nat.le_of_ble_eq_true rfl) d_MReader_forget_47 (fun H locs hP hD hS => ?_)
  have hP : va_P (dC, dI) classes [(h0, .inr (18, [.int 0, .ref a1, .int 0, .ref a3, .ref a4, .ref a5, .int 0, .ref a7, .int 0, .ref a9, .ref a10, .ref a11, .ref a12, .ref a13, .ref a14, .ref a15, .ref a16, .ref a17, .int 0, .ref a19, .ref a20, .ref a21, .int 0, .int 0, .int (-1), .int (-1), .int 0, .int (-1), .int 0, .int 0, .long 0, .int 0, .int 0, .ref a33, .int 0, .ref a35, .int 0, .ref a37, .ref a38, .int 0, .ref a40, .ref a41, .ref a42, .int 0, .ref a44, .ref a45, .ref a46, .int 0, .int 0, .int 0, .ref a50, .int 0, .ref a52, .ref a53, .int 0, .int 0, .int 0, .int 0, .ref a58, .int 0, .int 0, .ref a61])), (a58, .inl (cN, 10, .inl (fun _ => 0)))] H := hP
  have hD : va_D A [(h0, .inr (18, [.int 0, .ref a1, .int 0, .ref a3, .ref a4, .ref a5, .int 0, .ref a7, .int 0, .ref a9, .ref a10, .ref a11, .ref a12, .ref a13, .ref a14, .ref a15, .ref a16, .ref a17, .int 0, .ref a19, .ref a20, .ref a21, .int 0, .int 0, .int (-1), .int (-1), .int 0, .int (-1), .int 0, .int 0, .long 0, .int 0, .int 0, .ref a33, .int 0, .ref a35, .int 0, .ref a37, .ref a38, .int 0, .ref a40, .ref a41, .ref a42, .int 0, .ref a44, .ref a45, .ref a46, .int 0, .int 0, .int 0, .ref a50, .int 0, .ref a52, .ref a53, .int 0, .int 0, .int 0, .int 0, .ref a58, .int 0, .int 0, .ref a61])), (a58, .inl (cN, 10, .inl (fun _ => 0)))] := hD
  refine lv_aload_n hx hb d_MReader_forget_50 rfl (lv_at hl 0 rfl) ?_
  refine lv_ldc2 (v := -1) hx hb hown (hts _ (List.mem_cons_of_mem _ q_2236)) d_MReader_forget_51 ?_
  refine va_put (D := (dC, dI)) (ci := 18) (v := .long (-1)) (ty := .long) (C := R_MReader) (T := F_MReader) (N := 62) hx hb hts (i_MReader _) t_MReader t_MReader_ok n_MReader hown hK hP hD hS 0 rfl rfl 30 (by decide) (hts _ (List.mem_cons_of_mem _ q_2284)) (fun _ h9 => h9) rfl (by decide +kernel) rfl rfl (Nat.le_of_ble_eq_true rfl) d_MReader_forget_54 (fun H locs hP hD hS => ?_)
  have hP : va_P (dC, dI) classes [(h0, .inr (18, [.int 0, .ref a1, .int 0, .ref a3, .ref a4, .ref a5, .int 0, .ref a7, .int 0, .ref a9, .ref a10, .ref a11, .ref a12, .ref a13, .ref a14, .ref a15, .ref a16, .ref a17, .int 0, .ref a19, .ref a20, .ref a21, .int 0, .int 0, .int (-1), .int (-1), .int 0, .int (-1), .int 0, .int 0, .long (-1), .int 0, .int 0, .ref a33, .int 0, .ref a35, .int 0, .ref a37, .ref a38, .int 0, .ref a40, .ref a41, .ref a42, .int 0, .ref a44, .ref a45, .ref a46, .int 0, .int 0, .int 0, .ref a50, .int 0, .ref a52, .ref a53, .int 0, .int 0, .int 0, .int 0, .ref a58, .int 0, .int 0, .ref a61])), (a58, .inl (cN, 10, .inl (fun _ => 0)))] H := hP
  have hD : va_D A [(h0, .inr (18, [.int 0, .ref a1, .int 0, .ref a3, .ref a4, .ref a5, .int 0, .ref a7, .int 0, .ref a9, .ref a10, .ref a11, .ref a12, .ref a13, .ref a14, .ref a15, .ref a16, .ref a17, .int 0, .ref a19, .ref a20, .ref a21, .int 0, .int 0, .int (-1), .int (-1), .int 0, .int (-1), .int 0, .int 0, .long (-1), .int 0, .int 0, .ref a33, .int 0, .ref a35, .int 0, .ref a37, .ref a38, .int 0, .ref a40, .ref a41, .ref a42, .int 0, .ref a44, .ref a45, .ref a46, .int 0, .int 0, .int 0, .ref a50, .int 0, .ref a52, .ref a53, .int 0, .int 0, .int 0, .int 0, .ref a58, .int 0, .int 0, .ref a61])), (a58, .inl (cN, 10, .inl (fun _ => 0)))] := hD
  refine lv_aload_n hx hb d_MReader_forget_57 rfl (lv_at hl 0 rfl) ?_
  refine lv_iconst (v := -1) hx hb d_MReader_forget_58 (by decide) ?_
  refine va_put (D := (dC, dI)) (ci := 18) (v := .int (-1)) (ty := .int) (C := R_MReader) (T := F_MReader) (N := 62) hx hb hts (i_MReader _) t_MReader t_MReader_ok n_MReader hown hK hP hD hS 0 rfl rfl 31 (by decide) (hts _ (List.mem_cons_of_mem _ q_2286)) (fun _ h9 => h9) rfl (by decide +kernel) rfl rfl (Nat.le_of_ble_eq_true rfl) d_MReader_forget_59 (fun H locs hP hD hS => ?_)
  have hP : va_P (dC, dI) classes [(h0, .inr (18, [.int 0, .ref a1, .int 0, .ref a3, .ref a4, .ref a5, .int 0, .ref a7, .int 0, .ref a9, .ref a10, .ref a11, .ref a12, .ref a13, .ref a14, .ref a15, .ref a16, .ref a17, .int 0, .ref a19, .ref a20, .ref a21, .int 0, .int 0, .int (-1), .int (-1), .int 0, .int (-1), .int 0, .int 0, .long (-1), .int (-1), .int 0, .ref a33, .int 0, .ref a35, .int 0, .ref a37, .ref a38, .int 0, .ref a40, .ref a41, .ref a42, .int 0, .ref a44, .ref a45, .ref a46, .int 0, .int 0, .int 0, .ref a50, .int 0, .ref a52, .ref a53, .int 0, .int 0, .int 0, .int 0, .ref a58, .int 0, .int 0, .ref a61])), (a58, .inl (cN, 10, .inl (fun _ => 0)))] H := hP
  have hD : va_D A [(h0, .inr (18, [.int 0, .ref a1, .int 0, .ref a3, .ref a4, .ref a5, .int 0, .ref a7, .int 0, .ref a9, .ref a10, .ref a11, .ref a12, .ref a13, .ref a14, .ref a15, .ref a16, .ref a17, .int 0, .ref a19, .ref a20, .ref a21, .int 0, .int 0, .int (-1), .int (-1), .int 0, .int (-1), .int 0, .int 0, .long (-1), .int (-1), .int 0, .ref a33, .int 0, .ref a35, .int 0, .ref a37, .ref a38, .int 0, .ref a40, .ref a41, .ref a42, .int 0, .ref a44, .ref a45, .ref a46, .int 0, .int 0, .int 0, .ref a50, .int 0, .ref a52, .ref a53, .int 0, .int 0, .int 0, .int 0, .ref a58, .int 0, .int 0, .ref a61])), (a58, .inl (cN, 10, .inl (fun _ => 0)))] := hD
  refine lv_aload_n hx hb d_MReader_forget_62 rfl (lv_at hl 0 rfl) ?_
  refine lv_iconst (v := 0) hx hb d_MReader_forget_63 (by decide) ?_
  refine va_put (D := (dC, dI)) (ci := 18) (v := .int 0) (ty := .int) (C := R_MReader) (T := F_MReader) (N := 62) hx hb hts (i_MReader _) t_MReader t_MReader_ok n_MReader hown hK hP hD hS 0 rfl rfl 32 (by decide) (hts _ (List.mem_cons_of_mem _ q_2289)) (fun _ h9 => h9) rfl (by decide +kernel) rfl rfl (Nat.le_of_ble_eq_true rfl) d_MReader_forget_64 (fun H locs hP hD hS => ?_)
  have hP : va_P (dC, dI) classes [(h0, .inr (18, [.int 0, .ref a1, .int 0, .ref a3, .ref a4, .ref a5, .int 0, .ref a7, .int 0, .ref a9, .ref a10, .ref a11, .ref a12, .ref a13, .ref a14, .ref a15, .ref a16, .ref a17, .int 0, .ref a19, .ref a20, .ref a21, .int 0, .int 0, .int (-1), .int (-1), .int 0, .int (-1), .int 0, .int 0, .long (-1), .int (-1), .int 0, .ref a33, .int 0, .ref a35, .int 0, .ref a37, .ref a38, .int 0, .ref a40, .ref a41, .ref a42, .int 0, .ref a44, .ref a45, .ref a46, .int 0, .int 0, .int 0, .ref a50, .int 0, .ref a52, .ref a53, .int 0, .int 0, .int 0, .int 0, .ref a58, .int 0, .int 0, .ref a61])), (a58, .inl (cN, 10, .inl (fun _ => 0)))] H := hP
  have hD : va_D A [(h0, .inr (18, [.int 0, .ref a1, .int 0, .ref a3, .ref a4, .ref a5, .int 0, .ref a7, .int 0, .ref a9, .ref a10, .ref a11, .ref a12, .ref a13, .ref a14, .ref a15, .ref a16, .ref a17, .int 0, .ref a19, .ref a20, .ref a21, .int 0, .int 0, .int (-1), .int (-1), .int 0, .int (-1), .int 0, .int 0, .long (-1), .int (-1), .int 0, .ref a33, .int 0, .ref a35, .int 0, .ref a37, .ref a38, .int 0, .ref a40, .ref a41, .ref a42, .int 0, .ref a44, .ref a45, .ref a46, .int 0, .int 0, .int 0, .ref a50, .int 0, .ref a52, .ref a53, .int 0, .int 0, .int 0, .int 0, .ref a58, .int 0, .int 0, .ref a61])), (a58, .inl (cN, 10, .inl (fun _ => 0)))] := hD
  refine lv_aload_n hx hb d_MReader_forget_67 rfl (lv_at hl 0 rfl) ?_
  refine lv_iconst (v := 0) hx hb d_MReader_forget_68 (by decide) ?_
  refine va_put (D := (dC, dI)) (ci := 18) (v := .int 0) (ty := .int) (C := R_MReader) (T := F_MReader) (N := 62) hx hb hts (i_MReader _) t_MReader t_MReader_ok n_MReader hown hK hP hD hS 0 rfl rfl 34 (by decide) (hts _ (List.mem_cons_of_mem _ q_2295)) (fun _ h9 => h9) rfl (by decide +kernel) rfl rfl (Nat.le_of_ble_eq_true rfl) d_MReader_forget_69 (fun H locs hP hD hS => ?_)
  have hP : va_P (dC, dI) classes [(h0, .inr (18, [.int 0, .ref a1, .int 0, .ref a3, .ref a4, .ref a5, .int 0, .ref a7, .int 0, .ref a9, .ref a10, .ref a11, .ref a12, .ref a13, .ref a14, .ref a15, .ref a16, .ref a17, .int 0, .ref a19, .ref a20, .ref a21, .int 0, .int 0, .int (-1), .int (-1), .int 0, .int (-1), .int 0, .int 0, .long (-1), .int (-1), .int 0, .ref a33, .int 0, .ref a35, .int 0, .ref a37, .ref a38, .int 0, .ref a40, .ref a41, .ref a42, .int 0, .ref a44, .ref a45, .ref a46, .int 0, .int 0, .int 0, .ref a50, .int 0, .ref a52, .ref a53, .int 0, .int 0, .int 0, .int 0, .ref a58, .int 0, .int 0, .ref a61])), (a58, .inl (cN, 10, .inl (fun _ => 0)))] H := hP
  have hD : va_D A [(h0, .inr (18, [.int 0, .ref a1, .int 0, .ref a3, .ref a4, .ref a5, .int 0, .ref a7, .int 0, .ref a9, .ref a10, .ref a11, .ref a12, .ref a13, .ref a14, .ref a15, .ref a16, .ref a17, .int 0, .ref a19, .ref a20, .ref a21, .int 0, .int 0, .int (-1), .int (-1), .int 0, .int (-1), .int 0, .int 0, .long (-1), .int (-1), .int 0, .ref a33, .int 0, .ref a35, .int 0, .ref a37, .ref a38, .int 0, .ref a40, .ref a41, .ref a42, .int 0, .ref a44, .ref a45, .ref a46, .int 0, .int 0, .int 0, .ref a50, .int 0, .ref a52, .ref a53, .int 0, .int 0, .int 0, .int 0, .ref a58, .int 0, .int 0, .ref a61])), (a58, .inl (cN, 10, .inl (fun _ => 0)))] := hD
  refine lv_aload_n hx hb d_MReader_forget_72 rfl (lv_at hl 0 rfl) ?_
  refine lv_iconst (v := 0) hx hb d_MReader_forget_73 (by decide) ?_
  refine va_put (D := (dC, dI)) (ci := 18) (v := .int 0) (ty := .int) (C := R_MReader) (T := F_MReader) (N := 62) hx hb hts (i_MReader _) t_MReader t_MReader_ok n_MReader hown hK hP hD hS 0 rfl rfl 36 (by decide) (hts _ (List.mem_cons_of_mem _ q_2299)) (fun _ h9 => h9) rfl (by decide +kernel) rfl rfl (Nat.le_of_ble_eq_true rfl) d_MReader_forget_74 (fun H locs hP hD hS => ?_)
  have hP : va_P (dC, dI) classes [(h0, .inr (18, [.int 0, .ref a1, .int 0, .ref a3, .ref a4, .ref a5, .int 0, .ref a7, .int 0, .ref a9, .ref a10, .ref a11, .ref a12, .ref a13, .ref a14, .ref a15, .ref a16, .ref a17, .int 0, .ref a19, .ref a20, .ref a21, .int 0, .int 0, .int (-1), .int (-1), .int 0, .int (-1), .int 0, .int 0, .long (-1), .int (-1), .int 0, .ref a33, .int 0, .ref a35, .int 0, .ref a37, .ref a38, .int 0, .ref a40, .ref a41, .ref a42, .int 0, .ref a44, .ref a45, .ref a46, .int 0, .int 0, .int 0, .ref a50, .int 0, .ref a52, .ref a53, .int 0, .int 0, .int 0, .int 0, .ref a58, .int 0, .int 0, .ref a61])), (a58, .inl (cN, 10, .inl (fun _ => 0)))] H := hP
  have hD : va_D A [(h0, .inr (18, [.int 0, .ref a1, .int 0, .ref a3, .ref a4, .ref a5, .int 0, .ref a7, .int 0, .ref a9, .ref a10, .ref a11, .ref a12, .ref a13, .ref a14, .ref a15, .ref a16, .ref a17, .int 0, .ref a19, .ref a20, .ref a21, .int 0, .int 0, .int (-1), .int (-1), .int 0, .int (-1), .int 0, .int 0, .long (-1), .int (-1), .int 0, .ref a33, .int 0, .ref a35, .int 0, .ref a37, .ref a38, .int 0, .ref a40, .ref a41, .ref a42, .int 0, .ref a44, .ref a45, .ref a46, .int 0, .int 0, .int 0, .ref a50, .int 0, .ref a52, .ref a53, .int 0, .int 0, .int 0, .int 0, .ref a58, .int 0, .int 0, .ref a61])), (a58, .inl (cN, 10, .inl (fun _ => 0)))] := hD
  refine lv_aload_n hx hb d_MReader_forget_77 rfl (lv_at hl 0 rfl) ?_
  refine lv_iconst (v := 0) hx hb d_MReader_forget_78 (by decide) ?_
  refine va_put (D := (dC, dI)) (ci := 18) (v := .int 0) (ty := .int) (C := R_MReader) (T := F_MReader) (N := 62) hx hb hts (i_MReader _) t_MReader t_MReader_ok n_MReader hown hK hP hD hS 0 rfl rfl 39 (by decide) (hts _ (List.mem_cons_of_mem _ q_2305)) (fun _ h9 => h9) rfl (by decide +kernel) rfl rfl (Nat.le_of_ble_eq_true rfl) d_MReader_forget_79 (fun H locs hP hD hS => ?_)
  have hP : va_P (dC, dI) classes [(h0, .inr (18, [.int 0, .ref a1, .int 0, .ref a3, .ref a4, .ref a5, .int 0, .ref a7, .int 0, .ref a9, .ref a10, .ref a11, .ref a12, .ref a13, .ref a14, .ref a15, .ref a16, .ref a17, .int 0, .ref a19, .ref a20, .ref a21, .int 0, .int 0, .int (-1), .int (-1), .int 0, .int (-1), .int 0, .int 0, .long (-1), .int (-1), .int 0, .ref a33, .int 0, .ref a35, .int 0, .ref a37, .ref a38, .int 0, .ref a40, .ref a41, .ref a42, .int 0, .ref a44, .ref a45, .ref a46, .int 0, .int 0, .int 0, .ref a50, .int 0, .ref a52, .ref a53, .int 0, .int 0, .int 0, .int 0, .ref a58, .int 0, .int 0, .ref a61])), (a58, .inl (cN, 10, .inl (fun _ => 0)))] H := hP
  have hD : va_D A [(h0, .inr (18, [.int 0, .ref a1, .int 0, .ref a3, .ref a4, .ref a5, .int 0, .ref a7, .int 0, .ref a9, .ref a10, .ref a11, .ref a12, .ref a13, .ref a14, .ref a15, .ref a16, .ref a17, .int 0, .ref a19, .ref a20, .ref a21, .int 0, .int 0, .int (-1), .int (-1), .int 0, .int (-1), .int 0, .int 0, .long (-1), .int (-1), .int 0, .ref a33, .int 0, .ref a35, .int 0, .ref a37, .ref a38, .int 0, .ref a40, .ref a41, .ref a42, .int 0, .ref a44, .ref a45, .ref a46, .int 0, .int 0, .int 0, .ref a50, .int 0, .ref a52, .ref a53, .int 0, .int 0, .int 0, .int 0, .ref a58, .int 0, .int 0, .ref a61])), (a58, .inl (cN, 10, .inl (fun _ => 0)))] := hD
  refine lv_aload_n hx hb d_MReader_forget_82 rfl (lv_at hl 0 rfl) ?_
  refine lv_iconst (v := 0) hx hb d_MReader_forget_83 (by decide) ?_
  refine va_put (D := (dC, dI)) (ci := 18) (v := .int 0) (ty := .int) (C := R_MReader) (T := F_MReader) (N := 62) hx hb hts (i_MReader _) t_MReader t_MReader_ok n_MReader hown hK hP hD hS 0 rfl rfl 43 (by decide) (hts _ (List.mem_cons_of_mem _ q_2312)) (fun _ h9 => h9) rfl (by decide +kernel) rfl rfl (Nat.le_of_ble_eq_true rfl) d_MReader_forget_84 (fun H locs hP hD hS => ?_)
  have hP : va_P (dC, dI) classes [(h0, .inr (18, [.int 0, .ref a1, .int 0, .ref a3, .ref a4, .ref a5, .int 0, .ref a7, .int 0, .ref a9, .ref a10, .ref a11, .ref a12, .ref a13, .ref a14, .ref a15, .ref a16, .ref a17, .int 0, .ref a19, .ref a20, .ref a21, .int 0, .int 0, .int (-1), .int (-1), .int 0, .int (-1), .int 0, .int 0, .long (-1), .int (-1), .int 0, .ref a33, .int 0, .ref a35, .int 0, .ref a37, .ref a38, .int 0, .ref a40, .ref a41, .ref a42, .int 0, .ref a44, .ref a45, .ref a46, .int 0, .int 0, .int 0, .ref a50, .int 0, .ref a52, .ref a53, .int 0, .int 0, .int 0, .int 0, .ref a58, .int 0, .int 0, .ref a61])), (a58, .inl (cN, 10, .inl (fun _ => 0)))] H := hP
  have hD : va_D A [(h0, .inr (18, [.int 0, .ref a1, .int 0, .ref a3, .ref a4, .ref a5, .int 0, .ref a7, .int 0, .ref a9, .ref a10, .ref a11, .ref a12, .ref a13, .ref a14, .ref a15, .ref a16, .ref a17, .int 0, .ref a19, .ref a20, .ref a21, .int 0, .int 0, .int (-1), .int (-1), .int 0, .int (-1), .int 0, .int 0, .long (-1), .int (-1), .int 0, .ref a33, .int 0, .ref a35, .int 0, .ref a37, .ref a38, .int 0, .ref a40, .ref a41, .ref a42, .int 0, .ref a44, .ref a45, .ref a46, .int 0, .int 0, .int 0, .ref a50, .int 0, .ref a52, .ref a53, .int 0, .int 0, .int 0, .int 0, .ref a58, .int 0, .int 0, .ref a61])), (a58, .inl (cN, 10, .inl (fun _ => 0)))] := hD
  refine lv_aload_n hx hb d_MReader_forget_87 rfl (lv_at hl 0 rfl) ?_
  refine lv_iconst (v := 0) hx hb d_MReader_forget_88 (by decide) ?_
  refine va_put (D := (dC, dI)) (ci := 18) (v := .int 0) (ty := .int) (C := R_MReader) (T := F_MReader) (N := 62) hx hb hts (i_MReader _) t_MReader t_MReader_ok n_MReader hown hK hP hD hS 0 rfl rfl 47 (by decide) (hts _ (List.mem_cons_of_mem _ q_2319)) (fun _ h9 => h9) rfl (by decide +kernel) rfl rfl (Nat.le_of_ble_eq_true rfl) d_MReader_forget_89 (fun H locs hP hD hS => ?_)
  have hP : va_P (dC, dI) classes [(h0, .inr (18, [.int 0, .ref a1, .int 0, .ref a3, .ref a4, .ref a5, .int 0, .ref a7, .int 0, .ref a9, .ref a10, .ref a11, .ref a12, .ref a13, .ref a14, .ref a15, .ref a16, .ref a17, .int 0, .ref a19, .ref a20, .ref a21, .int 0, .int 0, .int (-1), .int (-1), .int 0, .int (-1), .int 0, .int 0, .long (-1), .int (-1), .int 0, .ref a33, .int 0, .ref a35, .int 0, .ref a37, .ref a38, .int 0, .ref a40, .ref a41, .ref a42, .int 0, .ref a44, .ref a45, .ref a46, .int 0, .int 0, .int 0, .ref a50, .int 0, .ref a52, .ref a53, .int 0, .int 0, .int 0, .int 0, .ref a58, .int 0, .int 0, .ref a61])), (a58, .inl (cN, 10, .inl (fun _ => 0)))] H := hP
  have hD : va_D A [(h0, .inr (18, [.int 0, .ref a1, .int 0, .ref a3, .ref a4, .ref a5, .int 0, .ref a7, .int 0, .ref a9, .ref a10, .ref a11, .ref a12, .ref a13, .ref a14, .ref a15, .ref a16, .ref a17, .int 0, .ref a19, .ref a20, .ref a21, .int 0, .int 0, .int (-1), .int (-1), .int 0, .int (-1), .int 0, .int 0, .long (-1), .int (-1), .int 0, .ref a33, .int 0, .ref a35, .int 0, .ref a37, .ref a38, .int 0, .ref a40, .ref a41, .ref a42, .int 0, .ref a44, .ref a45, .ref a46, .int 0, .int 0, .int 0, .ref a50, .int 0, .ref a52, .ref a53, .int 0, .int 0, .int 0, .int 0, .ref a58, .int 0, .int 0, .ref a61])), (a58, .inl (cN, 10, .inl (fun _ => 0)))] := hD
  refine lv_aload_n hx hb d_MReader_forget_92 rfl (lv_at hl 0 rfl) ?_
  refine lv_iconst (v := 0) hx hb d_MReader_forget_93 (by decide) ?_
  refine va_put (D := (dC, dI)) (ci := 18) (v := .int 0) (ty := .boolean) (C := R_MReader) (T := F_MReader) (N := 62) hx hb hts (i_MReader _) t_MReader t_MReader_ok n_MReader hown hK hP hD hS 0 rfl rfl 48 (by decide) (hts _ (List.mem_cons_of_mem _ q_2321)) (fun _ h9 => h9) rfl (by decide +kernel) rfl rfl (Nat.le_of_ble_eq_true rfl) d_MReader_forget_94 (fun H locs hP hD hS => ?_)
  have hP : va_P (dC, dI) classes [(h0, .inr (18, [.int 0, .ref a1, .int 0, .ref a3, .ref a4, .ref a5, .int 0, .ref a7, .int 0, .ref a9, .ref a10, .ref a11, .ref a12, .ref a13, .ref a14, .ref a15, .ref a16, .ref a17, .int 0, .ref a19, .ref a20, .ref a21, .int 0, .int 0, .int (-1), .int (-1), .int 0, .int (-1), .int 0, .int 0, .long (-1), .int (-1), .int 0, .ref a33, .int 0, .ref a35, .int 0, .ref a37, .ref a38, .int 0, .ref a40, .ref a41, .ref a42, .int 0, .ref a44, .ref a45, .ref a46, .int 0, .int 0, .int 0, .ref a50, .int 0, .ref a52, .ref a53, .int 0, .int 0, .int 0, .int 0, .ref a58, .int 0, .int 0, .ref a61])), (a58, .inl (cN, 10, .inl (fun _ => 0)))] H := hP
  have hD : va_D A [(h0, .inr (18, [.int 0, .ref a1, .int 0, .ref a3, .ref a4, .ref a5, .int 0, .ref a7, .int 0, .ref a9, .ref a10, .ref a11, .ref a12, .ref a13, .ref a14, .ref a15, .ref a16, .ref a17, .int 0, .ref a19, .ref a20, .ref a21, .int 0, .int 0, .int (-1), .int (-1), .int 0, .int (-1), .int 0, .int 0, .long (-1), .int (-1), .int 0, .ref a33, .int 0, .ref a35, .int 0, .ref a37, .ref a38, .int 0, .ref a40, .ref a41, .ref a42, .int 0, .ref a44, .ref a45, .ref a46, .int 0, .int 0, .int 0, .ref a50, .int 0, .ref a52, .ref a53, .int 0, .int 0, .int 0, .int 0, .ref a58, .int 0, .int 0, .ref a61])), (a58, .inl (cN, 10, .inl (fun _ => 0)))] := hD
  refine lv_aload_n hx hb d_MReader_forget_97 rfl (lv_at hl 0 rfl) ?_
  refine lv_iconst (v := 0) hx hb d_MReader_forget_98 (by decide) ?_
  refine va_put (D := (dC, dI)) (ci := 18) (v := .int 0) (ty := .int) (C := R_MReader) (T := F_MReader) (N := 62) hx hb hts (i_MReader _) t_MReader t_MReader_ok n_MReader hown hK hP hD hS 0 rfl rfl 49 (by decide) (hts _ (List.mem_cons_of_mem _ q_2322)) (fun _ h9 => h9) rfl (by decide +kernel) rfl rfl (Nat.le_of_ble_eq_true rfl) d_MReader_forget_99 (fun H locs hP hD hS => ?_)
  have hP : va_P (dC, dI) classes [(h0, .inr (18, [.int 0, .ref a1, .int 0, .ref a3, .ref a4, .ref a5, .int 0, .ref a7, .int 0, .ref a9, .ref a10, .ref a11, .ref a12, .ref a13, .ref a14, .ref a15, .ref a16, .ref a17, .int 0, .ref a19, .ref a20, .ref a21, .int 0, .int 0, .int (-1), .int (-1), .int 0, .int (-1), .int 0, .int 0, .long (-1), .int (-1), .int 0, .ref a33, .int 0, .ref a35, .int 0, .ref a37, .ref a38, .int 0, .ref a40, .ref a41, .ref a42, .int 0, .ref a44, .ref a45, .ref a46, .int 0, .int 0, .int 0, .ref a50, .int 0, .ref a52, .ref a53, .int 0, .int 0, .int 0, .int 0, .ref a58, .int 0, .int 0, .ref a61])), (a58, .inl (cN, 10, .inl (fun _ => 0)))] H := hP
  have hD : va_D A [(h0, .inr (18, [.int 0, .ref a1, .int 0, .ref a3, .ref a4, .ref a5, .int 0, .ref a7, .int 0, .ref a9, .ref a10, .ref a11, .ref a12, .ref a13, .ref a14, .ref a15, .ref a16, .ref a17, .int 0, .ref a19, .ref a20, .ref a21, .int 0, .int 0, .int (-1), .int (-1), .int 0, .int (-1), .int 0, .int 0, .long (-1), .int (-1), .int 0, .ref a33, .int 0, .ref a35, .int 0, .ref a37, .ref a38, .int 0, .ref a40, .ref a41, .ref a42, .int 0, .ref a44, .ref a45, .ref a46, .int 0, .int 0, .int 0, .ref a50, .int 0, .ref a52, .ref a53, .int 0, .int 0, .int 0, .int 0, .ref a58, .int 0, .int 0, .ref a61])), (a58, .inl (cN, 10, .inl (fun _ => 0)))] := hD
  refine lv_aload_n hx hb d_MReader_forget_102 rfl (lv_at hl 0 rfl) ?_
  refine lv_iconst (v := 0) hx hb d_MReader_forget_103 (by decide) ?_
  refine va_put (D := (dC, dI)) (ci := 18) (v := .int 0) (ty := .int) (C := R_MReader) (T := F_MReader) (N := 62) hx hb hts (i_MReader _) t_MReader t_MReader_ok n_MReader hown hK hP hD hS 0 rfl rfl 51 (by decide) (hts _ (List.mem_cons_of_mem _ q_2326)) (fun _ h9 => h9) rfl (by decide +kernel) rfl rfl (Nat.le_of_ble_eq_true rfl) d_MReader_forget_104 (fun H locs hP hD hS => ?_)
  have hP : va_P (dC, dI) classes [(h0, .inr (18, [.int 0, .ref a1, .int 0, .ref a3, .ref a4, .ref a5, .int 0, .ref a7, .int 0, .ref a9, .ref a10, .ref a11, .ref a12, .ref a13, .ref a14, .ref a15, .ref a16, .ref a17, .int 0, .ref a19, .ref a20, .ref a21, .int 0, .int 0, .int (-1), .int (-1), .int 0, .int (-1), .int 0, .int 0, .long (-1), .int (-1), .int 0, .ref a33, .int 0, .ref a35, .int 0, .ref a37, .ref a38, .int 0, .ref a40, .ref a41, .ref a42, .int 0, .ref a44, .ref a45, .ref a46, .int 0, .int 0, .int 0, .ref a50, .int 0, .ref a52, .ref a53, .int 0, .int 0, .int 0, .int 0, .ref a58, .int 0, .int 0, .ref a61])), (a58, .inl (cN, 10, .inl (fun _ => 0)))] H := hP
  have hD : va_D A [(h0, .inr (18, [.int 0, .ref a1, .int 0, .ref a3, .ref a4, .ref a5, .int 0, .ref a7, .int 0, .ref a9, .ref a10, .ref a11, .ref a12, .ref a13, .ref a14, .ref a15, .ref a16, .ref a17, .int 0, .ref a19, .ref a20, .ref a21, .int 0, .int 0, .int (-1), .int (-1), .int 0, .int (-1), .int 0, .int 0, .long (-1), .int (-1), .int 0, .ref a33, .int 0, .ref a35, .int 0, .ref a37, .ref a38, .int 0, .ref a40, .ref a41, .ref a42, .int 0, .ref a44, .ref a45, .ref a46, .int 0, .int 0, .int 0, .ref a50, .int 0, .ref a52, .ref a53, .int 0, .int 0, .int 0, .int 0, .ref a58, .int 0, .int 0, .ref a61])), (a58, .inl (cN, 10, .inl (fun _ => 0)))] := hD
  refine lv_aload_n hx hb d_MReader_forget_107 rfl (lv_at hl 0 rfl) ?_
  refine lv_iconst (v := -1) hx hb d_MReader_forget_108 (by decide) ?_
  refine va_put (D := (dC, dI)) (ci := 18) (v := .int (-1)) (ty := .int) (C := R_MReader) (T := F_MReader) (N := 62) hx hb hts (i_MReader _) t_MReader t_MReader_ok n_MReader hown hK hP hD hS 0 rfl rfl 54 (by decide) (hts _ (List.mem_cons_of_mem _ q_2332)) (fun _ h9 => h9) rfl (by decide +kernel) rfl rfl (Nat.le_of_ble_eq_true rfl) d_MReader_forget_109 (fun H locs hP hD hS => ?_)
  have hP : va_P (dC, dI) classes [(h0, .inr (18, [.int 0, .ref a1, .int 0, .ref a3, .ref a4, .ref a5, .int 0, .ref a7, .int 0, .ref a9, .ref a10, .ref a11, .ref a12, .ref a13, .ref a14, .ref a15, .ref a16, .ref a17, .int 0, .ref a19, .ref a20, .ref a21, .int 0, .int 0, .int (-1), .int (-1), .int 0, .int (-1), .int 0, .int 0, .long (-1), .int (-1), .int 0, .ref a33, .int 0, .ref a35, .int 0, .ref a37, .ref a38, .int 0, .ref a40, .ref a41, .ref a42, .int 0, .ref a44, .ref a45, .ref a46, .int 0, .int 0, .int 0, .ref a50, .int 0, .ref a52, .ref a53, .int (-1), .int 0, .int 0, .int 0, .ref a58, .int 0, .int 0, .ref a61])), (a58, .inl (cN, 10, .inl (fun _ => 0)))] H := hP
  have hD : va_D A [(h0, .inr (18, [.int 0, .ref a1, .int 0, .ref a3, .ref a4, .ref a5, .int 0, .ref a7, .int 0, .ref a9, .ref a10, .ref a11, .ref a12, .ref a13, .ref a14, .ref a15, .ref a16, .ref a17, .int 0, .ref a19, .ref a20, .ref a21, .int 0, .int 0, .int (-1), .int (-1), .int 0, .int (-1), .int 0, .int 0, .long (-1), .int (-1), .int 0, .ref a33, .int 0, .ref a35, .int 0, .ref a37, .ref a38, .int 0, .ref a40, .ref a41, .ref a42, .int 0, .ref a44, .ref a45, .ref a46, .int 0, .int 0, .int 0, .ref a50, .int 0, .ref a52, .ref a53, .int (-1), .int 0, .int 0, .int 0, .ref a58, .int 0, .int 0, .ref a61])), (a58, .inl (cN, 10, .inl (fun _ => 0)))] := hD
  refine lv_aload_n hx hb d_MReader_forget_112 rfl (lv_at hl 0 rfl) ?_
  refine lv_iconst (v := -1) hx hb d_MReader_forget_113 (by decide) ?_
  refine va_put (D := (dC, dI)) (ci := 18) (v := .int (-1)) (ty := .int) (C := R_MReader) (T := F_MReader) (N := 62) hx hb hts (i_MReader _) t_MReader t_MReader_ok n_MReader hown hK hP hD hS 0 rfl rfl 55 (by decide) (hts _ (List.mem_cons_of_mem _ q_2334)) (fun _ h9 => h9) rfl (by decide +kernel) rfl rfl (Nat.le_of_ble_eq_true rfl) d_MReader_forget_114 (fun H locs hP hD hS => ?_)
  have hP : va_P (dC, dI) classes [(h0, .inr (18, [.int 0, .ref a1, .int 0, .ref a3, .ref a4, .ref a5, .int 0, .ref a7, .int 0, .ref a9, .ref a10, .ref a11, .ref a12, .ref a13, .ref a14, .ref a15, .ref a16, .ref a17, .int 0, .ref a19, .ref a20, .ref a21, .int 0, .int 0, .int (-1), .int (-1), .int 0, .int (-1), .int 0, .int 0, .long (-1), .int (-1), .int 0, .ref a33, .int 0, .ref a35, .int 0, .ref a37, .ref a38, .int 0, .ref a40, .ref a41, .ref a42, .int 0, .ref a44, .ref a45, .ref a46, .int 0, .int 0, .int 0, .ref a50, .int 0, .ref a52, .ref a53, .int (-1), .int (-1), .int 0, .int 0, .ref a58, .int 0, .int 0, .ref a61])), (a58, .inl (cN, 10, .inl (fun _ => 0)))] H := hP
  have hD : va_D A [(h0, .inr (18, [.int 0, .ref a1, .int 0, .ref a3, .ref a4, .ref a5, .int 0, .ref a7, .int 0, .ref a9, .ref a10, .ref a11, .ref a12, .ref a13, .ref a14, .ref a15, .ref a16, .ref a17, .int 0, .ref a19, .ref a20, .ref a21, .int 0, .int 0, .int (-1), .int (-1), .int 0, .int (-1), .int 0, .int 0, .long (-1), .int (-1), .int 0, .ref a33, .int 0, .ref a35, .int 0, .ref a37, .ref a38, .int 0, .ref a40, .ref a41, .ref a42, .int 0, .ref a44, .ref a45, .ref a46, .int 0, .int 0, .int 0, .ref a50, .int 0, .ref a52, .ref a53, .int (-1), .int (-1), .int 0, .int 0, .ref a58, .int 0, .int 0, .ref a61])), (a58, .inl (cN, 10, .inl (fun _ => 0)))] := hD
  refine lv_aload_n hx hb d_MReader_forget_117 rfl (lv_at hl 0 rfl) ?_
  refine lv_iconst (v := 0) hx hb d_MReader_forget_118 (by decide) ?_
  refine va_put (D := (dC, dI)) (ci := 18) (v := .int 0) (ty := .boolean) (C := R_MReader) (T := F_MReader) (N := 62) hx hb hts (i_MReader _) t_MReader t_MReader_ok n_MReader hown hK hP hD hS 0 rfl rfl 56 (by decide) (hts _ (List.mem_cons_of_mem _ q_2335)) (fun _ h9 => h9) rfl (by decide +kernel) rfl rfl (Nat.le_of_ble_eq_true rfl) d_MReader_forget_119 (fun H locs hP hD hS => ?_)
  have hP : va_P (dC, dI) classes [(h0, .inr (18, [.int 0, .ref a1, .int 0, .ref a3, .ref a4, .ref a5, .int 0, .ref a7, .int 0, .ref a9, .ref a10, .ref a11, .ref a12, .ref a13, .ref a14, .ref a15, .ref a16, .ref a17, .int 0, .ref a19, .ref a20, .ref a21, .int 0, .int 0, .int (-1), .int (-1), .int 0, .int (-1), .int 0, .int 0, .long (-1), .int (-1), .int 0, .ref a33, .int 0, .ref a35, .int 0, .ref a37, .ref a38, .int 0, .ref a40, .ref a41, .ref a42, .int 0, .ref a44, .ref a45, .ref a46, .int 0, .int 0, .int 0, .ref a50, .int 0, .ref a52, .ref a53, .int (-1), .int (-1), .int 0, .int 0, .ref a58, .int 0, .int 0, .ref a61])), (a58, .inl (cN, 10, .inl (fun _ => 0)))] H := hP
  have hD : va_D A [(h0, .inr (18, [.int 0, .ref a1, .int 0, .ref a3, .ref a4, .ref a5, .int 0, .ref a7, .int 0, .ref a9, .ref a10, .ref a11, .ref a12, .ref a13, .ref a14, .ref a15, .ref a16, .ref a17, .int 0, .ref a19, .ref a20, .ref a21, .int 0, .int 0, .int (-1), .int (-1), .int 0, .int (-1), .int 0, .int 0, .long (-1), .int (-1), .int 0, .ref a33, .int 0, .ref a35, .int 0, .ref a37, .ref a38, .int 0, .ref a40, .ref a41, .ref a42, .int 0, .ref a44, .ref a45, .ref a46, .int 0, .int 0, .int 0, .ref a50, .int 0, .ref a52, .ref a53, .int (-1), .int (-1), .int 0, .int 0, .ref a58, .int 0, .int 0, .ref a61])), (a58, .inl (cN, 10, .inl (fun _ => 0)))] := hD
  refine lv_aload_n hx hb d_MReader_forget_122 rfl (lv_at hl 0 rfl) ?_
  refine lv_iconst (v := 0) hx hb d_MReader_forget_123 (by decide) ?_
  refine va_put (D := (dC, dI)) (ci := 18) (v := .int 0) (ty := .int) (C := R_MReader) (T := F_MReader) (N := 62) hx hb hts (i_MReader _) t_MReader t_MReader_ok n_MReader hown hK hP hD hS 0 rfl rfl 57 (by decide) (hts _ (List.mem_cons_of_mem _ q_2337)) (fun _ h9 => h9) rfl (by decide +kernel) rfl rfl (Nat.le_of_ble_eq_true rfl) d_MReader_forget_124 (fun H locs hP hD hS => ?_)
  have hP : va_P (dC, dI) classes [(h0, .inr (18, [.int 0, .ref a1, .int 0, .ref a3, .ref a4, .ref a5, .int 0, .ref a7, .int 0, .ref a9, .ref a10, .ref a11, .ref a12, .ref a13, .ref a14, .ref a15, .ref a16, .ref a17, .int 0, .ref a19, .ref a20, .ref a21, .int 0, .int 0, .int (-1), .int (-1), .int 0, .int (-1), .int 0, .int 0, .long (-1), .int (-1), .int 0, .ref a33, .int 0, .ref a35, .int 0, .ref a37, .ref a38, .int 0, .ref a40, .ref a41, .ref a42, .int 0, .ref a44, .ref a45, .ref a46, .int 0, .int 0, .int 0, .ref a50, .int 0, .ref a52, .ref a53, .int (-1), .int (-1), .int 0, .int 0, .ref a58, .int 0, .int 0, .ref a61])), (a58, .inl (cN, 10, .inl (fun _ => 0)))] H := hP
  have hD : va_D A [(h0, .inr (18, [.int 0, .ref a1, .int 0, .ref a3, .ref a4, .ref a5, .int 0, .ref a7, .int 0, .ref a9, .ref a10, .ref a11, .ref a12, .ref a13, .ref a14, .ref a15, .ref a16, .ref a17, .int 0, .ref a19, .ref a20, .ref a21, .int 0, .int 0, .int (-1), .int (-1), .int 0, .int (-1), .int 0, .int 0, .long (-1), .int (-1), .int 0, .ref a33, .int 0, .ref a35, .int 0, .ref a37, .ref a38, .int 0, .ref a40, .ref a41, .ref a42, .int 0, .ref a44, .ref a45, .ref a46, .int 0, .int 0, .int 0, .ref a50, .int 0, .ref a52, .ref a53, .int (-1), .int (-1), .int 0, .int 0, .ref a58, .int 0, .int 0, .ref a61])), (a58, .inl (cN, 10, .inl (fun _ => 0)))] := hD
  refine lv_iconst (v := 0) hx hb d_MReader_forget_127 (by decide) ?_
  refine lv_istore_n (lv' := [(1, .int 0), (0, .ref h0)]) hx hb d_MReader_forget_128 rfl hl (by decide) rfl (fun ls hl => ?_)
  refine lv_iload_n hx hb d_MReader_forget_129 rfl (lv_at hl 0 rfl) ?_
  refine lv_bipush (v := 10) hx hb d_MReader_forget_130 (by decide) ?_
  refine lv_icmp_ge (tgt := 148) hx hb d_MReader_forget_132 (by decide) (fun c_1 => absurd c_1 (by decide)) (fun c_1 => ?_)
  refine lv_aload_n hx hb d_MReader_forget_135 rfl (lv_at hl 1 rfl) ?_
  refine va_get (D := (dC, dI)) (ci := 18) (v := .ref a58) (C := R_MReader) (T := F_MReader) (N := 62) hx hb hts (i_MReader _) hown hK hP 0 rfl rfl 58 (by decide) (hts _ (List.mem_cons_of_mem _ q_2339)) (fun _ h9 => h9) rfl d_MReader_forget_136 ?_
  refine lv_iload_n hx hb d_MReader_forget_139 rfl (lv_at hl 0 rfl) ?_
  refine lv_iconst (v := 0) hx hb d_MReader_forget_140 (by decide) ?_
  refine va_iast hx hb hK hP hD hS 1 0 (i := 0) (x := 0) rfl rfl (vp_in_nI (n := 0) (by decide) (by decide)) d_MReader_forget_141 (fun H locs hP hD hS => ?_)
  have hP : va_P (dC, dI) classes [(h0, .inr (18, [.int 0, .ref a1, .int 0, .ref a3, .ref a4, .ref a5, .int 0, .ref a7, .int 0, .ref a9, .ref a10, .ref a11, .ref a12, .ref a13, .ref a14, .ref a15, .ref a16, .ref a17, .int 0, .ref a19, .ref a20, .ref a21, .int 0, .int 0, .int (-1), .int (-1), .int 0, .int (-1), .int 0, .int 0, .long (-1), .int (-1), .int 0, .ref a33, .int 0, .ref a35, .int 0, .ref a37, .ref a38, .int 0, .ref a40, .ref a41, .ref a42, .int 0, .ref a44, .ref a45, .ref a46, .int 0, .int 0, .int 0, .ref a50, .int 0, .ref a52, .ref a53, .int (-1), .int (-1), .int 0, .int 0, .ref a58, .int 0, .int 0, .ref a61])), (a58, .inl (cN, 10, .inl (upd (fun _ => 0) (0 : Int32).toNatClampNeg 0)))] H := hP
  have hD : va_D A [(h0, .inr (18, [.int 0, .ref a1, .int 0, .ref a3, .ref a4, .ref a5, .int 0, .ref a7, .int 0, .ref a9, .ref a10, .ref a11, .ref a12, .ref a13, .ref a14, .ref a15, .ref a16, .ref a17, .int 0, .ref a19, .ref a20, .ref a21, .int 0, .int 0, .int (-1), .int (-1), .int 0, .int (-1), .int 0, .int 0, .long (-1), .int (-1), .int 0, .ref a33, .int 0, .ref a35, .int 0, .ref a37, .ref a38, .int 0, .ref a40, .ref a41, .ref a42, .int 0, .ref a44, .ref a45, .ref a46, .int 0, .int 0, .int 0, .ref a50, .int 0, .ref a52, .ref a53, .int (-1), .int (-1), .int 0, .int 0, .ref a58, .int 0, .int 0, .ref a61])), (a58, .inl (cN, 10, .inl (upd (fun _ => 0) (0 : Int32).toNatClampNeg 0)))] := hD
  refine lv_iinc (v := 1) (lv' := [(1, .int 1), (0, .ref h0)]) hx hb d_MReader_forget_142 hl (k := 0) rfl (by decide) (by decide) rfl (fun ls hl => ?_)
  refine lv_goto (tgt := 129) hx hb d_MReader_forget_145 (by decide) ?_
  refine lv_iload_n hx hb d_MReader_forget_129 rfl (lv_at hl 0 rfl) ?_
  refine lv_bipush (v := 10) hx hb d_MReader_forget_130 (by decide) ?_
  refine lv_icmp_ge (tgt := 148) hx hb d_MReader_forget_132 (by decide) (fun c_2 => absurd c_2 (by decide)) (fun c_2 => ?_)
  refine lv_aload_n hx hb d_MReader_forget_135 rfl (lv_at hl 1 rfl) ?_
  refine va_get (D := (dC, dI)) (ci := 18) (v := .ref a58) (C := R_MReader) (T := F_MReader) (N := 62) hx hb hts (i_MReader _) hown hK hP 0 rfl rfl 58 (by decide) (hts _ (List.mem_cons_of_mem _ q_2339)) (fun _ h9 => h9) rfl d_MReader_forget_136 ?_
  refine lv_iload_n hx hb d_MReader_forget_139 rfl (lv_at hl 0 rfl) ?_
  refine lv_iconst (v := 0) hx hb d_MReader_forget_140 (by decide) ?_
  refine va_iast hx hb hK hP hD hS 1 0 (i := 1) (x := 0) rfl rfl (vp_in_nI (n := 1) (by decide) (by decide)) d_MReader_forget_141 (fun H locs hP hD hS => ?_)
  have hP : va_P (dC, dI) classes [(h0, .inr (18, [.int 0, .ref a1, .int 0, .ref a3, .ref a4, .ref a5, .int 0, .ref a7, .int 0, .ref a9, .ref a10, .ref a11, .ref a12, .ref a13, .ref a14, .ref a15, .ref a16, .ref a17, .int 0, .ref a19, .ref a20, .ref a21, .int 0, .int 0, .int (-1), .int (-1), .int 0, .int (-1), .int 0, .int 0, .long (-1), .int (-1), .int 0, .ref a33, .int 0, .ref a35, .int 0, .ref a37, .ref a38, .int 0, .ref a40, .ref a41, .ref a42, .int 0, .ref a44, .ref a45, .ref a46, .int 0, .int 0, .int 0, .ref a50, .int 0, .ref a52, .ref a53, .int (-1), .int (-1), .int 0, .int 0, .ref a58, .int 0, .int 0, .ref a61])), (a58, .inl (cN, 10, .inl (upd (upd (fun _ => 0) (0 : Int32).toNatClampNeg 0) (1 : Int32).toNatClampNeg 0)))] H := hP
  have hD : va_D A [(h0, .inr (18, [.int 0, .ref a1, .int 0, .ref a3, .ref a4, .ref a5, .int 0, .ref a7, .int 0, .ref a9, .ref a10, .ref a11, .ref a12, .ref a13, .ref a14, .ref a15, .ref a16, .ref a17, .int 0, .ref a19, .ref a20, .ref a21, .int 0, .int 0, .int (-1), .int (-1), .int 0, .int (-1), .int 0, .int 0, .long (-1), .int (-1), .int 0, .ref a33, .int 0, .ref a35, .int 0, .ref a37, .ref a38, .int 0, .ref a40, .ref a41, .ref a42, .int 0, .ref a44, .ref a45, .ref a46, .int 0, .int 0, .int 0, .ref a50, .int 0, .ref a52, .ref a53, .int (-1), .int (-1), .int 0, .int 0, .ref a58, .int 0, .int 0, .ref a61])), (a58, .inl (cN, 10, .inl (upd (upd (fun _ => 0) (0 : Int32).toNatClampNeg 0) (1 : Int32).toNatClampNeg 0)))] := hD
  refine lv_iinc (v := 2) (lv' := [(1, .int 2), (0, .ref h0)]) hx hb d_MReader_forget_142 hl (k := 0) rfl (by decide) (by decide) rfl (fun ls hl => ?_)
  refine lv_goto (tgt := 129) hx hb d_MReader_forget_145 (by decide) ?_
  refine lv_iload_n hx hb d_MReader_forget_129 rfl (lv_at hl 0 rfl) ?_
  refine lv_bipush (v := 10) hx hb d_MReader_forget_130 (by decide) ?_
  refine lv_icmp_ge (tgt := 148) hx hb d_MReader_forget_132 (by decide) (fun c_3 => absurd c_3 (by decide)) (fun c_3 => ?_)
  refine lv_aload_n hx hb d_MReader_forget_135 rfl (lv_at hl 1 rfl) ?_
  refine va_get (D := (dC, dI)) (ci := 18) (v := .ref a58) (C := R_MReader) (T := F_MReader) (N := 62) hx hb hts (i_MReader _) hown hK hP 0 rfl rfl 58 (by decide) (hts _ (List.mem_cons_of_mem _ q_2339)) (fun _ h9 => h9) rfl d_MReader_forget_136 ?_
  refine lv_iload_n hx hb d_MReader_forget_139 rfl (lv_at hl 0 rfl) ?_
  refine lv_iconst (v := 0) hx hb d_MReader_forget_140 (by decide) ?_
  refine va_iast hx hb hK hP hD hS 1 0 (i := 2) (x := 0) rfl rfl (vp_in_nI (n := 2) (by decide) (by decide)) d_MReader_forget_141 (fun H locs hP hD hS => ?_)
  have hP : va_P (dC, dI) classes [(h0, .inr (18, [.int 0, .ref a1, .int 0, .ref a3, .ref a4, .ref a5, .int 0, .ref a7, .int 0, .ref a9, .ref a10, .ref a11, .ref a12, .ref a13, .ref a14, .ref a15, .ref a16, .ref a17, .int 0, .ref a19, .ref a20, .ref a21, .int 0, .int 0, .int (-1), .int (-1), .int 0, .int (-1), .int 0, .int 0, .long (-1), .int (-1), .int 0, .ref a33, .int 0, .ref a35, .int 0, .ref a37, .ref a38, .int 0, .ref a40, .ref a41, .ref a42, .int 0, .ref a44, .ref a45, .ref a46, .int 0, .int 0, .int 0, .ref a50, .int 0, .ref a52, .ref a53, .int (-1), .int (-1), .int 0, .int 0, .ref a58, .int 0, .int 0, .ref a61])), (a58, .inl (cN, 10, .inl (upd (upd (upd (fun _ => 0) (0 : Int32).toNatClampNeg 0) (1 : Int32).toNatClampNeg 0) (2 : Int32).toNatClampNeg 0)))] H := hP
  have hD : va_D A [(h0, .inr (18, [.int 0, .ref a1, .int 0, .ref a3, .ref a4, .ref a5, .int 0, .ref a7, .int 0, .ref a9, .ref a10, .ref a11, .ref a12, .ref a13, .ref a14, .ref a15, .ref a16, .ref a17, .int 0, .ref a19, .ref a20, .ref a21, .int 0, .int 0, .int (-1), .int (-1), .int 0, .int (-1), .int 0, .int 0, .long (-1), .int (-1), .int 0, .ref a33, .int 0, .ref a35, .int 0, .ref a37, .ref a38, .int 0, .ref a40, .ref a41, .ref a42, .int 0, .ref a44, .ref a45, .ref a46, .int 0, .int 0, .int 0, .ref a50, .int 0, .ref a52, .ref a53, .int (-1), .int (-1), .int 0, .int 0, .ref a58, .int 0, .int 0, .ref a61])), (a58, .inl (cN, 10, .inl (upd (upd (upd (fun _ => 0) (0 : Int32).toNatClampNeg 0) (1 : Int32).toNatClampNeg 0) (2 : Int32).toNatClampNeg 0)))] := hD
  refine lv_iinc (v := 3) (lv' := [(1, .int 3), (0, .ref h0)]) hx hb d_MReader_forget_142 hl (k := 0) rfl (by decide) (by decide) rfl (fun ls hl => ?_)
  refine lv_goto (tgt := 129) hx hb d_MReader_forget_145 (by decide) ?_
  refine lv_iload_n hx hb d_MReader_forget_129 rfl (lv_at hl 0 rfl) ?_
  refine lv_bipush (v := 10) hx hb d_MReader_forget_130 (by decide) ?_
  refine lv_icmp_ge (tgt := 148) hx hb d_MReader_forget_132 (by decide) (fun c_4 => absurd c_4 (by decide)) (fun c_4 => ?_)
  refine lv_aload_n hx hb d_MReader_forget_135 rfl (lv_at hl 1 rfl) ?_
  refine va_get (D := (dC, dI)) (ci := 18) (v := .ref a58) (C := R_MReader) (T := F_MReader) (N := 62) hx hb hts (i_MReader _) hown hK hP 0 rfl rfl 58 (by decide) (hts _ (List.mem_cons_of_mem _ q_2339)) (fun _ h9 => h9) rfl d_MReader_forget_136 ?_
  refine lv_iload_n hx hb d_MReader_forget_139 rfl (lv_at hl 0 rfl) ?_
  refine lv_iconst (v := 0) hx hb d_MReader_forget_140 (by decide) ?_
  refine va_iast hx hb hK hP hD hS 1 0 (i := 3) (x := 0) rfl rfl (vp_in_nI (n := 3) (by decide) (by decide)) d_MReader_forget_141 (fun H locs hP hD hS => ?_)
  have hP : va_P (dC, dI) classes [(h0, .inr (18, [.int 0, .ref a1, .int 0, .ref a3, .ref a4, .ref a5, .int 0, .ref a7, .int 0, .ref a9, .ref a10, .ref a11, .ref a12, .ref a13, .ref a14, .ref a15, .ref a16, .ref a17, .int 0, .ref a19, .ref a20, .ref a21, .int 0, .int 0, .int (-1), .int (-1), .int 0, .int (-1), .int 0, .int 0, .long (-1), .int (-1), .int 0, .ref a33, .int 0, .ref a35, .int 0, .ref a37, .ref a38, .int 0, .ref a40, .ref a41, .ref a42, .int 0, .ref a44, .ref a45, .ref a46, .int 0, .int 0, .int 0, .ref a50, .int 0, .ref a52, .ref a53, .int (-1), .int (-1), .int 0, .int 0, .ref a58, .int 0, .int 0, .ref a61])), (a58, .inl (cN, 10, .inl (upd (upd (upd (upd (fun _ => 0) (0 : Int32).toNatClampNeg 0) (1 : Int32).toNatClampNeg 0) (2 : Int32).toNatClampNeg 0) (3 : Int32).toNatClampNeg 0)))] H := hP
  have hD : va_D A [(h0, .inr (18, [.int 0, .ref a1, .int 0, .ref a3, .ref a4, .ref a5, .int 0, .ref a7, .int 0, .ref a9, .ref a10, .ref a11, .ref a12, .ref a13, .ref a14, .ref a15, .ref a16, .ref a17, .int 0, .ref a19, .ref a20, .ref a21, .int 0, .int 0, .int (-1), .int (-1), .int 0, .int (-1), .int 0, .int 0, .long (-1), .int (-1), .int 0, .ref a33, .int 0, .ref a35, .int 0, .ref a37, .ref a38, .int 0, .ref a40, .ref a41, .ref a42, .int 0, .ref a44, .ref a45, .ref a46, .int 0, .int 0, .int 0, .ref a50, .int 0, .ref a52, .ref a53, .int (-1), .int (-1), .int 0, .int 0, .ref a58, .int 0, .int 0, .ref a61])), (a58, .inl (cN, 10, .inl (upd (upd (upd (upd (fun _ => 0) (0 : Int32).toNatClampNeg 0) (1 : Int32).toNatClampNeg 0) (2 : Int32).toNatClampNeg 0) (3 : Int32).toNatClampNeg 0)))] := hD
  refine lv_iinc (v := 4) (lv' := [(1, .int 4), (0, .ref h0)]) hx hb d_MReader_forget_142 hl (k := 0) rfl (by decide) (by decide) rfl (fun ls hl => ?_)
  refine lv_goto (tgt := 129) hx hb d_MReader_forget_145 (by decide) ?_
  refine lv_iload_n hx hb d_MReader_forget_129 rfl (lv_at hl 0 rfl) ?_
  refine lv_bipush (v := 10) hx hb d_MReader_forget_130 (by decide) ?_
  refine lv_icmp_ge (tgt := 148) hx hb d_MReader_forget_132 (by decide) (fun c_5 => absurd c_5 (by decide)) (fun c_5 => ?_)
  refine lv_aload_n hx hb d_MReader_forget_135 rfl (lv_at hl 1 rfl) ?_
  refine va_get (D := (dC, dI)) (ci := 18) (v := .ref a58) (C := R_MReader) (T := F_MReader) (N := 62) hx hb hts (i_MReader _) hown hK hP 0 rfl rfl 58 (by decide) (hts _ (List.mem_cons_of_mem _ q_2339)) (fun _ h9 => h9) rfl d_MReader_forget_136 ?_
  refine lv_iload_n hx hb d_MReader_forget_139 rfl (lv_at hl 0 rfl) ?_
  refine lv_iconst (v := 0) hx hb d_MReader_forget_140 (by decide) ?_
  refine va_iast hx hb hK hP hD hS 1 0 (i := 4) (x := 0) rfl rfl (vp_in_nI (n := 4) (by decide) (by decide)) d_MReader_forget_141 (fun H locs hP hD hS => ?_)
  have hP : va_P (dC, dI) classes [(h0, .inr (18, [.int 0, .ref a1, .int 0, .ref a3, .ref a4, .ref a5, .int 0, .ref a7, .int 0, .ref a9, .ref a10, .ref a11, .ref a12, .ref a13, .ref a14, .ref a15, .ref a16, .ref a17, .int 0, .ref a19, .ref a20, .ref a21, .int 0, .int 0, .int (-1), .int (-1), .int 0, .int (-1), .int 0, .int 0, .long (-1), .int (-1), .int 0, .ref a33, .int 0, .ref a35, .int 0, .ref a37, .ref a38, .int 0, .ref a40, .ref a41, .ref a42, .int 0, .ref a44, .ref a45, .ref a46, .int 0, .int 0, .int 0, .ref a50, .int 0, .ref a52, .ref a53, .int (-1), .int (-1), .int 0, .int 0, .ref a58, .int 0, .int 0, .ref a61])), (a58, .inl (cN, 10, .inl (upd (upd (upd (upd (upd (fun _ => 0) (0 : Int32).toNatClampNeg 0) (1 : Int32).toNatClampNeg 0) (2 : Int32).toNatClampNeg 0) (3 : Int32).toNatClampNeg 0) (4 : Int32).toNatClampNeg 0)))] H := hP
  have hD : va_D A [(h0, .inr (18, [.int 0, .ref a1, .int 0, .ref a3, .ref a4, .ref a5, .int 0, .ref a7, .int 0, .ref a9, .ref a10, .ref a11, .ref a12, .ref a13, .ref a14, .ref a15, .ref a16, .ref a17, .int 0, .ref a19, .ref a20, .ref a21, .int 0, .int 0, .int (-1), .int (-1), .int 0, .int (-1), .int 0, .int 0, .long (-1), .int (-1), .int 0, .ref a33, .int 0, .ref a35, .int 0, .ref a37, .ref a38, .int 0, .ref a40, .ref a41, .ref a42, .int 0, .ref a44, .ref a45, .ref a46, .int 0, .int 0, .int 0, .ref a50, .int 0, .ref a52, .ref a53, .int (-1), .int (-1), .int 0, .int 0, .ref a58, .int 0, .int 0, .ref a61])), (a58, .inl (cN, 10, .inl (upd (upd (upd (upd (upd (fun _ => 0) (0 : Int32).toNatClampNeg 0) (1 : Int32).toNatClampNeg 0) (2 : Int32).toNatClampNeg 0) (3 : Int32).toNatClampNeg 0) (4 : Int32).toNatClampNeg 0)))] := hD
  refine lv_iinc (v := 5) (lv' := [(1, .int 5), (0, .ref h0)]) hx hb d_MReader_forget_142 hl (k := 0) rfl (by decide) (by decide) rfl (fun ls hl => ?_)
  refine lv_goto (tgt := 129) hx hb d_MReader_forget_145 (by decide) ?_
  refine lv_iload_n hx hb d_MReader_forget_129 rfl (lv_at hl 0 rfl) ?_
  refine lv_bipush (v := 10) hx hb d_MReader_forget_130 (by decide) ?_
  refine lv_icmp_ge (tgt := 148) hx hb d_MReader_forget_132 (by decide) (fun c_6 => absurd c_6 (by decide)) (fun c_6 => ?_)
  refine lv_aload_n hx hb d_MReader_forget_135 rfl (lv_at hl 1 rfl) ?_
  refine va_get (D := (dC, dI)) (ci := 18) (v := .ref a58) (C := R_MReader) (T := F_MReader) (N := 62) hx hb hts (i_MReader _) hown hK hP 0 rfl rfl 58 (by decide) (hts _ (List.mem_cons_of_mem _ q_2339)) (fun _ h9 => h9) rfl d_MReader_forget_136 ?_
  refine lv_iload_n hx hb d_MReader_forget_139 rfl (lv_at hl 0 rfl) ?_
  refine lv_iconst (v := 0) hx hb d_MReader_forget_140 (by decide) ?_
  refine va_iast hx hb hK hP hD hS 1 0 (i := 5) (x := 0) rfl rfl (vp_in_nI (n := 5) (by decide) (by decide)) d_MReader_forget_141 (fun H locs hP hD hS => ?_)
  have hP : va_P (dC, dI) classes [(h0, .inr (18, [.int 0, .ref a1, .int 0, .ref a3, .ref a4, .ref a5, .int 0, .ref a7, .int 0, .ref a9, .ref a10, .ref a11, .ref a12, .ref a13, .ref a14, .ref a15, .ref a16, .ref a17, .int 0, .ref a19, .ref a20, .ref a21, .int 0, .int 0, .int (-1), .int (-1), .int 0, .int (-1), .int 0, .int 0, .long (-1), .int (-1), .int 0, .ref a33, .int 0, .ref a35, .int 0, .ref a37, .ref a38, .int 0, .ref a40, .ref a41, .ref a42, .int 0, .ref a44, .ref a45, .ref a46, .int 0, .int 0, .int 0, .ref a50, .int 0, .ref a52, .ref a53, .int (-1), .int (-1), .int 0, .int 0, .ref a58, .int 0, .int 0, .ref a61])), (a58, .inl (cN, 10, .inl (upd (upd (upd (upd (upd (upd (fun _ => 0) (0 : Int32).toNatClampNeg 0) (1 : Int32).toNatClampNeg 0) (2 : Int32).toNatClampNeg 0) (3 : Int32).toNatClampNeg 0) (4 : Int32).toNatClampNeg 0) (5 : Int32).toNatClampNeg 0)))] H := hP
  have hD : va_D A [(h0, .inr (18, [.int 0, .ref a1, .int 0, .ref a3, .ref a4, .ref a5, .int 0, .ref a7, .int 0, .ref a9, .ref a10, .ref a11, .ref a12, .ref a13, .ref a14, .ref a15, .ref a16, .ref a17, .int 0, .ref a19, .ref a20, .ref a21, .int 0, .int 0, .int (-1), .int (-1), .int 0, .int (-1), .int 0, .int 0, .long (-1), .int (-1), .int 0, .ref a33, .int 0, .ref a35, .int 0, .ref a37, .ref a38, .int 0, .ref a40, .ref a41, .ref a42, .int 0, .ref a44, .ref a45, .ref a46, .int 0, .int 0, .int 0, .ref a50, .int 0, .ref a52, .ref a53, .int (-1), .int (-1), .int 0, .int 0, .ref a58, .int 0, .int 0, .ref a61])), (a58, .inl (cN, 10, .inl (upd (upd (upd (upd (upd (upd (fun _ => 0) (0 : Int32).toNatClampNeg 0) (1 : Int32).toNatClampNeg 0) (2 : Int32).toNatClampNeg 0) (3 : Int32).toNatClampNeg 0) (4 : Int32).toNatClampNeg 0) (5 : Int32).toNatClampNeg 0)))] := hD
  refine lv_iinc (v := 6) (lv' := [(1, .int 6), (0, .ref h0)]) hx hb d_MReader_forget_142 hl (k := 0) rfl (by decide) (by decide) rfl (fun ls hl => ?_)
  refine lv_goto (tgt := 129) hx hb d_MReader_forget_145 (by decide) ?_
  refine lv_iload_n hx hb d_MReader_forget_129 rfl (lv_at hl 0 rfl) ?_
  refine lv_bipush (v := 10) hx hb d_MReader_forget_130 (by decide) ?_
  refine lv_icmp_ge (tgt := 148) hx hb d_MReader_forget_132 (by decide) (fun c_7 => absurd c_7 (by decide)) (fun c_7 => ?_)
  refine lv_aload_n hx hb d_MReader_forget_135 rfl (lv_at hl 1 rfl) ?_
  refine va_get (D := (dC, dI)) (ci := 18) (v := .ref a58) (C := R_MReader) (T := F_MReader) (N := 62) hx hb hts (i_MReader _) hown hK hP 0 rfl rfl 58 (by decide) (hts _ (List.mem_cons_of_mem _ q_2339)) (fun _ h9 => h9) rfl d_MReader_forget_136 ?_
  refine lv_iload_n hx hb d_MReader_forget_139 rfl (lv_at hl 0 rfl) ?_
  refine lv_iconst (v := 0) hx hb d_MReader_forget_140 (by decide) ?_
  refine va_iast hx hb hK hP hD hS 1 0 (i := 6) (x := 0) rfl rfl (vp_in_nI (n := 6) (by decide) (by decide)) d_MReader_forget_141 (fun H locs hP hD hS => ?_)
  have hP : va_P (dC, dI) classes [(h0, .inr (18, [.int 0, .ref a1, .int 0, .ref a3, .ref a4, .ref a5, .int 0, .ref a7, .int 0, .ref a9, .ref a10, .ref a11, .ref a12, .ref a13, .ref a14, .ref a15, .ref a16, .ref a17, .int 0, .ref a19, .ref a20, .ref a21, .int 0, .int 0, .int (-1), .int (-1), .int 0, .int (-1), .int 0, .int 0, .long (-1), .int (-1), .int 0, .ref a33, .int 0, .ref a35, .int 0, .ref a37, .ref a38, .int 0, .ref a40, .ref a41, .ref a42, .int 0, .ref a44, .ref a45, .ref a46, .int 0, .int 0, .int 0, .ref a50, .int 0, .ref a52, .ref a53, .int (-1), .int (-1), .int 0, .int 0, .ref a58, .int 0, .int 0, .ref a61])), (a58, .inl (cN, 10, .inl (upd (upd (upd (upd (upd (upd (upd (fun _ => 0) (0 : Int32).toNatClampNeg 0) (1 : Int32).toNatClampNeg 0) (2 : Int32).toNatClampNeg 0) (3 : Int32).toNatClampNeg 0) (4 : Int32).toNatClampNeg 0) (5 : Int32).toNatClampNeg 0) (6 : Int32).toNatClampNeg 0)))] H := hP
  have hD : va_D A [(h0, .inr (18, [.int 0, .ref a1, .int 0, .ref a3, .ref a4, .ref a5, .int 0, .ref a7, .int 0, .ref a9, .ref a10, .ref a11, .ref a12, .ref a13, .ref a14, .ref a15, .ref a16, .ref a17, .int 0, .ref a19, .ref a20, .ref a21, .int 0, .int 0, .int (-1), .int (-1), .int 0, .int (-1), .int 0, .int 0, .long (-1), .int (-1), .int 0, .ref a33, .int 0, .ref a35, .int 0, .ref a37, .ref a38, .int 0, .ref a40, .ref a41, .ref a42, .int 0, .ref a44, .ref a45, .ref a46, .int 0, .int 0, .int 0, .ref a50, .int 0, .ref a52, .ref a53, .int (-1), .int (-1), .int 0, .int 0, .ref a58, .int 0, .int 0, .ref a61])), (a58, .inl (cN, 10, .inl (upd (upd (upd (upd (upd (upd (upd (fun _ => 0) (0 : Int32).toNatClampNeg 0) (1 : Int32).toNatClampNeg 0) (2 : Int32).toNatClampNeg 0) (3 : Int32).toNatClampNeg 0) (4 : Int32).toNatClampNeg 0) (5 : Int32).toNatClampNeg 0) (6 : Int32).toNatClampNeg 0)))] := hD
  refine lv_iinc (v := 7) (lv' := [(1, .int 7), (0, .ref h0)]) hx hb d_MReader_forget_142 hl (k := 0) rfl (by decide) (by decide) rfl (fun ls hl => ?_)
  refine lv_goto (tgt := 129) hx hb d_MReader_forget_145 (by decide) ?_
  refine lv_iload_n hx hb d_MReader_forget_129 rfl (lv_at hl 0 rfl) ?_
  refine lv_bipush (v := 10) hx hb d_MReader_forget_130 (by decide) ?_
  refine lv_icmp_ge (tgt := 148) hx hb d_MReader_forget_132 (by decide) (fun c_8 => absurd c_8 (by decide)) (fun c_8 => ?_)
  refine lv_aload_n hx hb d_MReader_forget_135 rfl (lv_at hl 1 rfl) ?_
  refine va_get (D := (dC, dI)) (ci := 18) (v := .ref a58) (C := R_MReader) (T := F_MReader) (N := 62) hx hb hts (i_MReader _) hown hK hP 0 rfl rfl 58 (by decide) (hts _ (List.mem_cons_of_mem _ q_2339)) (fun _ h9 => h9) rfl d_MReader_forget_136 ?_
  refine lv_iload_n hx hb d_MReader_forget_139 rfl (lv_at hl 0 rfl) ?_
  refine lv_iconst (v := 0) hx hb d_MReader_forget_140 (by decide) ?_
  refine va_iast hx hb hK hP hD hS 1 0 (i := 7) (x := 0) rfl rfl (vp_in_nI (n := 7) (by decide) (by decide)) d_MReader_forget_141 (fun H locs hP hD hS => ?_)
  have hP : va_P (dC, dI) classes [(h0, .inr (18, [.int 0, .ref a1, .int 0, .ref a3, .ref a4, .ref a5, .int 0, .ref a7, .int 0, .ref a9, .ref a10, .ref a11, .ref a12, .ref a13, .ref a14, .ref a15, .ref a16, .ref a17, .int 0, .ref a19, .ref a20, .ref a21, .int 0, .int 0, .int (-1), .int (-1), .int 0, .int (-1), .int 0, .int 0, .long (-1), .int (-1), .int 0, .ref a33, .int 0, .ref a35, .int 0, .ref a37, .ref a38, .int 0, .ref a40, .ref a41, .ref a42, .int 0, .ref a44, .ref a45, .ref a46, .int 0, .int 0, .int 0, .ref a50, .int 0, .ref a52, .ref a53, .int (-1), .int (-1), .int 0, .int 0, .ref a58, .int 0, .int 0, .ref a61])), (a58, .inl (cN, 10, .inl (upd (upd (upd (upd (upd (upd (upd (upd (fun _ => 0) (0 : Int32).toNatClampNeg 0) (1 : Int32).toNatClampNeg 0) (2 : Int32).toNatClampNeg 0) (3 : Int32).toNatClampNeg 0) (4 : Int32).toNatClampNeg 0) (5 : Int32).toNatClampNeg 0) (6 : Int32).toNatClampNeg 0) (7 : Int32).toNatClampNeg 0)))] H := hP
  have hD : va_D A [(h0, .inr (18, [.int 0, .ref a1, .int 0, .ref a3, .ref a4, .ref a5, .int 0, .ref a7, .int 0, .ref a9, .ref a10, .ref a11, .ref a12, .ref a13, .ref a14, .ref a15, .ref a16, .ref a17, .int 0, .ref a19, .ref a20, .ref a21, .int 0, .int 0, .int (-1), .int (-1), .int 0, .int (-1), .int 0, .int 0, .long (-1), .int (-1), .int 0, .ref a33, .int 0, .ref a35, .int 0, .ref a37, .ref a38, .int 0, .ref a40, .ref a41, .ref a42, .int 0, .ref a44, .ref a45, .ref a46, .int 0, .int 0, .int 0, .ref a50, .int 0, .ref a52, .ref a53, .int (-1), .int (-1), .int 0, .int 0, .ref a58, .int 0, .int 0, .ref a61])), (a58, .inl (cN, 10, .inl (upd (upd (upd (upd (upd (upd (upd (upd (fun _ => 0) (0 : Int32).toNatClampNeg 0) (1 : Int32).toNatClampNeg 0) (2 : Int32).toNatClampNeg 0) (3 : Int32).toNatClampNeg 0) (4 : Int32).toNatClampNeg 0) (5 : Int32).toNatClampNeg 0) (6 : Int32).toNatClampNeg 0) (7 : Int32).toNatClampNeg 0)))] := hD
  refine lv_iinc (v := 8) (lv' := [(1, .int 8), (0, .ref h0)]) hx hb d_MReader_forget_142 hl (k := 0) rfl (by decide) (by decide) rfl (fun ls hl => ?_)
  refine lv_goto (tgt := 129) hx hb d_MReader_forget_145 (by decide) ?_
  refine lv_iload_n hx hb d_MReader_forget_129 rfl (lv_at hl 0 rfl) ?_
  refine lv_bipush (v := 10) hx hb d_MReader_forget_130 (by decide) ?_
  refine lv_icmp_ge (tgt := 148) hx hb d_MReader_forget_132 (by decide) (fun c_9 => absurd c_9 (by decide)) (fun c_9 => ?_)
  refine lv_aload_n hx hb d_MReader_forget_135 rfl (lv_at hl 1 rfl) ?_
  refine va_get (D := (dC, dI)) (ci := 18) (v := .ref a58) (C := R_MReader) (T := F_MReader) (N := 62) hx hb hts (i_MReader _) hown hK hP 0 rfl rfl 58 (by decide) (hts _ (List.mem_cons_of_mem _ q_2339)) (fun _ h9 => h9) rfl d_MReader_forget_136 ?_
  refine lv_iload_n hx hb d_MReader_forget_139 rfl (lv_at hl 0 rfl) ?_
  refine lv_iconst (v := 0) hx hb d_MReader_forget_140 (by decide) ?_
  refine va_iast hx hb hK hP hD hS 1 0 (i := 8) (x := 0) rfl rfl (vp_in_nI (n := 8) (by decide) (by decide)) d_MReader_forget_141 (fun H locs hP hD hS => ?_)
  have hP : va_P (dC, dI) classes [(h0, .inr (18, [.int 0, .ref a1, .int 0, .ref a3, .ref a4, .ref a5, .int 0, .ref a7, .int 0, .ref a9, .ref a10, .ref a11, .ref a12, .ref a13, .ref a14, .ref a15, .ref a16, .ref a17, .int 0, .ref a19, .ref a20, .ref a21, .int 0, .int 0, .int (-1), .int (-1), .int 0, .int (-1), .int 0, .int 0, .long (-1), .int (-1), .int 0, .ref a33, .int 0, .ref a35, .int 0, .ref a37, .ref a38, .int 0, .ref a40, .ref a41, .ref a42, .int 0, .ref a44, .ref a45, .ref a46, .int 0, .int 0, .int 0, .ref a50, .int 0, .ref a52, .ref a53, .int (-1), .int (-1), .int 0, .int 0, .ref a58, .int 0, .int 0, .ref a61])), (a58, .inl (cN, 10, .inl (upd (upd (upd (upd (upd (upd (upd (upd (upd (fun _ => 0) (0 : Int32).toNatClampNeg 0) (1 : Int32).toNatClampNeg 0) (2 : Int32).toNatClampNeg 0) (3 : Int32).toNatClampNeg 0) (4 : Int32).toNatClampNeg 0) (5 : Int32).toNatClampNeg 0) (6 : Int32).toNatClampNeg 0) (7 : Int32).toNatClampNeg 0) (8 : Int32).toNatClampNeg 0)))] H := hP
  have hD : va_D A [(h0, .inr (18, [.int 0, .ref a1, .int 0, .ref a3, .ref a4, .ref a5, .int 0, .ref a7, .int 0, .ref a9, .ref a10, .ref a11, .ref a12, .ref a13, .ref a14, .ref a15, .ref a16, .ref a17, .int 0, .ref a19, .ref a20, .ref a21, .int 0, .int 0, .int (-1), .int (-1), .int 0, .int (-1), .int 0, .int 0, .long (-1), .int (-1), .int 0, .ref a33, .int 0, .ref a35, .int 0, .ref a37, .ref a38, .int 0, .ref a40, .ref a41, .ref a42, .int 0, .ref a44, .ref a45, .ref a46, .int 0, .int 0, .int 0, .ref a50, .int 0, .ref a52, .ref a53, .int (-1), .int (-1), .int 0, .int 0, .ref a58, .int 0, .int 0, .ref a61])), (a58, .inl (cN, 10, .inl (upd (upd (upd (upd (upd (upd (upd (upd (upd (fun _ => 0) (0 : Int32).toNatClampNeg 0) (1 : Int32).toNatClampNeg 0) (2 : Int32).toNatClampNeg 0) (3 : Int32).toNatClampNeg 0) (4 : Int32).toNatClampNeg 0) (5 : Int32).toNatClampNeg 0) (6 : Int32).toNatClampNeg 0) (7 : Int32).toNatClampNeg 0) (8 : Int32).toNatClampNeg 0)))] := hD
  refine lv_iinc (v := 9) (lv' := [(1, .int 9), (0, .ref h0)]) hx hb d_MReader_forget_142 hl (k := 0) rfl (by decide) (by decide) rfl (fun ls hl => ?_)
  refine lv_goto (tgt := 129) hx hb d_MReader_forget_145 (by decide) ?_
  refine lv_iload_n hx hb d_MReader_forget_129 rfl (lv_at hl 0 rfl) ?_
  refine lv_bipush (v := 10) hx hb d_MReader_forget_130 (by decide) ?_
  refine lv_icmp_ge (tgt := 148) hx hb d_MReader_forget_132 (by decide) (fun c_10 => absurd c_10 (by decide)) (fun c_10 => ?_)
  refine lv_aload_n hx hb d_MReader_forget_135 rfl (lv_at hl 1 rfl) ?_
  refine va_get (D := (dC, dI)) (ci := 18) (v := .ref a58) (C := R_MReader) (T := F_MReader) (N := 62) hx hb hts (i_MReader _) hown hK hP 0 rfl rfl 58 (by decide) (hts _ (List.mem_cons_of_mem _ q_2339)) (fun _ h9 => h9) rfl d_MReader_forget_136 ?_
  refine lv_iload_n hx hb d_MReader_forget_139 rfl (lv_at hl 0 rfl) ?_
  refine lv_iconst (v := 0) hx hb d_MReader_forget_140 (by decide) ?_
  refine va_iast hx hb hK hP hD hS 1 0 (i := 9) (x := 0) rfl rfl (vp_in_nI (n := 9) (by decide) (by decide)) d_MReader_forget_141 (fun H locs hP hD hS => ?_)
  have hP : va_P (dC, dI) classes [(h0, .inr (18, [.int 0, .ref a1, .int 0, .ref a3, .ref a4, .ref a5, .int 0, .ref a7, .int 0, .ref a9, .ref a10, .ref a11, .ref a12, .ref a13, .ref a14, .ref a15, .ref a16, .ref a17, .int 0, .ref a19, .ref a20, .ref a21, .int 0, .int 0, .int (-1), .int (-1), .int 0, .int (-1), .int 0, .int 0, .long (-1), .int (-1), .int 0, .ref a33, .int 0, .ref a35, .int 0, .ref a37, .ref a38, .int 0, .ref a40, .ref a41, .ref a42, .int 0, .ref a44, .ref a45, .ref a46, .int 0, .int 0, .int 0, .ref a50, .int 0, .ref a52, .ref a53, .int (-1), .int (-1), .int 0, .int 0, .ref a58, .int 0, .int 0, .ref a61])), (a58, .inl (cN, 10, .inl (upd (upd (upd (upd (upd (upd (upd (upd (upd (upd (fun _ => 0) (0 : Int32).toNatClampNeg 0) (1 : Int32).toNatClampNeg 0) (2 : Int32).toNatClampNeg 0) (3 : Int32).toNatClampNeg 0) (4 : Int32).toNatClampNeg 0) (5 : Int32).toNatClampNeg 0) (6 : Int32).toNatClampNeg 0) (7 : Int32).toNatClampNeg 0) (8 : Int32).toNatClampNeg 0) (9 : Int32).toNatClampNeg 0)))] H := hP
  have hD : va_D A [(h0, .inr (18, [.int 0, .ref a1, .int 0, .ref a3, .ref a4, .ref a5, .int 0, .ref a7, .int 0, .ref a9, .ref a10, .ref a11, .ref a12, .ref a13, .ref a14, .ref a15, .ref a16, .ref a17, .int 0, .ref a19, .ref a20, .ref a21, .int 0, .int 0, .int (-1), .int (-1), .int 0, .int (-1), .int 0, .int 0, .long (-1), .int (-1), .int 0, .ref a33, .int 0, .ref a35, .int 0, .ref a37, .ref a38, .int 0, .ref a40, .ref a41, .ref a42, .int 0, .ref a44, .ref a45, .ref a46, .int 0, .int 0, .int 0, .ref a50, .int 0, .ref a52, .ref a53, .int (-1), .int (-1), .int 0, .int 0, .ref a58, .int 0, .int 0, .ref a61])), (a58, .inl (cN, 10, .inl (upd (upd (upd (upd (upd (upd (upd (upd (upd (upd (fun _ => 0) (0 : Int32).toNatClampNeg 0) (1 : Int32).toNatClampNeg 0) (2 : Int32).toNatClampNeg 0) (3 : Int32).toNatClampNeg 0) (4 : Int32).toNatClampNeg 0) (5 : Int32).toNatClampNeg 0) (6 : Int32).toNatClampNeg 0) (7 : Int32).toNatClampNeg 0) (8 : Int32).toNatClampNeg 0) (9 : Int32).toNatClampNeg 0)))] := hD
  refine lv_iinc (v := 10) (lv' := [(1, .int 10), (0, .ref h0)]) hx hb d_MReader_forget_142 hl (k := 0) rfl (by decide) (by decide) rfl (fun ls hl => ?_)
  refine lv_goto (tgt := 129) hx hb d_MReader_forget_145 (by decide) ?_
  refine lv_iload_n hx hb d_MReader_forget_129 rfl (lv_at hl 0 rfl) ?_
  refine lv_bipush (v := 10) hx hb d_MReader_forget_130 (by decide) ?_
  refine lv_icmp_ge (tgt := 148) hx hb d_MReader_forget_132 (by decide) (fun c_11 => ?_) (fun c_11 => absurd (by decide) c_11)
  have hP9 := hP.sub (ws' := []) [] rfl
  have hD9 := hD.sub (ws' := []) [] (by decide) rfl
  have hK9 := hK.sub (tys' := []) [] rfl
  refine W.widen (k := 0) (n := 0) (Nat.le_of_ble_eq_true rfl) (Nat.le_of_ble_eq_true rfl) ?_
  exact W.vret hx hb hr (fun t ht hW => ⟨⟨(), rfl, trivial, by rw [ht]; exact hP9, va_K.moved hW.alike hK9, hD9⟩, hS.F ht⟩) hS.2.2 d_MReader_forget_148
